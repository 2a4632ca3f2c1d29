theorem dSt_init_0 : decode cSt_init 0 = .ok (.aload_n 0, 1) := by decide +kernel
theorem dSt_init_1 : decode cSt_init 1 = .ok (.invokespecial 3, 3) := by decide +kernel
theorem dSt_init_4 : decode cSt_init 4 = .ok (.aload_n 0, 1) := by decide +kernel
theorem dSt_init_5 : decode cSt_init 5 = .ok (.aload_n 2, 1) := by decide +kernel
theorem dSt_init_6 : decode cSt_init 6 = .ok (.putfield 9, 3) := by decide +kernel
theorem dSt_init_9 : decode cSt_init 9 = .ok (.aload_n 0, 1) := by decide +kernel
theorem dSt_init_10 : decode cSt_init 10 = .ok (.aload_n 3, 1) := by decide +kernel
theorem dSt_init_11 : decode cSt_init 11 = .ok (.putfield 15, 3) := by decide +kernel
theorem dSt_init_14 : decode cSt_init 14 = .ok (.aload_n 0, 1) := by decide +kernel
theorem dSt_init_15 : decode cSt_init 15 = .ok (.new 18, 3) := by decide +kernel
theorem dSt_init_18 : decode cSt_init 18 = .ok (.dup, 1) := by decide +kernel
theorem dSt_init_19 : decode cSt_init 19 = .ok (.bipush 16, 2) := by decide +kernel
theorem dSt_init_21 : decode cSt_init 21 = .ok (.invokespecial 20, 3) := by decide +kernel
theorem dSt_init_24 : decode cSt_init 24 = .ok (.putfield 23, 3) := by decide +kernel
theorem dSt_init_27 : decode cSt_init 27 = .ok (.aload_n 0, 1) := by decide +kernel
theorem dSt_init_28 : decode cSt_init 28 = .ok (.iconst 3, 1) := by decide +kernel
theorem dSt_init_29 : decode cSt_init 29 = .ok (.anewarray 26, 3) := by decide +kernel
theorem dSt_init_32 : decode cSt_init 32 = .ok (.putfield 28, 3) := by decide +kernel
theorem dSt_init_35 : decode cSt_init 35 = .ok (.iconst 0, 1) := by decide +kernel
theorem dSt_init_36 : decode cSt_init 36 = .ok (.istore 4, 2) := by decide +kernel
theorem dSt_init_38 : decode cSt_init 38 = .ok (.iload 4, 2) := by decide +kernel
theorem dSt_init_40 : decode cSt_init 40 = .ok (.iconst 3, 1) := by decide +kernel
theorem dSt_init_41 : decode cSt_init 41 = .ok (.if_icmp .ge 24, 3) := by decide +kernel
theorem dSt_init_44 : decode cSt_init 44 = .ok (.aload_n 0, 1) := by decide +kernel
theorem dSt_init_45 : decode cSt_init 45 = .ok (.getfield 28, 3) := by decide +kernel
theorem dSt_init_48 : decode cSt_init 48 = .ok (.iload 4, 2) := by decide +kernel
theorem dSt_init_50 : decode cSt_init 50 = .ok (.new 26, 3) := by decide +kernel
theorem dSt_init_53 : decode cSt_init 53 = .ok (.dup, 1) := by decide +kernel
theorem dSt_init_54 : decode cSt_init 54 = .ok (.iload_n 1, 1) := by decide +kernel
theorem dSt_init_55 : decode cSt_init 55 = .ok (.invokespecial 32, 3) := by decide +kernel
theorem dSt_init_58 : decode cSt_init 58 = .ok (.aastore, 1) := by decide +kernel
theorem dSt_init_59 : decode cSt_init 59 = .ok (.iinc 4 1, 3) := by decide +kernel
theorem dSt_init_62 : decode cSt_init 62 = .ok (.goto (-24), 3) := by decide +kernel
theorem dSt_init_65 : decode cSt_init 65 = .ok (.aload_n 0, 1) := by decide +kernel
theorem dSt_init_66 : decode cSt_init 66 = .ok (.iconst 0, 1) := by decide +kernel
theorem dSt_init_67 : decode cSt_init 67 = .ok (.putfield 35, 3) := by decide +kernel
theorem dSt_init_70 : decode cSt_init 70 = .ok (.return_, 1) := by decide +kernel
theorem dSt_setUp_0 : decode cSt_setUp 0 = .ok (.aload_n 0, 1) := by decide +kernel
theorem dSt_setUp_1 : decode cSt_setUp 1 = .ok (.iconst 1, 1) := by decide +kernel
theorem dSt_setUp_2 : decode cSt_setUp 2 = .ok (.invokevirtual 39, 3) := by decide +kernel
theorem dSt_setUp_5 : decode cSt_setUp 5 = .ok (.aload_n 0, 1) := by decide +kernel
theorem dSt_setUp_6 : decode cSt_setUp 6 = .ok (.iconst 1, 1) := by decide +kernel
theorem dSt_setUp_7 : decode cSt_setUp 7 = .ok (.invokevirtual 44, 3) := by decide +kernel
theorem dSt_setUp_10 : decode cSt_setUp 10 = .ok (.return_, 1) := by decide +kernel
theorem dSt_waitsForAnswer_0 : decode cSt_waitsForAnswer 0 = .ok (.aload_n 0, 1) := by decide +kernel
theorem dSt_waitsForAnswer_1 : decode cSt_waitsForAnswer 1 = .ok (.getfield 35, 3) := by decide +kernel
theorem dSt_waitsForAnswer_4 : decode cSt_waitsForAnswer 4 = .ok (.iconst 1, 1) := by decide +kernel
theorem dSt_waitsForAnswer_5 : decode cSt_waitsForAnswer 5 = .ok (.if_icmp .eq 18, 3) := by decide +kernel
theorem dSt_waitsForAnswer_8 : decode cSt_waitsForAnswer 8 = .ok (.aload_n 0, 1) := by decide +kernel
theorem dSt_waitsForAnswer_9 : decode cSt_waitsForAnswer 9 = .ok (.getfield 35, 3) := by decide +kernel
theorem dSt_waitsForAnswer_12 : decode cSt_waitsForAnswer 12 = .ok (.iconst 2, 1) := by decide +kernel
theorem dSt_waitsForAnswer_13 : decode cSt_waitsForAnswer 13 = .ok (.if_icmp .ne 14, 3) := by decide +kernel
theorem dSt_waitsForAnswer_16 : decode cSt_waitsForAnswer 16 = .ok (.aload_n 0, 1) := by decide +kernel
theorem dSt_waitsForAnswer_17 : decode cSt_waitsForAnswer 17 = .ok (.invokevirtual 47, 3) := by decide +kernel
theorem dSt_waitsForAnswer_20 : decode cSt_waitsForAnswer 20 = .ok (.ifCond .le 7, 3) := by decide +kernel
theorem dSt_waitsForAnswer_23 : decode cSt_waitsForAnswer 23 = .ok (.iconst 1, 1) := by decide +kernel
theorem dSt_waitsForAnswer_24 : decode cSt_waitsForAnswer 24 = .ok (.goto 4, 3) := by decide +kernel
theorem dSt_waitsForAnswer_27 : decode cSt_waitsForAnswer 27 = .ok (.iconst 0, 1) := by decide +kernel
theorem dSt_waitsForAnswer_28 : decode cSt_waitsForAnswer 28 = .ok (.ireturn, 1) := by decide +kernel
theorem dSt_takesCalls_0 : decode cSt_takesCalls 0 = .ok (.aload_n 0, 1) := by decide +kernel
theorem dSt_takesCalls_1 : decode cSt_takesCalls 1 = .ok (.getfield 35, 3) := by decide +kernel
theorem dSt_takesCalls_4 : decode cSt_takesCalls 4 = .ok (.iconst 2, 1) := by decide +kernel
theorem dSt_takesCalls_5 : decode cSt_takesCalls 5 = .ok (.if_icmp .ne 19, 3) := by decide +kernel
theorem dSt_takesCalls_8 : decode cSt_takesCalls 8 = .ok (.aload_n 0, 1) := by decide +kernel
theorem dSt_takesCalls_9 : decode cSt_takesCalls 9 = .ok (.getfield 23, 3) := by decide +kernel
theorem dSt_takesCalls_12 : decode cSt_takesCalls 12 = .ok (.getfield 51, 3) := by decide +kernel
theorem dSt_takesCalls_15 : decode cSt_takesCalls 15 = .ok (.bipush 9, 2) := by decide +kernel
theorem dSt_takesCalls_17 : decode cSt_takesCalls 17 = .ok (.if_icmp .gt 7, 3) := by decide +kernel
theorem dSt_takesCalls_20 : decode cSt_takesCalls 20 = .ok (.iconst 1, 1) := by decide +kernel
theorem dSt_takesCalls_21 : decode cSt_takesCalls 21 = .ok (.goto 4, 3) := by decide +kernel
theorem dSt_takesCalls_24 : decode cSt_takesCalls 24 = .ok (.iconst 0, 1) := by decide +kernel
theorem dSt_takesCalls_25 : decode cSt_takesCalls 25 = .ok (.ireturn, 1) := by decide +kernel
theorem dSt_tryAgain_0 : decode cSt_tryAgain 0 = .ok (.aload_n 0, 1) := by decide +kernel
theorem dSt_tryAgain_1 : decode cSt_tryAgain 1 = .ok (.getfield 54, 3) := by decide +kernel
theorem dSt_tryAgain_4 : decode cSt_tryAgain 4 = .ok (.iconst 1, 1) := by decide +kernel
theorem dSt_tryAgain_5 : decode cSt_tryAgain 5 = .ok (.iadd, 1) := by decide +kernel
theorem dSt_tryAgain_6 : decode cSt_tryAgain 6 = .ok (.istore_n 1, 1) := by decide +kernel
theorem dSt_tryAgain_7 : decode cSt_tryAgain 7 = .ok (.aload_n 0, 1) := by decide +kernel
theorem dSt_tryAgain_8 : decode cSt_tryAgain 8 = .ok (.iload_n 1, 1) := by decide +kernel
theorem dSt_tryAgain_9 : decode cSt_tryAgain 9 = .ok (.putfield 54, 3) := by decide +kernel
theorem dSt_tryAgain_12 : decode cSt_tryAgain 12 = .ok (.iload_n 1, 1) := by decide +kernel
theorem dSt_tryAgain_13 : decode cSt_tryAgain 13 = .ok (.iconst 4, 1) := by decide +kernel
theorem dSt_tryAgain_14 : decode cSt_tryAgain 14 = .ok (.if_icmp .lt 10, 3) := by decide +kernel
theorem dSt_tryAgain_17 : decode cSt_tryAgain 17 = .ok (.aload_n 0, 1) := by decide +kernel
theorem dSt_tryAgain_18 : decode cSt_tryAgain 18 = .ok (.invokevirtual 57, 3) := by decide +kernel
theorem dSt_tryAgain_21 : decode cSt_tryAgain 21 = .ok (.goto 23, 3) := by decide +kernel
theorem dSt_tryAgain_24 : decode cSt_tryAgain 24 = .ok (.aload_n 0, 1) := by decide +kernel
theorem dSt_tryAgain_25 : decode cSt_tryAgain 25 = .ok (.getfield 35, 3) := by decide +kernel
theorem dSt_tryAgain_28 : decode cSt_tryAgain 28 = .ok (.iconst 1, 1) := by decide +kernel
theorem dSt_tryAgain_29 : decode cSt_tryAgain 29 = .ok (.if_icmp .ne 11, 3) := by decide +kernel
theorem dSt_tryAgain_32 : decode cSt_tryAgain 32 = .ok (.aload_n 0, 1) := by decide +kernel
theorem dSt_tryAgain_33 : decode cSt_tryAgain 33 = .ok (.iconst 1, 1) := by decide +kernel
theorem dSt_tryAgain_34 : decode cSt_tryAgain 34 = .ok (.invokevirtual 44, 3) := by decide +kernel
theorem dSt_tryAgain_37 : decode cSt_tryAgain 37 = .ok (.goto 7, 3) := by decide +kernel
theorem dSt_tryAgain_40 : decode cSt_tryAgain 40 = .ok (.aload_n 0, 1) := by decide +kernel
theorem dSt_tryAgain_41 : decode cSt_tryAgain 41 = .ok (.invokevirtual 60, 3) := by decide +kernel
theorem dSt_tryAgain_44 : decode cSt_tryAgain 44 = .ok (.iload_n 1, 1) := by decide +kernel
theorem dSt_tryAgain_45 : decode cSt_tryAgain 45 = .ok (.ireturn, 1) := by decide +kernel
theorem dSt_giveUp_0 : decode cSt_giveUp 0 = .ok (.aload_n 0, 1) := by decide +kernel
theorem dSt_giveUp_1 : decode cSt_giveUp 1 = .ok (.getfield 35, 3) := by decide +kernel
theorem dSt_giveUp_4 : decode cSt_giveUp 4 = .ok (.iconst 1, 1) := by decide +kernel
theorem dSt_giveUp_5 : decode cSt_giveUp 5 = .ok (.if_icmp .ne 16, 3) := by decide +kernel
theorem dSt_giveUp_8 : decode cSt_giveUp 8 = .ok (.aload_n 0, 1) := by decide +kernel
theorem dSt_giveUp_9 : decode cSt_giveUp 9 = .ok (.iconst 0, 1) := by decide +kernel
theorem dSt_giveUp_10 : decode cSt_giveUp 10 = .ok (.putfield 35, 3) := by decide +kernel
theorem dSt_giveUp_13 : decode cSt_giveUp 13 = .ok (.aload_n 0, 1) := by decide +kernel
theorem dSt_giveUp_14 : decode cSt_giveUp 14 = .ok (.iconst 0, 1) := by decide +kernel
theorem dSt_giveUp_15 : decode cSt_giveUp 15 = .ok (.putfield 54, 3) := by decide +kernel
theorem dSt_giveUp_18 : decode cSt_giveUp 18 = .ok (.goto 7, 3) := by decide +kernel
theorem dSt_giveUp_21 : decode cSt_giveUp 21 = .ok (.aload_n 0, 1) := by decide +kernel
theorem dSt_giveUp_22 : decode cSt_giveUp 22 = .ok (.invokevirtual 63, 3) := by decide +kernel
theorem dSt_giveUp_25 : decode cSt_giveUp 25 = .ok (.return_, 1) := by decide +kernel
theorem dSt_hearFrame_0 : decode cSt_hearFrame 0 = .ok (.iload_n 1, 1) := by decide +kernel
theorem dSt_hearFrame_1 : decode cSt_hearFrame 1 = .ok (.invokestatic 66, 3) := by decide +kernel
theorem dSt_hearFrame_4 : decode cSt_hearFrame 4 = .ok (.istore_n 2, 1) := by decide +kernel
theorem dSt_hearFrame_5 : decode cSt_hearFrame 5 = .ok (.iload_n 2, 1) := by decide +kernel
theorem dSt_hearFrame_6 : decode cSt_hearFrame 6 = .ok (.iconst 1, 1) := by decide +kernel
theorem dSt_hearFrame_7 : decode cSt_hearFrame 7 = .ok (.if_icmp .ne 10, 3) := by decide +kernel
theorem dSt_hearFrame_10 : decode cSt_hearFrame 10 = .ok (.aload_n 0, 1) := by decide +kernel
theorem dSt_hearFrame_11 : decode cSt_hearFrame 11 = .ok (.invokevirtual 70, 3) := by decide +kernel
theorem dSt_hearFrame_14 : decode cSt_hearFrame 14 = .ok (.goto 64, 3) := by decide +kernel
theorem dSt_hearFrame_17 : decode cSt_hearFrame 17 = .ok (.iload_n 2, 1) := by decide +kernel
theorem dSt_hearFrame_18 : decode cSt_hearFrame 18 = .ok (.iconst 2, 1) := by decide +kernel
theorem dSt_hearFrame_19 : decode cSt_hearFrame 19 = .ok (.if_icmp .ne 10, 3) := by decide +kernel
theorem dSt_hearFrame_22 : decode cSt_hearFrame 22 = .ok (.aload_n 0, 1) := by decide +kernel
theorem dSt_hearFrame_23 : decode cSt_hearFrame 23 = .ok (.invokevirtual 73, 3) := by decide +kernel
theorem dSt_hearFrame_26 : decode cSt_hearFrame 26 = .ok (.goto 52, 3) := by decide +kernel
theorem dSt_hearFrame_29 : decode cSt_hearFrame 29 = .ok (.aload_n 0, 1) := by decide +kernel
theorem dSt_hearFrame_30 : decode cSt_hearFrame 30 = .ok (.getfield 35, 3) := by decide +kernel
theorem dSt_hearFrame_33 : decode cSt_hearFrame 33 = .ok (.iconst 2, 1) := by decide +kernel
theorem dSt_hearFrame_34 : decode cSt_hearFrame 34 = .ok (.if_icmp .ne 44, 3) := by decide +kernel
theorem dSt_hearFrame_37 : decode cSt_hearFrame 37 = .ok (.aload_n 0, 1) := by decide +kernel
theorem dSt_hearFrame_38 : decode cSt_hearFrame 38 = .ok (.iload_n 1, 1) := by decide +kernel
theorem dSt_hearFrame_39 : decode cSt_hearFrame 39 = .ok (.invokestatic 76, 3) := by decide +kernel
theorem dSt_hearFrame_42 : decode cSt_hearFrame 42 = .ok (.invokevirtual 79, 3) := by decide +kernel
theorem dSt_hearFrame_45 : decode cSt_hearFrame 45 = .ok (.iload_n 2, 1) := by decide +kernel
theorem dSt_hearFrame_46 : decode cSt_hearFrame 46 = .ok (.iconst 3, 1) := by decide +kernel
theorem dSt_hearFrame_47 : decode cSt_hearFrame 47 = .ok (.if_icmp .ne 11, 3) := by decide +kernel
theorem dSt_hearFrame_50 : decode cSt_hearFrame 50 = .ok (.aload_n 0, 1) := by decide +kernel
theorem dSt_hearFrame_51 : decode cSt_hearFrame 51 = .ok (.iload_n 1, 1) := by decide +kernel
theorem dSt_hearFrame_52 : decode cSt_hearFrame 52 = .ok (.invokevirtual 82, 3) := by decide +kernel
theorem dSt_hearFrame_55 : decode cSt_hearFrame 55 = .ok (.goto 23, 3) := by decide +kernel
theorem dSt_hearFrame_58 : decode cSt_hearFrame 58 = .ok (.iload_n 2, 1) := by decide +kernel
theorem dSt_hearFrame_59 : decode cSt_hearFrame 59 = .ok (.iconst 5, 1) := by decide +kernel
theorem dSt_hearFrame_60 : decode cSt_hearFrame 60 = .ok (.if_icmp .ne 14, 3) := by decide +kernel
theorem dSt_hearFrame_63 : decode cSt_hearFrame 63 = .ok (.aload_n 0, 1) := by decide +kernel
theorem dSt_hearFrame_64 : decode cSt_hearFrame 64 = .ok (.invokevirtual 60, 3) := by decide +kernel
theorem dSt_hearFrame_67 : decode cSt_hearFrame 67 = .ok (.aload_n 0, 1) := by decide +kernel
theorem dSt_hearFrame_68 : decode cSt_hearFrame 68 = .ok (.invokevirtual 85, 3) := by decide +kernel
theorem dSt_hearFrame_71 : decode cSt_hearFrame 71 = .ok (.goto 7, 3) := by decide +kernel
theorem dSt_hearFrame_74 : decode cSt_hearFrame 74 = .ok (.aload_n 0, 1) := by decide +kernel
theorem dSt_hearFrame_75 : decode cSt_hearFrame 75 = .ok (.invokevirtual 85, 3) := by decide +kernel
theorem dSt_hearFrame_78 : decode cSt_hearFrame 78 = .ok (.return_, 1) := by decide +kernel
theorem dSt_hearSetup_0 : decode cSt_hearSetup 0 = .ok (.aload_n 0, 1) := by decide +kernel
theorem dSt_hearSetup_1 : decode cSt_hearSetup 1 = .ok (.getfield 35, 3) := by decide +kernel
theorem dSt_hearSetup_4 : decode cSt_hearSetup 4 = .ok (.iconst 1, 1) := by decide +kernel
theorem dSt_hearSetup_5 : decode cSt_hearSetup 5 = .ok (.if_icmp .eq 8, 3) := by decide +kernel
theorem dSt_hearSetup_8 : decode cSt_hearSetup 8 = .ok (.aload_n 0, 1) := by decide +kernel
theorem dSt_hearSetup_9 : decode cSt_hearSetup 9 = .ok (.iconst 2, 1) := by decide +kernel
theorem dSt_hearSetup_10 : decode cSt_hearSetup 10 = .ok (.invokevirtual 39, 3) := by decide +kernel
theorem dSt_hearSetup_13 : decode cSt_hearSetup 13 = .ok (.aload_n 0, 1) := by decide +kernel
theorem dSt_hearSetup_14 : decode cSt_hearSetup 14 = .ok (.iconst 2, 1) := by decide +kernel
theorem dSt_hearSetup_15 : decode cSt_hearSetup 15 = .ok (.invokevirtual 44, 3) := by decide +kernel
theorem dSt_hearSetup_18 : decode cSt_hearSetup 18 = .ok (.return_, 1) := by decide +kernel
theorem dSt_hearAgreed_0 : decode cSt_hearAgreed 0 = .ok (.aload_n 0, 1) := by decide +kernel
theorem dSt_hearAgreed_1 : decode cSt_hearAgreed 1 = .ok (.getfield 35, 3) := by decide +kernel
theorem dSt_hearAgreed_4 : decode cSt_hearAgreed 4 = .ok (.iconst 1, 1) := by decide +kernel
theorem dSt_hearAgreed_5 : decode cSt_hearAgreed 5 = .ok (.if_icmp .ne 11, 3) := by decide +kernel
theorem dSt_hearAgreed_8 : decode cSt_hearAgreed 8 = .ok (.aload_n 0, 1) := by decide +kernel
theorem dSt_hearAgreed_9 : decode cSt_hearAgreed 9 = .ok (.iconst 2, 1) := by decide +kernel
theorem dSt_hearAgreed_10 : decode cSt_hearAgreed 10 = .ok (.invokevirtual 39, 3) := by decide +kernel
theorem dSt_hearAgreed_13 : decode cSt_hearAgreed 13 = .ok (.goto 15, 3) := by decide +kernel
theorem dSt_hearAgreed_16 : decode cSt_hearAgreed 16 = .ok (.aload_n 0, 1) := by decide +kernel
theorem dSt_hearAgreed_17 : decode cSt_hearAgreed 17 = .ok (.getfield 35, 3) := by decide +kernel
theorem dSt_hearAgreed_20 : decode cSt_hearAgreed 20 = .ok (.iconst 2, 1) := by decide +kernel
theorem dSt_hearAgreed_21 : decode cSt_hearAgreed 21 = .ok (.if_icmp .ne 7, 3) := by decide +kernel
theorem dSt_hearAgreed_24 : decode cSt_hearAgreed 24 = .ok (.aload_n 0, 1) := by decide +kernel
theorem dSt_hearAgreed_25 : decode cSt_hearAgreed 25 = .ok (.invokevirtual 63, 3) := by decide +kernel
theorem dSt_hearAgreed_28 : decode cSt_hearAgreed 28 = .ok (.return_, 1) := by decide +kernel
theorem dSt_confirm_0 : decode cSt_confirm 0 = .ok (.aload_n 0, 1) := by decide +kernel
theorem dSt_confirm_1 : decode cSt_confirm 1 = .ok (.getfield 88, 3) := by decide +kernel
theorem dSt_confirm_4 : decode cSt_confirm 4 = .ok (.iload_n 1, 1) := by decide +kernel
theorem dSt_confirm_5 : decode cSt_confirm 5 = .ok (.invokestatic 91, 3) := by decide +kernel
theorem dSt_confirm_8 : decode cSt_confirm 8 = .ok (.istore_n 2, 1) := by decide +kernel
theorem dSt_confirm_9 : decode cSt_confirm 9 = .ok (.iload_n 2, 1) := by decide +kernel
theorem dSt_confirm_10 : decode cSt_confirm 10 = .ok (.ifCond .le 29, 3) := by decide +kernel
theorem dSt_confirm_13 : decode cSt_confirm 13 = .ok (.iload_n 2, 1) := by decide +kernel
theorem dSt_confirm_14 : decode cSt_confirm 14 = .ok (.aload_n 0, 1) := by decide +kernel
theorem dSt_confirm_15 : decode cSt_confirm 15 = .ok (.invokevirtual 47, 3) := by decide +kernel
theorem dSt_confirm_18 : decode cSt_confirm 18 = .ok (.if_icmp .gt 21, 3) := by decide +kernel
theorem dSt_confirm_21 : decode cSt_confirm 21 = .ok (.aload_n 0, 1) := by decide +kernel
theorem dSt_confirm_22 : decode cSt_confirm 22 = .ok (.getfield 23, 3) := by decide +kernel
theorem dSt_confirm_25 : decode cSt_confirm 25 = .ok (.iload_n 2, 1) := by decide +kernel
theorem dSt_confirm_26 : decode cSt_confirm 26 = .ok (.invokevirtual 95, 3) := by decide +kernel
theorem dSt_confirm_29 : decode cSt_confirm 29 = .ok (.aload_n 0, 1) := by decide +kernel
theorem dSt_confirm_30 : decode cSt_confirm 30 = .ok (.iload_n 1, 1) := by decide +kernel
theorem dSt_confirm_31 : decode cSt_confirm 31 = .ok (.putfield 88, 3) := by decide +kernel
theorem dSt_confirm_34 : decode cSt_confirm 34 = .ok (.aload_n 0, 1) := by decide +kernel
theorem dSt_confirm_35 : decode cSt_confirm 35 = .ok (.iconst 0, 1) := by decide +kernel
theorem dSt_confirm_36 : decode cSt_confirm 36 = .ok (.putfield 54, 3) := by decide +kernel
theorem dSt_confirm_39 : decode cSt_confirm 39 = .ok (.return_, 1) := by decide +kernel
theorem dSt_hearCarrier_0 : decode cSt_hearCarrier 0 = .ok (.iload_n 1, 1) := by decide +kernel
theorem dSt_hearCarrier_1 : decode cSt_hearCarrier 1 = .ok (.invokestatic 98, 3) := by decide +kernel
theorem dSt_hearCarrier_4 : decode cSt_hearCarrier 4 = .ok (.aload_n 0, 1) := by decide +kernel
theorem dSt_hearCarrier_5 : decode cSt_hearCarrier 5 = .ok (.getfield 101, 3) := by decide +kernel
theorem dSt_hearCarrier_8 : decode cSt_hearCarrier 8 = .ok (.if_icmp .eq 8, 3) := by decide +kernel
theorem dSt_hearCarrier_11 : decode cSt_hearCarrier 11 = .ok (.aload_n 0, 1) := by decide +kernel
theorem dSt_hearCarrier_12 : decode cSt_hearCarrier 12 = .ok (.invokevirtual 104, 3) := by decide +kernel
theorem dSt_hearCarrier_15 : decode cSt_hearCarrier 15 = .ok (.return_, 1) := by decide +kernel
theorem dSt_hearCarrier_16 : decode cSt_hearCarrier 16 = .ok (.aload_n 0, 1) := by decide +kernel
theorem dSt_hearCarrier_17 : decode cSt_hearCarrier 17 = .ok (.aload_n 0, 1) := by decide +kernel
theorem dSt_hearCarrier_18 : decode cSt_hearCarrier 18 = .ok (.getfield 101, 3) := by decide +kernel
theorem dSt_hearCarrier_21 : decode cSt_hearCarrier 21 = .ok (.invokestatic 107, 3) := by decide +kernel
theorem dSt_hearCarrier_24 : decode cSt_hearCarrier 24 = .ok (.putfield 101, 3) := by decide +kernel
theorem dSt_hearCarrier_27 : decode cSt_hearCarrier 27 = .ok (.aload_n 0, 1) := by decide +kernel
theorem dSt_hearCarrier_28 : decode cSt_hearCarrier 28 = .ok (.iconst 0, 1) := by decide +kernel
theorem dSt_hearCarrier_29 : decode cSt_hearCarrier 29 = .ok (.putfield 110, 3) := by decide +kernel
theorem dSt_hearCarrier_32 : decode cSt_hearCarrier 32 = .ok (.aload_n 0, 1) := by decide +kernel
theorem dSt_hearCarrier_33 : decode cSt_hearCarrier 33 = .ok (.getfield 114, 3) := by decide +kernel
theorem dSt_hearCarrier_36 : decode cSt_hearCarrier 36 = .ok (.istore_n 2, 1) := by decide +kernel
theorem dSt_hearCarrier_37 : decode cSt_hearCarrier 37 = .ok (.aload_n 0, 1) := by decide +kernel
theorem dSt_hearCarrier_38 : decode cSt_hearCarrier 38 = .ok (.iload_n 1, 1) := by decide +kernel
theorem dSt_hearCarrier_39 : decode cSt_hearCarrier 39 = .ok (.invokestatic 117, 3) := by decide +kernel
theorem dSt_hearCarrier_42 : decode cSt_hearCarrier 42 = .ok (.invokevirtual 120, 3) := by decide +kernel
theorem dSt_hearCarrier_45 : decode cSt_hearCarrier 45 = .ok (.aload_n 0, 1) := by decide +kernel
theorem dSt_hearCarrier_46 : decode cSt_hearCarrier 46 = .ok (.getfield 114, 3) := by decide +kernel
theorem dSt_hearCarrier_49 : decode cSt_hearCarrier 49 = .ok (.iload_n 2, 1) := by decide +kernel
theorem dSt_hearCarrier_50 : decode cSt_hearCarrier 50 = .ok (.if_icmp .ne 7, 3) := by decide +kernel
theorem dSt_hearCarrier_53 : decode cSt_hearCarrier 53 = .ok (.aload_n 0, 1) := by decide +kernel
theorem dSt_hearCarrier_54 : decode cSt_hearCarrier 54 = .ok (.invokevirtual 85, 3) := by decide +kernel
theorem dSt_hearCarrier_57 : decode cSt_hearCarrier 57 = .ok (.aload_n 0, 1) := by decide +kernel
theorem dSt_hearCarrier_58 : decode cSt_hearCarrier 58 = .ok (.getfield 114, 3) := by decide +kernel
theorem dSt_hearCarrier_61 : decode cSt_hearCarrier 61 = .ok (.iload_n 2, 1) := by decide +kernel
theorem dSt_hearCarrier_62 : decode cSt_hearCarrier 62 = .ok (.if_icmp .ne 8, 3) := by decide +kernel
theorem dSt_hearCarrier_65 : decode cSt_hearCarrier 65 = .ok (.aload_n 0, 1) := by decide +kernel
theorem dSt_hearCarrier_66 : decode cSt_hearCarrier 66 = .ok (.iconst 4, 1) := by decide +kernel
theorem dSt_hearCarrier_67 : decode cSt_hearCarrier 67 = .ok (.invokevirtual 123, 3) := by decide +kernel
theorem dSt_hearCarrier_70 : decode cSt_hearCarrier 70 = .ok (.return_, 1) := by decide +kernel
theorem dSt_rejectOnce_0 : decode cSt_rejectOnce 0 = .ok (.aload_n 0, 1) := by decide +kernel
theorem dSt_rejectOnce_1 : decode cSt_rejectOnce 1 = .ok (.getfield 110, 3) := by decide +kernel
theorem dSt_rejectOnce_4 : decode cSt_rejectOnce 4 = .ok (.ifCond .ne 13, 3) := by decide +kernel
theorem dSt_rejectOnce_7 : decode cSt_rejectOnce 7 = .ok (.aload_n 0, 1) := by decide +kernel
theorem dSt_rejectOnce_8 : decode cSt_rejectOnce 8 = .ok (.iconst 1, 1) := by decide +kernel
theorem dSt_rejectOnce_9 : decode cSt_rejectOnce 9 = .ok (.putfield 110, 3) := by decide +kernel
theorem dSt_rejectOnce_12 : decode cSt_rejectOnce 12 = .ok (.aload_n 0, 1) := by decide +kernel
theorem dSt_rejectOnce_13 : decode cSt_rejectOnce 13 = .ok (.iconst 5, 1) := by decide +kernel
theorem dSt_rejectOnce_14 : decode cSt_rejectOnce 14 = .ok (.invokevirtual 123, 3) := by decide +kernel
theorem dSt_rejectOnce_17 : decode cSt_rejectOnce 17 = .ok (.return_, 1) := by decide +kernel
theorem dSt_hearPacket_0 : decode cSt_hearPacket 0 = .ok (.iload_n 1, 1) := by decide +kernel
theorem dSt_hearPacket_1 : decode cSt_hearPacket 1 = .ok (.invokestatic 126, 3) := by decide +kernel
theorem dSt_hearPacket_4 : decode cSt_hearPacket 4 = .ok (.istore_n 2, 1) := by decide +kernel
theorem dSt_hearPacket_5 : decode cSt_hearPacket 5 = .ok (.iload_n 2, 1) := by decide +kernel
theorem dSt_hearPacket_6 : decode cSt_hearPacket 6 = .ok (.invokestatic 131, 3) := by decide +kernel
theorem dSt_hearPacket_9 : decode cSt_hearPacket 9 = .ok (.ifCond .ne 4, 3) := by decide +kernel
theorem dSt_hearPacket_12 : decode cSt_hearPacket 12 = .ok (.return_, 1) := by decide +kernel
theorem dSt_hearPacket_13 : decode cSt_hearPacket 13 = .ok (.aload_n 0, 1) := by decide +kernel
theorem dSt_hearPacket_14 : decode cSt_hearPacket 14 = .ok (.getfield 28, 3) := by decide +kernel
theorem dSt_hearPacket_17 : decode cSt_hearPacket 17 = .ok (.iload_n 2, 1) := by decide +kernel
theorem dSt_hearPacket_18 : decode cSt_hearPacket 18 = .ok (.aaload, 1) := by decide +kernel
theorem dSt_hearPacket_19 : decode cSt_hearPacket 19 = .ok (.iload_n 1, 1) := by decide +kernel
theorem dSt_hearPacket_20 : decode cSt_hearPacket 20 = .ok (.invokevirtual 135, 3) := by decide +kernel
theorem dSt_hearPacket_23 : decode cSt_hearPacket 23 = .ok (.istore_n 3, 1) := by decide +kernel
theorem dSt_hearPacket_24 : decode cSt_hearPacket 24 = .ok (.iload_n 3, 1) := by decide +kernel
theorem dSt_hearPacket_25 : decode cSt_hearPacket 25 = .ok (.ifCond .eq 12, 3) := by decide +kernel
theorem dSt_hearPacket_28 : decode cSt_hearPacket 28 = .ok (.aload_n 0, 1) := by decide +kernel
theorem dSt_hearPacket_29 : decode cSt_hearPacket 29 = .ok (.iload_n 3, 1) := by decide +kernel
theorem dSt_hearPacket_30 : decode cSt_hearPacket 30 = .ok (.iload_n 2, 1) := by decide +kernel
theorem dSt_hearPacket_31 : decode cSt_hearPacket 31 = .ok (.invokestatic 138, 3) := by decide +kernel
theorem dSt_hearPacket_34 : decode cSt_hearPacket 34 = .ok (.invokevirtual 141, 3) := by decide +kernel
theorem dSt_hearPacket_37 : decode cSt_hearPacket 37 = .ok (.return_, 1) := by decide +kernel
theorem dSt_sendPacket_0 : decode cSt_sendPacket 0 = .ok (.aload_n 0, 1) := by decide +kernel
theorem dSt_sendPacket_1 : decode cSt_sendPacket 1 = .ok (.getfield 23, 3) := by decide +kernel
theorem dSt_sendPacket_4 : decode cSt_sendPacket 4 = .ok (.iload_n 1, 1) := by decide +kernel
theorem dSt_sendPacket_5 : decode cSt_sendPacket 5 = .ok (.invokevirtual 144, 3) := by decide +kernel
theorem dSt_sendPacket_8 : decode cSt_sendPacket 8 = .ok (.aload_n 0, 1) := by decide +kernel
theorem dSt_sendPacket_9 : decode cSt_sendPacket 9 = .ok (.invokevirtual 85, 3) := by decide +kernel
theorem dSt_sendPacket_12 : decode cSt_sendPacket 12 = .ok (.return_, 1) := by decide +kernel
theorem dSt_pump_0 : decode cSt_pump 0 = .ok (.aload_n 0, 1) := by decide +kernel
theorem dSt_pump_1 : decode cSt_pump 1 = .ok (.getfield 35, 3) := by decide +kernel
theorem dSt_pump_4 : decode cSt_pump 4 = .ok (.iconst 2, 1) := by decide +kernel
theorem dSt_pump_5 : decode cSt_pump 5 = .ok (.if_icmp .ne 17, 3) := by decide +kernel
theorem dSt_pump_8 : decode cSt_pump 8 = .ok (.aload_n 0, 1) := by decide +kernel
theorem dSt_pump_9 : decode cSt_pump 9 = .ok (.getfield 23, 3) := by decide +kernel
theorem dSt_pump_12 : decode cSt_pump 12 = .ok (.getfield 51, 3) := by decide +kernel
theorem dSt_pump_15 : decode cSt_pump 15 = .ok (.iconst 3, 1) := by decide +kernel
theorem dSt_pump_16 : decode cSt_pump 16 = .ok (.invokestatic 147, 3) := by decide +kernel
theorem dSt_pump_19 : decode cSt_pump 19 = .ok (.goto 4, 3) := by decide +kernel
theorem dSt_pump_22 : decode cSt_pump 22 = .ok (.iconst 0, 1) := by decide +kernel
theorem dSt_pump_23 : decode cSt_pump 23 = .ok (.istore_n 1, 1) := by decide +kernel
theorem dSt_pump_24 : decode cSt_pump 24 = .ok (.aload_n 0, 1) := by decide +kernel
theorem dSt_pump_25 : decode cSt_pump 25 = .ok (.invokevirtual 47, 3) := by decide +kernel
theorem dSt_pump_28 : decode cSt_pump 28 = .ok (.istore_n 2, 1) := by decide +kernel
theorem dSt_pump_29 : decode cSt_pump 29 = .ok (.iload_n 2, 1) := by decide +kernel
theorem dSt_pump_30 : decode cSt_pump 30 = .ok (.iload_n 1, 1) := by decide +kernel
theorem dSt_pump_31 : decode cSt_pump 31 = .ok (.if_icmp .ge 47, 3) := by decide +kernel
theorem dSt_pump_34 : decode cSt_pump 34 = .ok (.aload_n 0, 1) := by decide +kernel
theorem dSt_pump_35 : decode cSt_pump 35 = .ok (.getfield 15, 3) := by decide +kernel
theorem dSt_pump_38 : decode cSt_pump 38 = .ok (.iconst 3, 1) := by decide +kernel
theorem dSt_pump_39 : decode cSt_pump 39 = .ok (.aload_n 0, 1) := by decide +kernel
theorem dSt_pump_40 : decode cSt_pump 40 = .ok (.getfield 114, 3) := by decide +kernel
theorem dSt_pump_43 : decode cSt_pump 43 = .ok (.aload_n 0, 1) := by decide +kernel
theorem dSt_pump_44 : decode cSt_pump 44 = .ok (.getfield 101, 3) := by decide +kernel
theorem dSt_pump_47 : decode cSt_pump 47 = .ok (.aload_n 0, 1) := by decide +kernel
theorem dSt_pump_48 : decode cSt_pump 48 = .ok (.getfield 23, 3) := by decide +kernel
theorem dSt_pump_51 : decode cSt_pump 51 = .ok (.iload_n 2, 1) := by decide +kernel
theorem dSt_pump_52 : decode cSt_pump 52 = .ok (.invokevirtual 152, 3) := by decide +kernel
theorem dSt_pump_55 : decode cSt_pump 55 = .ok (.invokestatic 155, 3) := by decide +kernel
theorem dSt_pump_58 : decode cSt_pump 58 = .ok (.invokevirtual 144, 3) := by decide +kernel
theorem dSt_pump_61 : decode cSt_pump 61 = .ok (.aload_n 0, 1) := by decide +kernel
theorem dSt_pump_62 : decode cSt_pump 62 = .ok (.aload_n 0, 1) := by decide +kernel
theorem dSt_pump_63 : decode cSt_pump 63 = .ok (.getfield 114, 3) := by decide +kernel
theorem dSt_pump_66 : decode cSt_pump 66 = .ok (.invokestatic 107, 3) := by decide +kernel
theorem dSt_pump_69 : decode cSt_pump 69 = .ok (.putfield 114, 3) := by decide +kernel
theorem dSt_pump_72 : decode cSt_pump 72 = .ok (.iinc 2 1, 3) := by decide +kernel
theorem dSt_pump_75 : decode cSt_pump 75 = .ok (.goto (-46), 3) := by decide +kernel
theorem dSt_pump_78 : decode cSt_pump 78 = .ok (.return_, 1) := by decide +kernel
theorem dSt_sendUnconfirmed_0 : decode cSt_sendUnconfirmed 0 = .ok (.aload_n 0, 1) := by decide +kernel
theorem dSt_sendUnconfirmed_1 : decode cSt_sendUnconfirmed 1 = .ok (.invokevirtual 47, 3) := by decide +kernel
theorem dSt_sendUnconfirmed_4 : decode cSt_sendUnconfirmed 4 = .ok (.istore_n 1, 1) := by decide +kernel
theorem dSt_sendUnconfirmed_5 : decode cSt_sendUnconfirmed 5 = .ok (.aload_n 0, 1) := by decide +kernel
theorem dSt_sendUnconfirmed_6 : decode cSt_sendUnconfirmed 6 = .ok (.getfield 88, 3) := by decide +kernel
theorem dSt_sendUnconfirmed_9 : decode cSt_sendUnconfirmed 9 = .ok (.istore_n 2, 1) := by decide +kernel
theorem dSt_sendUnconfirmed_10 : decode cSt_sendUnconfirmed 10 = .ok (.iconst 0, 1) := by decide +kernel
theorem dSt_sendUnconfirmed_11 : decode cSt_sendUnconfirmed 11 = .ok (.istore_n 3, 1) := by decide +kernel
theorem dSt_sendUnconfirmed_12 : decode cSt_sendUnconfirmed 12 = .ok (.iload_n 3, 1) := by decide +kernel
theorem dSt_sendUnconfirmed_13 : decode cSt_sendUnconfirmed 13 = .ok (.iload_n 1, 1) := by decide +kernel
theorem dSt_sendUnconfirmed_14 : decode cSt_sendUnconfirmed 14 = .ok (.if_icmp .ge 38, 3) := by decide +kernel
theorem dSt_sendUnconfirmed_17 : decode cSt_sendUnconfirmed 17 = .ok (.aload_n 0, 1) := by decide +kernel
theorem dSt_sendUnconfirmed_18 : decode cSt_sendUnconfirmed 18 = .ok (.getfield 15, 3) := by decide +kernel
theorem dSt_sendUnconfirmed_21 : decode cSt_sendUnconfirmed 21 = .ok (.iconst 3, 1) := by decide +kernel
theorem dSt_sendUnconfirmed_22 : decode cSt_sendUnconfirmed 22 = .ok (.iload_n 2, 1) := by decide +kernel
theorem dSt_sendUnconfirmed_23 : decode cSt_sendUnconfirmed 23 = .ok (.aload_n 0, 1) := by decide +kernel
theorem dSt_sendUnconfirmed_24 : decode cSt_sendUnconfirmed 24 = .ok (.getfield 101, 3) := by decide +kernel
theorem dSt_sendUnconfirmed_27 : decode cSt_sendUnconfirmed 27 = .ok (.aload_n 0, 1) := by decide +kernel
theorem dSt_sendUnconfirmed_28 : decode cSt_sendUnconfirmed 28 = .ok (.getfield 23, 3) := by decide +kernel
theorem dSt_sendUnconfirmed_31 : decode cSt_sendUnconfirmed 31 = .ok (.iload_n 3, 1) := by decide +kernel
theorem dSt_sendUnconfirmed_32 : decode cSt_sendUnconfirmed 32 = .ok (.invokevirtual 152, 3) := by decide +kernel
theorem dSt_sendUnconfirmed_35 : decode cSt_sendUnconfirmed 35 = .ok (.invokestatic 155, 3) := by decide +kernel
theorem dSt_sendUnconfirmed_38 : decode cSt_sendUnconfirmed 38 = .ok (.invokevirtual 144, 3) := by decide +kernel
theorem dSt_sendUnconfirmed_41 : decode cSt_sendUnconfirmed 41 = .ok (.iload_n 2, 1) := by decide +kernel
theorem dSt_sendUnconfirmed_42 : decode cSt_sendUnconfirmed 42 = .ok (.invokestatic 107, 3) := by decide +kernel
theorem dSt_sendUnconfirmed_45 : decode cSt_sendUnconfirmed 45 = .ok (.istore_n 2, 1) := by decide +kernel
theorem dSt_sendUnconfirmed_46 : decode cSt_sendUnconfirmed 46 = .ok (.iinc 3 1, 3) := by decide +kernel
theorem dSt_sendUnconfirmed_49 : decode cSt_sendUnconfirmed 49 = .ok (.goto (-37), 3) := by decide +kernel
theorem dSt_sendUnconfirmed_52 : decode cSt_sendUnconfirmed 52 = .ok (.return_, 1) := by decide +kernel
theorem dSt_sendUnnumbered_0 : decode cSt_sendUnnumbered 0 = .ok (.aload_n 0, 1) := by decide +kernel
theorem dSt_sendUnnumbered_1 : decode cSt_sendUnnumbered 1 = .ok (.getfield 15, 3) := by decide +kernel
theorem dSt_sendUnnumbered_4 : decode cSt_sendUnnumbered 4 = .ok (.iload_n 1, 1) := by decide +kernel
theorem dSt_sendUnnumbered_5 : decode cSt_sendUnnumbered 5 = .ok (.iconst 0, 1) := by decide +kernel
theorem dSt_sendUnnumbered_6 : decode cSt_sendUnnumbered 6 = .ok (.iconst 0, 1) := by decide +kernel
theorem dSt_sendUnnumbered_7 : decode cSt_sendUnnumbered 7 = .ok (.iconst 0, 1) := by decide +kernel
theorem dSt_sendUnnumbered_8 : decode cSt_sendUnnumbered 8 = .ok (.invokestatic 155, 3) := by decide +kernel
theorem dSt_sendUnnumbered_11 : decode cSt_sendUnnumbered 11 = .ok (.invokevirtual 144, 3) := by decide +kernel
theorem dSt_sendUnnumbered_14 : decode cSt_sendUnnumbered 14 = .ok (.return_, 1) := by decide +kernel
theorem dSt_sendAcknowledging_0 : decode cSt_sendAcknowledging 0 = .ok (.aload_n 0, 1) := by decide +kernel
theorem dSt_sendAcknowledging_1 : decode cSt_sendAcknowledging 1 = .ok (.getfield 15, 3) := by decide +kernel
theorem dSt_sendAcknowledging_4 : decode cSt_sendAcknowledging 4 = .ok (.iload_n 1, 1) := by decide +kernel
theorem dSt_sendAcknowledging_5 : decode cSt_sendAcknowledging 5 = .ok (.iconst 0, 1) := by decide +kernel
theorem dSt_sendAcknowledging_6 : decode cSt_sendAcknowledging 6 = .ok (.aload_n 0, 1) := by decide +kernel
theorem dSt_sendAcknowledging_7 : decode cSt_sendAcknowledging 7 = .ok (.getfield 101, 3) := by decide +kernel
theorem dSt_sendAcknowledging_10 : decode cSt_sendAcknowledging 10 = .ok (.iconst 0, 1) := by decide +kernel
theorem dSt_sendAcknowledging_11 : decode cSt_sendAcknowledging 11 = .ok (.invokestatic 155, 3) := by decide +kernel
theorem dSt_sendAcknowledging_14 : decode cSt_sendAcknowledging 14 = .ok (.invokevirtual 144, 3) := by decide +kernel
theorem dSt_sendAcknowledging_17 : decode cSt_sendAcknowledging 17 = .ok (.return_, 1) := by decide +kernel
theorem dSt_unconfirmed_0 : decode cSt_unconfirmed 0 = .ok (.aload_n 0, 1) := by decide +kernel
theorem dSt_unconfirmed_1 : decode cSt_unconfirmed 1 = .ok (.getfield 114, 3) := by decide +kernel
theorem dSt_unconfirmed_4 : decode cSt_unconfirmed 4 = .ok (.aload_n 0, 1) := by decide +kernel
theorem dSt_unconfirmed_5 : decode cSt_unconfirmed 5 = .ok (.getfield 88, 3) := by decide +kernel
theorem dSt_unconfirmed_8 : decode cSt_unconfirmed 8 = .ok (.isub, 1) := by decide +kernel
theorem dSt_unconfirmed_9 : decode cSt_unconfirmed 9 = .ok (.bipush 7, 2) := by decide +kernel
theorem dSt_unconfirmed_11 : decode cSt_unconfirmed 11 = .ok (.iand, 1) := by decide +kernel
theorem dSt_unconfirmed_12 : decode cSt_unconfirmed 12 = .ok (.ireturn, 1) := by decide +kernel
theorem dSt_cleanAs_0 : decode cSt_cleanAs 0 = .ok (.aload_n 0, 1) := by decide +kernel
theorem dSt_cleanAs_1 : decode cSt_cleanAs 1 = .ok (.iload_n 1, 1) := by decide +kernel
theorem dSt_cleanAs_2 : decode cSt_cleanAs 2 = .ok (.putfield 35, 3) := by decide +kernel
theorem dSt_cleanAs_5 : decode cSt_cleanAs 5 = .ok (.aload_n 0, 1) := by decide +kernel
theorem dSt_cleanAs_6 : decode cSt_cleanAs 6 = .ok (.iconst 0, 1) := by decide +kernel
theorem dSt_cleanAs_7 : decode cSt_cleanAs 7 = .ok (.putfield 114, 3) := by decide +kernel
theorem dSt_cleanAs_10 : decode cSt_cleanAs 10 = .ok (.aload_n 0, 1) := by decide +kernel
theorem dSt_cleanAs_11 : decode cSt_cleanAs 11 = .ok (.iconst 0, 1) := by decide +kernel
theorem dSt_cleanAs_12 : decode cSt_cleanAs 12 = .ok (.putfield 88, 3) := by decide +kernel
theorem dSt_cleanAs_15 : decode cSt_cleanAs 15 = .ok (.aload_n 0, 1) := by decide +kernel
theorem dSt_cleanAs_16 : decode cSt_cleanAs 16 = .ok (.iconst 0, 1) := by decide +kernel
theorem dSt_cleanAs_17 : decode cSt_cleanAs 17 = .ok (.putfield 101, 3) := by decide +kernel
theorem dSt_cleanAs_20 : decode cSt_cleanAs 20 = .ok (.aload_n 0, 1) := by decide +kernel
theorem dSt_cleanAs_21 : decode cSt_cleanAs 21 = .ok (.iconst 0, 1) := by decide +kernel
theorem dSt_cleanAs_22 : decode cSt_cleanAs 22 = .ok (.putfield 54, 3) := by decide +kernel
theorem dSt_cleanAs_25 : decode cSt_cleanAs 25 = .ok (.aload_n 0, 1) := by decide +kernel
theorem dSt_cleanAs_26 : decode cSt_cleanAs 26 = .ok (.iconst 0, 1) := by decide +kernel
theorem dSt_cleanAs_27 : decode cSt_cleanAs 27 = .ok (.putfield 110, 3) := by decide +kernel
theorem dSt_cleanAs_30 : decode cSt_cleanAs 30 = .ok (.aload_n 0, 1) := by decide +kernel
theorem dSt_cleanAs_31 : decode cSt_cleanAs 31 = .ok (.getfield 23, 3) := by decide +kernel
theorem dSt_cleanAs_34 : decode cSt_cleanAs 34 = .ok (.iconst 0, 1) := by decide +kernel
theorem dSt_cleanAs_35 : decode cSt_cleanAs 35 = .ok (.putfield 51, 3) := by decide +kernel
theorem dSt_cleanAs_38 : decode cSt_cleanAs 38 = .ok (.iconst 0, 1) := by decide +kernel
theorem dSt_cleanAs_39 : decode cSt_cleanAs 39 = .ok (.istore_n 2, 1) := by decide +kernel
theorem dSt_cleanAs_40 : decode cSt_cleanAs 40 = .ok (.iload_n 2, 1) := by decide +kernel
theorem dSt_cleanAs_41 : decode cSt_cleanAs 41 = .ok (.iconst 3, 1) := by decide +kernel
theorem dSt_cleanAs_42 : decode cSt_cleanAs 42 = .ok (.if_icmp .ge 19, 3) := by decide +kernel
theorem dSt_cleanAs_45 : decode cSt_cleanAs 45 = .ok (.aload_n 0, 1) := by decide +kernel
theorem dSt_cleanAs_46 : decode cSt_cleanAs 46 = .ok (.getfield 28, 3) := by decide +kernel
theorem dSt_cleanAs_49 : decode cSt_cleanAs 49 = .ok (.iload_n 2, 1) := by decide +kernel
theorem dSt_cleanAs_50 : decode cSt_cleanAs 50 = .ok (.aaload, 1) := by decide +kernel
theorem dSt_cleanAs_51 : decode cSt_cleanAs 51 = .ok (.iconst 0, 1) := by decide +kernel
theorem dSt_cleanAs_52 : decode cSt_cleanAs 52 = .ok (.invokevirtual 159, 3) := by decide +kernel
theorem dSt_cleanAs_55 : decode cSt_cleanAs 55 = .ok (.iinc 2 1, 3) := by decide +kernel
theorem dSt_cleanAs_58 : decode cSt_cleanAs 58 = .ok (.goto (-18), 3) := by decide +kernel
theorem dSt_cleanAs_61 : decode cSt_cleanAs 61 = .ok (.return_, 1) := by decide +kernel
