theorem dCl_init_0 : decode cCl_init 0 = .ok (.aload_n 0, 1) := by decide +kernel
theorem dCl_init_1 : decode cCl_init 1 = .ok (.invokespecial 1, 3) := by decide +kernel
theorem dCl_init_4 : decode cCl_init 4 = .ok (.new 7, 3) := by decide +kernel
theorem dCl_init_7 : decode cCl_init 7 = .ok (.dup, 1) := by decide +kernel
theorem dCl_init_8 : decode cCl_init 8 = .ok (.bipush 12, 2) := by decide +kernel
theorem dCl_init_10 : decode cCl_init 10 = .ok (.invokespecial 11, 3) := by decide +kernel
theorem dCl_init_13 : decode cCl_init 13 = .ok (.astore_n 1, 1) := by decide +kernel
theorem dCl_init_14 : decode cCl_init 14 = .ok (.new 7, 3) := by decide +kernel
theorem dCl_init_17 : decode cCl_init 17 = .ok (.dup, 1) := by decide +kernel
theorem dCl_init_18 : decode cCl_init 18 = .ok (.bipush 12, 2) := by decide +kernel
theorem dCl_init_20 : decode cCl_init 20 = .ok (.invokespecial 11, 3) := by decide +kernel
theorem dCl_init_23 : decode cCl_init 23 = .ok (.astore_n 2, 1) := by decide +kernel
theorem dCl_init_24 : decode cCl_init 24 = .ok (.aload_n 0, 1) := by decide +kernel
theorem dCl_init_25 : decode cCl_init 25 = .ok (.iconst 2, 1) := by decide +kernel
theorem dCl_init_26 : decode cCl_init 26 = .ok (.anewarray 14, 3) := by decide +kernel
theorem dCl_init_29 : decode cCl_init 29 = .ok (.putfield 16, 3) := by decide +kernel
theorem dCl_init_32 : decode cCl_init 32 = .ok (.aload_n 0, 1) := by decide +kernel
theorem dCl_init_33 : decode cCl_init 33 = .ok (.getfield 16, 3) := by decide +kernel
theorem dCl_init_36 : decode cCl_init 36 = .ok (.iconst 0, 1) := by decide +kernel
theorem dCl_init_37 : decode cCl_init 37 = .ok (.new 14, 3) := by decide +kernel
theorem dCl_init_40 : decode cCl_init 40 = .ok (.dup, 1) := by decide +kernel
theorem dCl_init_41 : decode cCl_init 41 = .ok (.iconst 0, 1) := by decide +kernel
theorem dCl_init_42 : decode cCl_init 42 = .ok (.aload_n 1, 1) := by decide +kernel
theorem dCl_init_43 : decode cCl_init 43 = .ok (.aload_n 2, 1) := by decide +kernel
theorem dCl_init_44 : decode cCl_init 44 = .ok (.invokespecial 20, 3) := by decide +kernel
theorem dCl_init_47 : decode cCl_init 47 = .ok (.aastore, 1) := by decide +kernel
theorem dCl_init_48 : decode cCl_init 48 = .ok (.aload_n 0, 1) := by decide +kernel
theorem dCl_init_49 : decode cCl_init 49 = .ok (.getfield 16, 3) := by decide +kernel
theorem dCl_init_52 : decode cCl_init 52 = .ok (.iconst 1, 1) := by decide +kernel
theorem dCl_init_53 : decode cCl_init 53 = .ok (.new 14, 3) := by decide +kernel
theorem dCl_init_56 : decode cCl_init 56 = .ok (.dup, 1) := by decide +kernel
theorem dCl_init_57 : decode cCl_init 57 = .ok (.iconst 1, 1) := by decide +kernel
theorem dCl_init_58 : decode cCl_init 58 = .ok (.aload_n 2, 1) := by decide +kernel
theorem dCl_init_59 : decode cCl_init 59 = .ok (.aload_n 1, 1) := by decide +kernel
theorem dCl_init_60 : decode cCl_init 60 = .ok (.invokespecial 20, 3) := by decide +kernel
theorem dCl_init_63 : decode cCl_init 63 = .ok (.aastore, 1) := by decide +kernel
theorem dCl_init_64 : decode cCl_init 64 = .ok (.return_, 1) := by decide +kernel
theorem dCl_open_0 : decode cCl_open 0 = .ok (.aload_n 0, 1) := by decide +kernel
theorem dCl_open_1 : decode cCl_open 1 = .ok (.iload_n 1, 1) := by decide +kernel
theorem dCl_open_2 : decode cCl_open 2 = .ok (.invokevirtual 23, 3) := by decide +kernel
theorem dCl_open_5 : decode cCl_open 5 = .ok (.invokevirtual 27, 3) := by decide +kernel
theorem dCl_open_8 : decode cCl_open 8 = .ok (.return_, 1) := by decide +kernel
theorem dCl_expire_0 : decode cCl_expire 0 = .ok (.aload_n 0, 1) := by decide +kernel
theorem dCl_expire_1 : decode cCl_expire 1 = .ok (.iload_n 1, 1) := by decide +kernel
theorem dCl_expire_2 : decode cCl_expire 2 = .ok (.invokevirtual 23, 3) := by decide +kernel
theorem dCl_expire_5 : decode cCl_expire 5 = .ok (.astore_n 2, 1) := by decide +kernel
theorem dCl_expire_6 : decode cCl_expire 6 = .ok (.aload_n 2, 1) := by decide +kernel
theorem dCl_expire_7 : decode cCl_expire 7 = .ok (.invokevirtual 30, 3) := by decide +kernel
theorem dCl_expire_10 : decode cCl_expire 10 = .ok (.invokestatic 34, 3) := by decide +kernel
theorem dCl_expire_13 : decode cCl_expire 13 = .ok (.aload_n 2, 1) := by decide +kernel
theorem dCl_expire_14 : decode cCl_expire 14 = .ok (.invokevirtual 38, 3) := by decide +kernel
theorem dCl_expire_17 : decode cCl_expire 17 = .ok (.ireturn, 1) := by decide +kernel
theorem dCl_deliver_0 : decode cCl_deliver 0 = .ok (.aload_n 0, 1) := by decide +kernel
theorem dCl_deliver_1 : decode cCl_deliver 1 = .ok (.iload_n 1, 1) := by decide +kernel
theorem dCl_deliver_2 : decode cCl_deliver 2 = .ok (.invokevirtual 23, 3) := by decide +kernel
theorem dCl_deliver_5 : decode cCl_deliver 5 = .ok (.astore_n 2, 1) := by decide +kernel
theorem dCl_deliver_6 : decode cCl_deliver 6 = .ok (.aload_n 2, 1) := by decide +kernel
theorem dCl_deliver_7 : decode cCl_deliver 7 = .ok (.getfield 42, 3) := by decide +kernel
theorem dCl_deliver_10 : decode cCl_deliver 10 = .ok (.invokestatic 46, 3) := by decide +kernel
theorem dCl_deliver_13 : decode cCl_deliver 13 = .ok (.istore_n 3, 1) := by decide +kernel
theorem dCl_deliver_14 : decode cCl_deliver 14 = .ok (.aload_n 2, 1) := by decide +kernel
theorem dCl_deliver_15 : decode cCl_deliver 15 = .ok (.iload_n 3, 1) := by decide +kernel
theorem dCl_deliver_16 : decode cCl_deliver 16 = .ok (.invokevirtual 50, 3) := by decide +kernel
theorem dCl_deliver_19 : decode cCl_deliver 19 = .ok (.iload_n 3, 1) := by decide +kernel
theorem dCl_deliver_20 : decode cCl_deliver 20 = .ok (.invokestatic 53, 3) := by decide +kernel
theorem dCl_deliver_23 : decode cCl_deliver 23 = .ok (.ireturn, 1) := by decide +kernel
theorem dCl_lose_0 : decode cCl_lose 0 = .ok (.aload_n 0, 1) := by decide +kernel
theorem dCl_lose_1 : decode cCl_lose 1 = .ok (.iload_n 1, 1) := by decide +kernel
theorem dCl_lose_2 : decode cCl_lose 2 = .ok (.invokevirtual 23, 3) := by decide +kernel
theorem dCl_lose_5 : decode cCl_lose 5 = .ok (.getfield 42, 3) := by decide +kernel
theorem dCl_lose_8 : decode cCl_lose 8 = .ok (.invokestatic 46, 3) := by decide +kernel
theorem dCl_lose_11 : decode cCl_lose 11 = .ok (.invokestatic 53, 3) := by decide +kernel
theorem dCl_lose_14 : decode cCl_lose 14 = .ok (.ireturn, 1) := by decide +kernel
theorem dCl_hand_0 : decode cCl_hand 0 = .ok (.aload_n 0, 1) := by decide +kernel
theorem dCl_hand_1 : decode cCl_hand 1 = .ok (.iload_n 1, 1) := by decide +kernel
theorem dCl_hand_2 : decode cCl_hand 2 = .ok (.invokevirtual 23, 3) := by decide +kernel
theorem dCl_hand_5 : decode cCl_hand 5 = .ok (.astore 6, 2) := by decide +kernel
theorem dCl_hand_7 : decode cCl_hand 7 = .ok (.iload_n 2, 1) := by decide +kernel
theorem dCl_hand_8 : decode cCl_hand 8 = .ok (.invokestatic 59, 3) := by decide +kernel
theorem dCl_hand_11 : decode cCl_hand 11 = .ok (.iload_n 3, 1) := by decide +kernel
theorem dCl_hand_12 : decode cCl_hand 12 = .ok (.iconst 1, 1) := by decide +kernel
theorem dCl_hand_13 : decode cCl_hand 13 = .ok (.if_icmp .lt 25, 3) := by decide +kernel
theorem dCl_hand_16 : decode cCl_hand 16 = .ok (.iload_n 3, 1) := by decide +kernel
theorem dCl_hand_17 : decode cCl_hand 17 = .ok (.bipush 8, 2) := by decide +kernel
theorem dCl_hand_19 : decode cCl_hand 19 = .ok (.if_icmp .gt 19, 3) := by decide +kernel
theorem dCl_hand_22 : decode cCl_hand 22 = .ok (.iload 4, 2) := by decide +kernel
theorem dCl_hand_24 : decode cCl_hand 24 = .ok (.invokestatic 64, 3) := by decide +kernel
theorem dCl_hand_27 : decode cCl_hand 27 = .ok (.ifCond .eq 11, 3) := by decide +kernel
theorem dCl_hand_30 : decode cCl_hand 30 = .ok (.iload 5, 2) := by decide +kernel
theorem dCl_hand_32 : decode cCl_hand 32 = .ok (.invokestatic 64, 3) := by decide +kernel
theorem dCl_hand_35 : decode cCl_hand 35 = .ok (.ifCond .ne 5, 3) := by decide +kernel
theorem dCl_hand_38 : decode cCl_hand 38 = .ok (.iconst 0, 1) := by decide +kernel
theorem dCl_hand_39 : decode cCl_hand 39 = .ok (.ireturn, 1) := by decide +kernel
theorem dCl_hand_40 : decode cCl_hand 40 = .ok (.aload 6, 2) := by decide +kernel
theorem dCl_hand_42 : decode cCl_hand 42 = .ok (.iload_n 3, 1) := by decide +kernel
theorem dCl_hand_43 : decode cCl_hand 43 = .ok (.iload_n 2, 1) := by decide +kernel
theorem dCl_hand_44 : decode cCl_hand 44 = .ok (.iload 4, 2) := by decide +kernel
theorem dCl_hand_46 : decode cCl_hand 46 = .ok (.iload 5, 2) := by decide +kernel
theorem dCl_hand_48 : decode cCl_hand 48 = .ok (.iconst 0, 1) := by decide +kernel
theorem dCl_hand_49 : decode cCl_hand 49 = .ok (.invokestatic 68, 3) := by decide +kernel
theorem dCl_hand_52 : decode cCl_hand 52 = .ok (.invokevirtual 72, 3) := by decide +kernel
theorem dCl_hand_55 : decode cCl_hand 55 = .ok (.iconst 1, 1) := by decide +kernel
theorem dCl_hand_56 : decode cCl_hand 56 = .ok (.ireturn, 1) := by decide +kernel
theorem dCl_call_0 : decode cCl_call 0 = .ok (.aload_n 0, 1) := by decide +kernel
theorem dCl_call_1 : decode cCl_call 1 = .ok (.iload_n 1, 1) := by decide +kernel
theorem dCl_call_2 : decode cCl_call 2 = .ok (.invokevirtual 23, 3) := by decide +kernel
theorem dCl_call_5 : decode cCl_call 5 = .ok (.astore_n 3, 1) := by decide +kernel
theorem dCl_call_6 : decode cCl_call 6 = .ok (.aload_n 3, 1) := by decide +kernel
theorem dCl_call_7 : decode cCl_call 7 = .ok (.iload_n 2, 1) := by decide +kernel
theorem dCl_call_8 : decode cCl_call 8 = .ok (.invokestatic 75, 3) := by decide +kernel
theorem dCl_call_11 : decode cCl_call 11 = .ok (.astore 4, 2) := by decide +kernel
theorem dCl_call_13 : decode cCl_call 13 = .ok (.aload_n 3, 1) := by decide +kernel
theorem dCl_call_14 : decode cCl_call 14 = .ok (.invokevirtual 79, 3) := by decide +kernel
theorem dCl_call_17 : decode cCl_call 17 = .ok (.ifCond .eq 15, 3) := by decide +kernel
theorem dCl_call_20 : decode cCl_call 20 = .ok (.aload 4, 2) := by decide +kernel
theorem dCl_call_22 : decode cCl_call 22 = .ok (.getfield 82, 3) := by decide +kernel
theorem dCl_call_25 : decode cCl_call 25 = .ok (.ifCond .ne 7, 3) := by decide +kernel
theorem dCl_call_28 : decode cCl_call 28 = .ok (.iconst 1, 1) := by decide +kernel
theorem dCl_call_29 : decode cCl_call 29 = .ok (.goto 4, 3) := by decide +kernel
theorem dCl_call_32 : decode cCl_call 32 = .ok (.iconst 0, 1) := by decide +kernel
theorem dCl_call_33 : decode cCl_call 33 = .ok (.invokestatic 34, 3) := by decide +kernel
theorem dCl_call_36 : decode cCl_call 36 = .ok (.aload 4, 2) := by decide +kernel
theorem dCl_call_38 : decode cCl_call 38 = .ok (.iconst 1, 1) := by decide +kernel
theorem dCl_call_39 : decode cCl_call 39 = .ok (.invokevirtual 88, 3) := by decide +kernel
theorem dCl_call_42 : decode cCl_call 42 = .ok (.aload_n 3, 1) := by decide +kernel
theorem dCl_call_43 : decode cCl_call 43 = .ok (.iconst 1, 1) := by decide +kernel
theorem dCl_call_44 : decode cCl_call 44 = .ok (.iload_n 2, 1) := by decide +kernel
theorem dCl_call_45 : decode cCl_call 45 = .ok (.invokestatic 91, 3) := by decide +kernel
theorem dCl_call_48 : decode cCl_call 48 = .ok (.invokevirtual 95, 3) := by decide +kernel
theorem dCl_call_51 : decode cCl_call 51 = .ok (.return_, 1) := by decide +kernel
theorem dCl_accept_0 : decode cCl_accept 0 = .ok (.aload_n 0, 1) := by decide +kernel
theorem dCl_accept_1 : decode cCl_accept 1 = .ok (.iload_n 1, 1) := by decide +kernel
theorem dCl_accept_2 : decode cCl_accept 2 = .ok (.invokevirtual 23, 3) := by decide +kernel
theorem dCl_accept_5 : decode cCl_accept 5 = .ok (.astore_n 3, 1) := by decide +kernel
theorem dCl_accept_6 : decode cCl_accept 6 = .ok (.aload_n 3, 1) := by decide +kernel
theorem dCl_accept_7 : decode cCl_accept 7 = .ok (.iload_n 2, 1) := by decide +kernel
theorem dCl_accept_8 : decode cCl_accept 8 = .ok (.invokestatic 75, 3) := by decide +kernel
theorem dCl_accept_11 : decode cCl_accept 11 = .ok (.astore 4, 2) := by decide +kernel
theorem dCl_accept_13 : decode cCl_accept 13 = .ok (.aload_n 3, 1) := by decide +kernel
theorem dCl_accept_14 : decode cCl_accept 14 = .ok (.invokevirtual 79, 3) := by decide +kernel
theorem dCl_accept_17 : decode cCl_accept 17 = .ok (.ifCond .eq 16, 3) := by decide +kernel
theorem dCl_accept_20 : decode cCl_accept 20 = .ok (.aload 4, 2) := by decide +kernel
theorem dCl_accept_22 : decode cCl_accept 22 = .ok (.getfield 82, 3) := by decide +kernel
theorem dCl_accept_25 : decode cCl_accept 25 = .ok (.iconst 2, 1) := by decide +kernel
theorem dCl_accept_26 : decode cCl_accept 26 = .ok (.if_icmp .ne 7, 3) := by decide +kernel
theorem dCl_accept_29 : decode cCl_accept 29 = .ok (.iconst 1, 1) := by decide +kernel
theorem dCl_accept_30 : decode cCl_accept 30 = .ok (.goto 4, 3) := by decide +kernel
theorem dCl_accept_33 : decode cCl_accept 33 = .ok (.iconst 0, 1) := by decide +kernel
theorem dCl_accept_34 : decode cCl_accept 34 = .ok (.invokestatic 34, 3) := by decide +kernel
theorem dCl_accept_37 : decode cCl_accept 37 = .ok (.aload 4, 2) := by decide +kernel
theorem dCl_accept_39 : decode cCl_accept 39 = .ok (.iconst 3, 1) := by decide +kernel
theorem dCl_accept_40 : decode cCl_accept 40 = .ok (.invokevirtual 88, 3) := by decide +kernel
theorem dCl_accept_43 : decode cCl_accept 43 = .ok (.aload_n 3, 1) := by decide +kernel
theorem dCl_accept_44 : decode cCl_accept 44 = .ok (.iconst 2, 1) := by decide +kernel
theorem dCl_accept_45 : decode cCl_accept 45 = .ok (.iload_n 2, 1) := by decide +kernel
theorem dCl_accept_46 : decode cCl_accept 46 = .ok (.invokestatic 91, 3) := by decide +kernel
theorem dCl_accept_49 : decode cCl_accept 49 = .ok (.invokevirtual 95, 3) := by decide +kernel
theorem dCl_accept_52 : decode cCl_accept 52 = .ok (.return_, 1) := by decide +kernel
theorem dCl_clear_0 : decode cCl_clear 0 = .ok (.aload_n 0, 1) := by decide +kernel
theorem dCl_clear_1 : decode cCl_clear 1 = .ok (.iload_n 1, 1) := by decide +kernel
theorem dCl_clear_2 : decode cCl_clear 2 = .ok (.invokevirtual 23, 3) := by decide +kernel
theorem dCl_clear_5 : decode cCl_clear 5 = .ok (.astore_n 3, 1) := by decide +kernel
theorem dCl_clear_6 : decode cCl_clear 6 = .ok (.aload_n 3, 1) := by decide +kernel
theorem dCl_clear_7 : decode cCl_clear 7 = .ok (.iload_n 2, 1) := by decide +kernel
theorem dCl_clear_8 : decode cCl_clear 8 = .ok (.invokestatic 75, 3) := by decide +kernel
theorem dCl_clear_11 : decode cCl_clear 11 = .ok (.astore 4, 2) := by decide +kernel
theorem dCl_clear_13 : decode cCl_clear 13 = .ok (.aload 4, 2) := by decide +kernel
theorem dCl_clear_15 : decode cCl_clear 15 = .ok (.getfield 82, 3) := by decide +kernel
theorem dCl_clear_18 : decode cCl_clear 18 = .ok (.ifCond .eq 16, 3) := by decide +kernel
theorem dCl_clear_21 : decode cCl_clear 21 = .ok (.aload 4, 2) := by decide +kernel
theorem dCl_clear_23 : decode cCl_clear 23 = .ok (.getfield 82, 3) := by decide +kernel
theorem dCl_clear_26 : decode cCl_clear 26 = .ok (.iconst 4, 1) := by decide +kernel
theorem dCl_clear_27 : decode cCl_clear 27 = .ok (.if_icmp .eq 7, 3) := by decide +kernel
theorem dCl_clear_30 : decode cCl_clear 30 = .ok (.iconst 1, 1) := by decide +kernel
theorem dCl_clear_31 : decode cCl_clear 31 = .ok (.goto 4, 3) := by decide +kernel
theorem dCl_clear_34 : decode cCl_clear 34 = .ok (.iconst 0, 1) := by decide +kernel
theorem dCl_clear_35 : decode cCl_clear 35 = .ok (.istore 5, 2) := by decide +kernel
theorem dCl_clear_37 : decode cCl_clear 37 = .ok (.aload_n 3, 1) := by decide +kernel
theorem dCl_clear_38 : decode cCl_clear 38 = .ok (.invokevirtual 79, 3) := by decide +kernel
theorem dCl_clear_41 : decode cCl_clear 41 = .ok (.ifCond .eq 12, 3) := by decide +kernel
theorem dCl_clear_44 : decode cCl_clear 44 = .ok (.iload 5, 2) := by decide +kernel
theorem dCl_clear_46 : decode cCl_clear 46 = .ok (.ifCond .eq 7, 3) := by decide +kernel
theorem dCl_clear_49 : decode cCl_clear 49 = .ok (.iconst 1, 1) := by decide +kernel
theorem dCl_clear_50 : decode cCl_clear 50 = .ok (.goto 4, 3) := by decide +kernel
theorem dCl_clear_53 : decode cCl_clear 53 = .ok (.iconst 0, 1) := by decide +kernel
theorem dCl_clear_54 : decode cCl_clear 54 = .ok (.invokestatic 34, 3) := by decide +kernel
theorem dCl_clear_57 : decode cCl_clear 57 = .ok (.aload 4, 2) := by decide +kernel
theorem dCl_clear_59 : decode cCl_clear 59 = .ok (.iconst 4, 1) := by decide +kernel
theorem dCl_clear_60 : decode cCl_clear 60 = .ok (.invokevirtual 88, 3) := by decide +kernel
theorem dCl_clear_63 : decode cCl_clear 63 = .ok (.aload_n 3, 1) := by decide +kernel
theorem dCl_clear_64 : decode cCl_clear 64 = .ok (.iconst 3, 1) := by decide +kernel
theorem dCl_clear_65 : decode cCl_clear 65 = .ok (.iload_n 2, 1) := by decide +kernel
theorem dCl_clear_66 : decode cCl_clear 66 = .ok (.invokestatic 91, 3) := by decide +kernel
theorem dCl_clear_69 : decode cCl_clear 69 = .ok (.invokevirtual 95, 3) := by decide +kernel
theorem dCl_clear_72 : decode cCl_clear 72 = .ok (.return_, 1) := by decide +kernel
theorem dCl_reset_0 : decode cCl_reset 0 = .ok (.aload_n 0, 1) := by decide +kernel
theorem dCl_reset_1 : decode cCl_reset 1 = .ok (.iload_n 1, 1) := by decide +kernel
theorem dCl_reset_2 : decode cCl_reset 2 = .ok (.invokevirtual 23, 3) := by decide +kernel
theorem dCl_reset_5 : decode cCl_reset 5 = .ok (.astore_n 3, 1) := by decide +kernel
theorem dCl_reset_6 : decode cCl_reset 6 = .ok (.aload_n 3, 1) := by decide +kernel
theorem dCl_reset_7 : decode cCl_reset 7 = .ok (.iload_n 2, 1) := by decide +kernel
theorem dCl_reset_8 : decode cCl_reset 8 = .ok (.invokestatic 75, 3) := by decide +kernel
theorem dCl_reset_11 : decode cCl_reset 11 = .ok (.astore 4, 2) := by decide +kernel
theorem dCl_reset_13 : decode cCl_reset 13 = .ok (.aload_n 3, 1) := by decide +kernel
theorem dCl_reset_14 : decode cCl_reset 14 = .ok (.invokevirtual 79, 3) := by decide +kernel
theorem dCl_reset_17 : decode cCl_reset 17 = .ok (.ifCond .eq 16, 3) := by decide +kernel
theorem dCl_reset_20 : decode cCl_reset 20 = .ok (.aload 4, 2) := by decide +kernel
theorem dCl_reset_22 : decode cCl_reset 22 = .ok (.getfield 82, 3) := by decide +kernel
theorem dCl_reset_25 : decode cCl_reset 25 = .ok (.iconst 3, 1) := by decide +kernel
theorem dCl_reset_26 : decode cCl_reset 26 = .ok (.if_icmp .ne 7, 3) := by decide +kernel
theorem dCl_reset_29 : decode cCl_reset 29 = .ok (.iconst 1, 1) := by decide +kernel
theorem dCl_reset_30 : decode cCl_reset 30 = .ok (.goto 4, 3) := by decide +kernel
theorem dCl_reset_33 : decode cCl_reset 33 = .ok (.iconst 0, 1) := by decide +kernel
theorem dCl_reset_34 : decode cCl_reset 34 = .ok (.invokestatic 34, 3) := by decide +kernel
theorem dCl_reset_37 : decode cCl_reset 37 = .ok (.aload 4, 2) := by decide +kernel
theorem dCl_reset_39 : decode cCl_reset 39 = .ok (.iconst 5, 1) := by decide +kernel
theorem dCl_reset_40 : decode cCl_reset 40 = .ok (.invokevirtual 88, 3) := by decide +kernel
theorem dCl_reset_43 : decode cCl_reset 43 = .ok (.aload_n 3, 1) := by decide +kernel
theorem dCl_reset_44 : decode cCl_reset 44 = .ok (.bipush 7, 2) := by decide +kernel
theorem dCl_reset_46 : decode cCl_reset 46 = .ok (.iload_n 2, 1) := by decide +kernel
theorem dCl_reset_47 : decode cCl_reset 47 = .ok (.invokestatic 91, 3) := by decide +kernel
theorem dCl_reset_50 : decode cCl_reset 50 = .ok (.invokevirtual 95, 3) := by decide +kernel
theorem dCl_reset_53 : decode cCl_reset 53 = .ok (.return_, 1) := by decide +kernel
theorem dCl_send_0 : decode cCl_send 0 = .ok (.aload_n 0, 1) := by decide +kernel
theorem dCl_send_1 : decode cCl_send 1 = .ok (.iload_n 1, 1) := by decide +kernel
theorem dCl_send_2 : decode cCl_send 2 = .ok (.invokevirtual 23, 3) := by decide +kernel
theorem dCl_send_5 : decode cCl_send 5 = .ok (.astore 5, 2) := by decide +kernel
theorem dCl_send_7 : decode cCl_send 7 = .ok (.aload 5, 2) := by decide +kernel
theorem dCl_send_9 : decode cCl_send 9 = .ok (.iload_n 2, 1) := by decide +kernel
theorem dCl_send_10 : decode cCl_send 10 = .ok (.invokestatic 75, 3) := by decide +kernel
theorem dCl_send_13 : decode cCl_send 13 = .ok (.astore 6, 2) := by decide +kernel
theorem dCl_send_15 : decode cCl_send 15 = .ok (.iload_n 3, 1) := by decide +kernel
theorem dCl_send_16 : decode cCl_send 16 = .ok (.invokestatic 98, 3) := by decide +kernel
theorem dCl_send_19 : decode cCl_send 19 = .ok (.aload 5, 2) := by decide +kernel
theorem dCl_send_21 : decode cCl_send 21 = .ok (.invokevirtual 79, 3) := by decide +kernel
theorem dCl_send_24 : decode cCl_send 24 = .ok (.ifCond .eq 16, 3) := by decide +kernel
theorem dCl_send_27 : decode cCl_send 27 = .ok (.aload 6, 2) := by decide +kernel
theorem dCl_send_29 : decode cCl_send 29 = .ok (.getfield 82, 3) := by decide +kernel
theorem dCl_send_32 : decode cCl_send 32 = .ok (.iconst 3, 1) := by decide +kernel
theorem dCl_send_33 : decode cCl_send 33 = .ok (.if_icmp .ne 7, 3) := by decide +kernel
theorem dCl_send_36 : decode cCl_send 36 = .ok (.iconst 1, 1) := by decide +kernel
theorem dCl_send_37 : decode cCl_send 37 = .ok (.goto 4, 3) := by decide +kernel
theorem dCl_send_40 : decode cCl_send 40 = .ok (.iconst 0, 1) := by decide +kernel
theorem dCl_send_41 : decode cCl_send 41 = .ok (.invokestatic 34, 3) := by decide +kernel
theorem dCl_send_44 : decode cCl_send 44 = .ok (.aload 6, 2) := by decide +kernel
theorem dCl_send_46 : decode cCl_send 46 = .ok (.getfield 101, 3) := by decide +kernel
theorem dCl_send_49 : decode cCl_send 49 = .ok (.aload 6, 2) := by decide +kernel
theorem dCl_send_51 : decode cCl_send 51 = .ok (.getfield 104, 3) := by decide +kernel
theorem dCl_send_54 : decode cCl_send 54 = .ok (.invokestatic 107, 3) := by decide +kernel
theorem dCl_send_57 : decode cCl_send 57 = .ok (.iconst 2, 1) := by decide +kernel
theorem dCl_send_58 : decode cCl_send 58 = .ok (.if_icmp .lt 5, 3) := by decide +kernel
theorem dCl_send_61 : decode cCl_send 61 = .ok (.iconst 0, 1) := by decide +kernel
theorem dCl_send_62 : decode cCl_send 62 = .ok (.ireturn, 1) := by decide +kernel
theorem dCl_send_63 : decode cCl_send 63 = .ok (.iload 4, 2) := by decide +kernel
theorem dCl_send_65 : decode cCl_send 65 = .ok (.ifCond .eq 11, 3) := by decide +kernel
theorem dCl_send_68 : decode cCl_send 68 = .ok (.iload_n 3, 1) := by decide +kernel
theorem dCl_send_69 : decode cCl_send 69 = .ok (.sipush 256, 3) := by decide +kernel
theorem dCl_send_72 : decode cCl_send 72 = .ok (.iadd, 1) := by decide +kernel
theorem dCl_send_73 : decode cCl_send 73 = .ok (.goto 4, 3) := by decide +kernel
theorem dCl_send_76 : decode cCl_send 76 = .ok (.iload_n 3, 1) := by decide +kernel
theorem dCl_send_77 : decode cCl_send 77 = .ok (.istore 7, 2) := by decide +kernel
theorem dCl_send_79 : decode cCl_send 79 = .ok (.iconst 5, 1) := by decide +kernel
theorem dCl_send_80 : decode cCl_send 80 = .ok (.iload_n 2, 1) := by decide +kernel
theorem dCl_send_81 : decode cCl_send 81 = .ok (.aload 6, 2) := by decide +kernel
theorem dCl_send_83 : decode cCl_send 83 = .ok (.getfield 104, 3) := by decide +kernel
theorem dCl_send_86 : decode cCl_send 86 = .ok (.aload 6, 2) := by decide +kernel
theorem dCl_send_88 : decode cCl_send 88 = .ok (.getfield 110, 3) := by decide +kernel
theorem dCl_send_91 : decode cCl_send 91 = .ok (.iload 7, 2) := by decide +kernel
theorem dCl_send_93 : decode cCl_send 93 = .ok (.invokestatic 68, 3) := by decide +kernel
theorem dCl_send_96 : decode cCl_send 96 = .ok (.istore 8, 2) := by decide +kernel
theorem dCl_send_98 : decode cCl_send 98 = .ok (.aload 6, 2) := by decide +kernel
theorem dCl_send_100 : decode cCl_send 100 = .ok (.aload 6, 2) := by decide +kernel
theorem dCl_send_102 : decode cCl_send 102 = .ok (.getfield 104, 3) := by decide +kernel
theorem dCl_send_105 : decode cCl_send 105 = .ok (.invokestatic 113, 3) := by decide +kernel
theorem dCl_send_108 : decode cCl_send 108 = .ok (.putfield 104, 3) := by decide +kernel
theorem dCl_send_111 : decode cCl_send 111 = .ok (.aload 5, 2) := by decide +kernel
theorem dCl_send_113 : decode cCl_send 113 = .ok (.iload 8, 2) := by decide +kernel
theorem dCl_send_115 : decode cCl_send 115 = .ok (.invokevirtual 95, 3) := by decide +kernel
theorem dCl_send_118 : decode cCl_send 118 = .ok (.iconst 1, 1) := by decide +kernel
theorem dCl_send_119 : decode cCl_send 119 = .ok (.ireturn, 1) := by decide +kernel
theorem dCl_receive_0 : decode cCl_receive 0 = .ok (.aload_n 0, 1) := by decide +kernel
theorem dCl_receive_1 : decode cCl_receive 1 = .ok (.iload_n 1, 1) := by decide +kernel
theorem dCl_receive_2 : decode cCl_receive 2 = .ok (.invokevirtual 23, 3) := by decide +kernel
theorem dCl_receive_5 : decode cCl_receive 5 = .ok (.astore_n 3, 1) := by decide +kernel
theorem dCl_receive_6 : decode cCl_receive 6 = .ok (.aload_n 3, 1) := by decide +kernel
theorem dCl_receive_7 : decode cCl_receive 7 = .ok (.iload_n 2, 1) := by decide +kernel
theorem dCl_receive_8 : decode cCl_receive 8 = .ok (.invokestatic 75, 3) := by decide +kernel
theorem dCl_receive_11 : decode cCl_receive 11 = .ok (.astore 4, 2) := by decide +kernel
theorem dCl_receive_13 : decode cCl_receive 13 = .ok (.aload_n 3, 1) := by decide +kernel
theorem dCl_receive_14 : decode cCl_receive 14 = .ok (.invokevirtual 79, 3) := by decide +kernel
theorem dCl_receive_17 : decode cCl_receive 17 = .ok (.ifCond .eq 16, 3) := by decide +kernel
theorem dCl_receive_20 : decode cCl_receive 20 = .ok (.aload 4, 2) := by decide +kernel
theorem dCl_receive_22 : decode cCl_receive 22 = .ok (.getfield 82, 3) := by decide +kernel
theorem dCl_receive_25 : decode cCl_receive 25 = .ok (.iconst 3, 1) := by decide +kernel
theorem dCl_receive_26 : decode cCl_receive 26 = .ok (.if_icmp .ne 7, 3) := by decide +kernel
theorem dCl_receive_29 : decode cCl_receive 29 = .ok (.iconst 1, 1) := by decide +kernel
theorem dCl_receive_30 : decode cCl_receive 30 = .ok (.goto 4, 3) := by decide +kernel
theorem dCl_receive_33 : decode cCl_receive 33 = .ok (.iconst 0, 1) := by decide +kernel
theorem dCl_receive_34 : decode cCl_receive 34 = .ok (.invokestatic 34, 3) := by decide +kernel
theorem dCl_receive_37 : decode cCl_receive 37 = .ok (.aload 4, 2) := by decide +kernel
theorem dCl_receive_39 : decode cCl_receive 39 = .ok (.getfield 116, 3) := by decide +kernel
theorem dCl_receive_42 : decode cCl_receive 42 = .ok (.invokestatic 119, 3) := by decide +kernel
theorem dCl_receive_45 : decode cCl_receive 45 = .ok (.aload 4, 2) := by decide +kernel
theorem dCl_receive_47 : decode cCl_receive 47 = .ok (.invokevirtual 123, 3) := by decide +kernel
theorem dCl_receive_50 : decode cCl_receive 50 = .ok (.istore 5, 2) := by decide +kernel
theorem dCl_receive_52 : decode cCl_receive 52 = .ok (.aload_n 3, 1) := by decide +kernel
theorem dCl_receive_53 : decode cCl_receive 53 = .ok (.bipush 6, 2) := by decide +kernel
theorem dCl_receive_55 : decode cCl_receive 55 = .ok (.iload_n 2, 1) := by decide +kernel
theorem dCl_receive_56 : decode cCl_receive 56 = .ok (.iconst 0, 1) := by decide +kernel
theorem dCl_receive_57 : decode cCl_receive 57 = .ok (.aload 4, 2) := by decide +kernel
theorem dCl_receive_59 : decode cCl_receive 59 = .ok (.getfield 110, 3) := by decide +kernel
theorem dCl_receive_62 : decode cCl_receive 62 = .ok (.iconst 0, 1) := by decide +kernel
theorem dCl_receive_63 : decode cCl_receive 63 = .ok (.invokestatic 68, 3) := by decide +kernel
theorem dCl_receive_66 : decode cCl_receive 66 = .ok (.invokevirtual 95, 3) := by decide +kernel
theorem dCl_receive_69 : decode cCl_receive 69 = .ok (.iload 5, 2) := by decide +kernel
theorem dCl_receive_71 : decode cCl_receive 71 = .ok (.ireturn, 1) := by decide +kernel
theorem dCl_link_0 : decode cCl_link 0 = .ok (.aload_n 0, 1) := by decide +kernel
theorem dCl_link_1 : decode cCl_link 1 = .ok (.iload_n 1, 1) := by decide +kernel
theorem dCl_link_2 : decode cCl_link 2 = .ok (.invokevirtual 23, 3) := by decide +kernel
theorem dCl_link_5 : decode cCl_link 5 = .ok (.astore_n 3, 1) := by decide +kernel
theorem dCl_link_6 : decode cCl_link 6 = .ok (.iload_n 2, 1) := by decide +kernel
theorem dCl_link_7 : decode cCl_link 7 = .ok (.tableswitch 99 0 7 #[45, 50, 55, 60, 65, 70, 83, 91], 45) := by decide +kernel
theorem dCl_link_52 : decode cCl_link 52 = .ok (.aload_n 3, 1) := by decide +kernel
theorem dCl_link_53 : decode cCl_link 53 = .ok (.getfield 126, 3) := by decide +kernel
theorem dCl_link_56 : decode cCl_link 56 = .ok (.ireturn, 1) := by decide +kernel
theorem dCl_link_57 : decode cCl_link 57 = .ok (.aload_n 3, 1) := by decide +kernel
theorem dCl_link_58 : decode cCl_link 58 = .ok (.getfield 129, 3) := by decide +kernel
theorem dCl_link_61 : decode cCl_link 61 = .ok (.ireturn, 1) := by decide +kernel
theorem dCl_link_62 : decode cCl_link 62 = .ok (.aload_n 3, 1) := by decide +kernel
theorem dCl_link_63 : decode cCl_link 63 = .ok (.getfield 132, 3) := by decide +kernel
theorem dCl_link_66 : decode cCl_link 66 = .ok (.ireturn, 1) := by decide +kernel
theorem dCl_link_67 : decode cCl_link 67 = .ok (.aload_n 3, 1) := by decide +kernel
theorem dCl_link_68 : decode cCl_link 68 = .ok (.getfield 135, 3) := by decide +kernel
theorem dCl_link_71 : decode cCl_link 71 = .ok (.ireturn, 1) := by decide +kernel
theorem dCl_link_72 : decode cCl_link 72 = .ok (.aload_n 3, 1) := by decide +kernel
theorem dCl_link_73 : decode cCl_link 73 = .ok (.getfield 138, 3) := by decide +kernel
theorem dCl_link_76 : decode cCl_link 76 = .ok (.ireturn, 1) := by decide +kernel
theorem dCl_link_77 : decode cCl_link 77 = .ok (.aload_n 3, 1) := by decide +kernel
theorem dCl_link_78 : decode cCl_link 78 = .ok (.getfield 141, 3) := by decide +kernel
theorem dCl_link_81 : decode cCl_link 81 = .ok (.ifCond .eq 7, 3) := by decide +kernel
theorem dCl_link_84 : decode cCl_link 84 = .ok (.iconst 1, 1) := by decide +kernel
theorem dCl_link_85 : decode cCl_link 85 = .ok (.goto 4, 3) := by decide +kernel
theorem dCl_link_88 : decode cCl_link 88 = .ok (.iconst 0, 1) := by decide +kernel
theorem dCl_link_89 : decode cCl_link 89 = .ok (.ireturn, 1) := by decide +kernel
theorem dCl_link_90 : decode cCl_link 90 = .ok (.aload_n 3, 1) := by decide +kernel
theorem dCl_link_91 : decode cCl_link 91 = .ok (.getfield 145, 3) := by decide +kernel
theorem dCl_link_94 : decode cCl_link 94 = .ok (.getfield 148, 3) := by decide +kernel
theorem dCl_link_97 : decode cCl_link 97 = .ok (.ireturn, 1) := by decide +kernel
theorem dCl_link_98 : decode cCl_link 98 = .ok (.aload_n 3, 1) := by decide +kernel
theorem dCl_link_99 : decode cCl_link 99 = .ok (.getfield 42, 3) := by decide +kernel
theorem dCl_link_102 : decode cCl_link 102 = .ok (.getfield 148, 3) := by decide +kernel
theorem dCl_link_105 : decode cCl_link 105 = .ok (.ireturn, 1) := by decide +kernel
theorem dCl_link_106 : decode cCl_link 106 = .ok (.iconst (-1), 1) := by decide +kernel
theorem dCl_link_107 : decode cCl_link 107 = .ok (.ireturn, 1) := by decide +kernel
theorem dCl_channel_0 : decode cCl_channel 0 = .ok (.aload_n 0, 1) := by decide +kernel
theorem dCl_channel_1 : decode cCl_channel 1 = .ok (.iload_n 1, 1) := by decide +kernel
theorem dCl_channel_2 : decode cCl_channel 2 = .ok (.invokevirtual 23, 3) := by decide +kernel
theorem dCl_channel_5 : decode cCl_channel 5 = .ok (.iload_n 2, 1) := by decide +kernel
theorem dCl_channel_6 : decode cCl_channel 6 = .ok (.invokestatic 75, 3) := by decide +kernel
theorem dCl_channel_9 : decode cCl_channel 9 = .ok (.astore 4, 2) := by decide +kernel
theorem dCl_channel_11 : decode cCl_channel 11 = .ok (.iload_n 3, 1) := by decide +kernel
theorem dCl_channel_12 : decode cCl_channel 12 = .ok (.tableswitch 66 0 4 #[36, 42, 48, 54, 60], 36) := by decide +kernel
theorem dCl_channel_48 : decode cCl_channel 48 = .ok (.aload 4, 2) := by decide +kernel
theorem dCl_channel_50 : decode cCl_channel 50 = .ok (.getfield 82, 3) := by decide +kernel
theorem dCl_channel_53 : decode cCl_channel 53 = .ok (.ireturn, 1) := by decide +kernel
theorem dCl_channel_54 : decode cCl_channel 54 = .ok (.aload 4, 2) := by decide +kernel
theorem dCl_channel_56 : decode cCl_channel 56 = .ok (.getfield 104, 3) := by decide +kernel
theorem dCl_channel_59 : decode cCl_channel 59 = .ok (.ireturn, 1) := by decide +kernel
theorem dCl_channel_60 : decode cCl_channel 60 = .ok (.aload 4, 2) := by decide +kernel
theorem dCl_channel_62 : decode cCl_channel 62 = .ok (.getfield 101, 3) := by decide +kernel
theorem dCl_channel_65 : decode cCl_channel 65 = .ok (.ireturn, 1) := by decide +kernel
theorem dCl_channel_66 : decode cCl_channel 66 = .ok (.aload 4, 2) := by decide +kernel
theorem dCl_channel_68 : decode cCl_channel 68 = .ok (.getfield 151, 3) := by decide +kernel
theorem dCl_channel_71 : decode cCl_channel 71 = .ok (.ireturn, 1) := by decide +kernel
theorem dCl_channel_72 : decode cCl_channel 72 = .ok (.aload 4, 2) := by decide +kernel
theorem dCl_channel_74 : decode cCl_channel 74 = .ok (.getfield 110, 3) := by decide +kernel
theorem dCl_channel_77 : decode cCl_channel 77 = .ok (.ireturn, 1) := by decide +kernel
theorem dCl_channel_78 : decode cCl_channel 78 = .ok (.iconst (-1), 1) := by decide +kernel
theorem dCl_channel_79 : decode cCl_channel 79 = .ok (.ireturn, 1) := by decide +kernel
theorem dCl_frame_0 : decode cCl_frame 0 = .ok (.aload_n 0, 1) := by decide +kernel
theorem dCl_frame_1 : decode cCl_frame 1 = .ok (.iload_n 1, 1) := by decide +kernel
theorem dCl_frame_2 : decode cCl_frame 2 = .ok (.invokevirtual 23, 3) := by decide +kernel
theorem dCl_frame_5 : decode cCl_frame 5 = .ok (.getfield 42, 3) := by decide +kernel
theorem dCl_frame_8 : decode cCl_frame 8 = .ok (.astore 4, 2) := by decide +kernel
theorem dCl_frame_10 : decode cCl_frame 10 = .ok (.iload_n 2, 1) := by decide +kernel
theorem dCl_frame_11 : decode cCl_frame 11 = .ok (.ifCond .lt 12, 3) := by decide +kernel
theorem dCl_frame_14 : decode cCl_frame 14 = .ok (.iload_n 2, 1) := by decide +kernel
theorem dCl_frame_15 : decode cCl_frame 15 = .ok (.aload 4, 2) := by decide +kernel
theorem dCl_frame_17 : decode cCl_frame 17 = .ok (.getfield 148, 3) := by decide +kernel
theorem dCl_frame_20 : decode cCl_frame 20 = .ok (.if_icmp .lt 5, 3) := by decide +kernel
theorem dCl_frame_23 : decode cCl_frame 23 = .ok (.iconst (-1), 1) := by decide +kernel
theorem dCl_frame_24 : decode cCl_frame 24 = .ok (.ireturn, 1) := by decide +kernel
theorem dCl_frame_25 : decode cCl_frame 25 = .ok (.aload 4, 2) := by decide +kernel
theorem dCl_frame_27 : decode cCl_frame 27 = .ok (.iload_n 2, 1) := by decide +kernel
theorem dCl_frame_28 : decode cCl_frame 28 = .ok (.invokevirtual 154, 3) := by decide +kernel
theorem dCl_frame_31 : decode cCl_frame 31 = .ok (.istore 5, 2) := by decide +kernel
theorem dCl_frame_33 : decode cCl_frame 33 = .ok (.iload 5, 2) := by decide +kernel
theorem dCl_frame_35 : decode cCl_frame 35 = .ok (.invokestatic 157, 3) := by decide +kernel
theorem dCl_frame_38 : decode cCl_frame 38 = .ok (.istore 6, 2) := by decide +kernel
theorem dCl_frame_40 : decode cCl_frame 40 = .ok (.iload_n 3, 1) := by decide +kernel
theorem dCl_frame_41 : decode cCl_frame 41 = .ok (.tableswitch 95 0 7 #[47, 53, 59, 65, 71, 77, 83, 89], 47) := by decide +kernel
theorem dCl_frame_88 : decode cCl_frame 88 = .ok (.iload 5, 2) := by decide +kernel
theorem dCl_frame_90 : decode cCl_frame 90 = .ok (.invokestatic 53, 3) := by decide +kernel
theorem dCl_frame_93 : decode cCl_frame 93 = .ok (.ireturn, 1) := by decide +kernel
theorem dCl_frame_94 : decode cCl_frame 94 = .ok (.iload 5, 2) := by decide +kernel
theorem dCl_frame_96 : decode cCl_frame 96 = .ok (.invokestatic 160, 3) := by decide +kernel
theorem dCl_frame_99 : decode cCl_frame 99 = .ok (.ireturn, 1) := by decide +kernel
theorem dCl_frame_100 : decode cCl_frame 100 = .ok (.iload 5, 2) := by decide +kernel
theorem dCl_frame_102 : decode cCl_frame 102 = .ok (.invokestatic 163, 3) := by decide +kernel
theorem dCl_frame_105 : decode cCl_frame 105 = .ok (.ireturn, 1) := by decide +kernel
theorem dCl_frame_106 : decode cCl_frame 106 = .ok (.iload 6, 2) := by decide +kernel
theorem dCl_frame_108 : decode cCl_frame 108 = .ok (.invokestatic 166, 3) := by decide +kernel
theorem dCl_frame_111 : decode cCl_frame 111 = .ok (.ireturn, 1) := by decide +kernel
theorem dCl_frame_112 : decode cCl_frame 112 = .ok (.iload 6, 2) := by decide +kernel
theorem dCl_frame_114 : decode cCl_frame 114 = .ok (.invokestatic 167, 3) := by decide +kernel
theorem dCl_frame_117 : decode cCl_frame 117 = .ok (.ireturn, 1) := by decide +kernel
theorem dCl_frame_118 : decode cCl_frame 118 = .ok (.iload 6, 2) := by decide +kernel
theorem dCl_frame_120 : decode cCl_frame 120 = .ok (.invokestatic 170, 3) := by decide +kernel
theorem dCl_frame_123 : decode cCl_frame 123 = .ok (.ireturn, 1) := by decide +kernel
theorem dCl_frame_124 : decode cCl_frame 124 = .ok (.iload 6, 2) := by decide +kernel
theorem dCl_frame_126 : decode cCl_frame 126 = .ok (.invokestatic 171, 3) := by decide +kernel
theorem dCl_frame_129 : decode cCl_frame 129 = .ok (.ireturn, 1) := by decide +kernel
theorem dCl_frame_130 : decode cCl_frame 130 = .ok (.iload 6, 2) := by decide +kernel
theorem dCl_frame_132 : decode cCl_frame 132 = .ok (.invokestatic 172, 3) := by decide +kernel
theorem dCl_frame_135 : decode cCl_frame 135 = .ok (.ireturn, 1) := by decide +kernel
theorem dCl_frame_136 : decode cCl_frame 136 = .ok (.iconst (-1), 1) := by decide +kernel
theorem dCl_frame_137 : decode cCl_frame 137 = .ok (.ireturn, 1) := by decide +kernel
theorem dCl_peek_0 : decode cCl_peek 0 = .ok (.aload_n 0, 1) := by decide +kernel
theorem dCl_peek_1 : decode cCl_peek 1 = .ok (.iload_n 1, 1) := by decide +kernel
theorem dCl_peek_2 : decode cCl_peek 2 = .ok (.invokevirtual 23, 3) := by decide +kernel
theorem dCl_peek_5 : decode cCl_peek 5 = .ok (.iload_n 2, 1) := by decide +kernel
theorem dCl_peek_6 : decode cCl_peek 6 = .ok (.invokestatic 75, 3) := by decide +kernel
theorem dCl_peek_9 : decode cCl_peek 9 = .ok (.getfield 116, 3) := by decide +kernel
theorem dCl_peek_12 : decode cCl_peek 12 = .ok (.astore_n 3, 1) := by decide +kernel
theorem dCl_peek_13 : decode cCl_peek 13 = .ok (.aload_n 3, 1) := by decide +kernel
theorem dCl_peek_14 : decode cCl_peek 14 = .ok (.getfield 148, 3) := by decide +kernel
theorem dCl_peek_17 : decode cCl_peek 17 = .ok (.ifCond .ne 7, 3) := by decide +kernel
theorem dCl_peek_20 : decode cCl_peek 20 = .ok (.iconst (-1), 1) := by decide +kernel
theorem dCl_peek_21 : decode cCl_peek 21 = .ok (.goto 8, 3) := by decide +kernel
theorem dCl_peek_24 : decode cCl_peek 24 = .ok (.aload_n 3, 1) := by decide +kernel
theorem dCl_peek_25 : decode cCl_peek 25 = .ok (.iconst 0, 1) := by decide +kernel
theorem dCl_peek_26 : decode cCl_peek 26 = .ok (.invokevirtual 154, 3) := by decide +kernel
theorem dCl_peek_29 : decode cCl_peek 29 = .ok (.ireturn, 1) := by decide +kernel
theorem dCl_stationAt_0 : decode cCl_stationAt 0 = .ok (.iload_n 1, 1) := by decide +kernel
theorem dCl_stationAt_1 : decode cCl_stationAt 1 = .ok (.ifCond .lt 8, 3) := by decide +kernel
theorem dCl_stationAt_4 : decode cCl_stationAt 4 = .ok (.iload_n 1, 1) := by decide +kernel
theorem dCl_stationAt_5 : decode cCl_stationAt 5 = .ok (.iconst 2, 1) := by decide +kernel
theorem dCl_stationAt_6 : decode cCl_stationAt 6 = .ok (.if_icmp .lt 13, 3) := by decide +kernel
theorem dCl_stationAt_9 : decode cCl_stationAt 9 = .ok (.new 175, 3) := by decide +kernel
theorem dCl_stationAt_12 : decode cCl_stationAt 12 = .ok (.dup, 1) := by decide +kernel
