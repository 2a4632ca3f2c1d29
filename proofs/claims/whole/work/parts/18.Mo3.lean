theorem dMo_bars_18 : decode cMo_bars 18 = .ok (.iconst 2, 1) := by decide +kernel
theorem dMo_bars_19 : decode cMo_bars 19 = .ok (.if_icmp .ne 14, 3) := by decide +kernel
theorem dMo_bars_22 : decode cMo_bars 22 = .ok (.aload_n 0, 1) := by decide +kernel
theorem dMo_bars_23 : decode cMo_bars 23 = .ok (.getfield 59, 3) := by decide +kernel
theorem dMo_bars_26 : decode cMo_bars 26 = .ok (.iload_n 1, 1) := by decide +kernel
theorem dMo_bars_27 : decode cMo_bars 27 = .ok (.iaload, 1) := by decide +kernel
theorem dMo_bars_28 : decode cMo_bars 28 = .ok (.bipush 9, 2) := by decide +kernel
theorem dMo_bars_30 : decode cMo_bars 30 = .ok (.if_icmp .le 7, 3) := by decide +kernel
theorem dMo_bars_33 : decode cMo_bars 33 = .ok (.iload_n 3, 1) := by decide +kernel
theorem dMo_bars_34 : decode cMo_bars 34 = .ok (.goto 4, 3) := by decide +kernel
theorem dMo_bars_37 : decode cMo_bars 37 = .ok (.iconst 0, 1) := by decide +kernel
theorem dMo_bars_38 : decode cMo_bars 38 = .ok (.ireturn, 1) := by decide +kernel
theorem dMo_become_0 : decode cMo_become 0 = .ok (.aload_n 0, 1) := by decide +kernel
theorem dMo_become_1 : decode cMo_become 1 = .ok (.iload_n 1, 1) := by decide +kernel
theorem dMo_become_2 : decode cMo_become 2 = .ok (.iload_n 3, 1) := by decide +kernel
theorem dMo_become_3 : decode cMo_become 3 = .ok (.iload_n 2, 1) := by decide +kernel
theorem dMo_become_4 : decode cMo_become 4 = .ok (.iconst 0, 1) := by decide +kernel
theorem dMo_become_5 : decode cMo_become 5 = .ok (.iconst 0, 1) := by decide +kernel
theorem dMo_become_6 : decode cMo_become 6 = .ok (.iconst 0, 1) := by decide +kernel
theorem dMo_become_7 : decode cMo_become 7 = .ok (.invokevirtual 128, 3) := by decide +kernel
theorem dMo_become_10 : decode cMo_become 10 = .ok (.aload_n 0, 1) := by decide +kernel
theorem dMo_become_11 : decode cMo_become 11 = .ok (.iconst 3, 1) := by decide +kernel
theorem dMo_become_12 : decode cMo_become 12 = .ok (.iload_n 1, 1) := by decide +kernel
theorem dMo_become_13 : decode cMo_become 13 = .ok (.imul, 1) := by decide +kernel
theorem dMo_become_14 : decode cMo_become 14 = .ok (.iload_n 2, 1) := by decide +kernel
theorem dMo_become_15 : decode cMo_become 15 = .ok (.iadd, 1) := by decide +kernel
theorem dMo_become_16 : decode cMo_become 16 = .ok (.invokevirtual 122, 3) := by decide +kernel
theorem dMo_become_19 : decode cMo_become 19 = .ok (.aload_n 0, 1) := by decide +kernel
theorem dMo_become_20 : decode cMo_become 20 = .ok (.getfield 77, 3) := by decide +kernel
theorem dMo_become_23 : decode cMo_become 23 = .ok (.iconst 3, 1) := by decide +kernel
theorem dMo_become_24 : decode cMo_become 24 = .ok (.iload_n 1, 1) := by decide +kernel
theorem dMo_become_25 : decode cMo_become 25 = .ok (.imul, 1) := by decide +kernel
theorem dMo_become_26 : decode cMo_become 26 = .ok (.iload_n 2, 1) := by decide +kernel
theorem dMo_become_27 : decode cMo_become 27 = .ok (.iadd, 1) := by decide +kernel
theorem dMo_become_28 : decode cMo_become 28 = .ok (.iload 4, 2) := by decide +kernel
theorem dMo_become_30 : decode cMo_become 30 = .ok (.iastore, 1) := by decide +kernel
theorem dMo_become_31 : decode cMo_become 31 = .ok (.return_, 1) := by decide +kernel
theorem dMo_call_0 : decode cMo_call 0 = .ok (.aload_n 0, 1) := by decide +kernel
theorem dMo_call_1 : decode cMo_call 1 = .ok (.aload_n 0, 1) := by decide +kernel
theorem dMo_call_2 : decode cMo_call 2 = .ok (.iload_n 1, 1) := by decide +kernel
theorem dMo_call_3 : decode cMo_call 3 = .ok (.iload_n 2, 1) := by decide +kernel
theorem dMo_call_4 : decode cMo_call 4 = .ok (.iconst 2, 1) := by decide +kernel
theorem dMo_call_5 : decode cMo_call 5 = .ok (.invokevirtual 168, 3) := by decide +kernel
theorem dMo_call_8 : decode cMo_call 8 = .ok (.putfield 95, 3) := by decide +kernel
theorem dMo_call_11 : decode cMo_call 11 = .ok (.aload_n 0, 1) := by decide +kernel
theorem dMo_call_12 : decode cMo_call 12 = .ok (.getfield 95, 3) := by decide +kernel
theorem dMo_call_15 : decode cMo_call 15 = .ok (.ifCond .ne 25, 3) := by decide +kernel
theorem dMo_call_18 : decode cMo_call 18 = .ok (.aload_n 0, 1) := by decide +kernel
theorem dMo_call_19 : decode cMo_call 19 = .ok (.aload_n 0, 1) := by decide +kernel
theorem dMo_call_20 : decode cMo_call 20 = .ok (.getfield 77, 3) := by decide +kernel
theorem dMo_call_23 : decode cMo_call 23 = .ok (.iconst 3, 1) := by decide +kernel
theorem dMo_call_24 : decode cMo_call 24 = .ok (.iload_n 1, 1) := by decide +kernel
theorem dMo_call_25 : decode cMo_call 25 = .ok (.imul, 1) := by decide +kernel
theorem dMo_call_26 : decode cMo_call 26 = .ok (.iload_n 2, 1) := by decide +kernel
theorem dMo_call_27 : decode cMo_call 27 = .ok (.iadd, 1) := by decide +kernel
theorem dMo_call_28 : decode cMo_call 28 = .ok (.iaload, 1) := by decide +kernel
theorem dMo_call_29 : decode cMo_call 29 = .ok (.ifCond .ne 7, 3) := by decide +kernel
theorem dMo_call_32 : decode cMo_call 32 = .ok (.iconst 0, 1) := by decide +kernel
theorem dMo_call_33 : decode cMo_call 33 = .ok (.goto 4, 3) := by decide +kernel
theorem dMo_call_36 : decode cMo_call 36 = .ok (.iconst 2, 1) := by decide +kernel
theorem dMo_call_37 : decode cMo_call 37 = .ok (.putfield 95, 3) := by decide +kernel
theorem dMo_call_40 : decode cMo_call 40 = .ok (.aload_n 0, 1) := by decide +kernel
theorem dMo_call_41 : decode cMo_call 41 = .ok (.getfield 95, 3) := by decide +kernel
theorem dMo_call_44 : decode cMo_call 44 = .ok (.ifCond .ne 11, 3) := by decide +kernel
theorem dMo_call_47 : decode cMo_call 47 = .ok (.aload_n 0, 1) := by decide +kernel
theorem dMo_call_48 : decode cMo_call 48 = .ok (.iload_n 1, 1) := by decide +kernel
theorem dMo_call_49 : decode cMo_call 49 = .ok (.iload_n 2, 1) := by decide +kernel
theorem dMo_call_50 : decode cMo_call 50 = .ok (.iconst 1, 1) := by decide +kernel
theorem dMo_call_51 : decode cMo_call 51 = .ok (.iconst 1, 1) := by decide +kernel
theorem dMo_call_52 : decode cMo_call 52 = .ok (.invokevirtual 172, 3) := by decide +kernel
theorem dMo_call_55 : decode cMo_call 55 = .ok (.return_, 1) := by decide +kernel
theorem dMo_accept_0 : decode cMo_accept 0 = .ok (.aload_n 0, 1) := by decide +kernel
theorem dMo_accept_1 : decode cMo_accept 1 = .ok (.aload_n 0, 1) := by decide +kernel
theorem dMo_accept_2 : decode cMo_accept 2 = .ok (.iload_n 1, 1) := by decide +kernel
theorem dMo_accept_3 : decode cMo_accept 3 = .ok (.iload_n 2, 1) := by decide +kernel
theorem dMo_accept_4 : decode cMo_accept 4 = .ok (.iconst 2, 1) := by decide +kernel
theorem dMo_accept_5 : decode cMo_accept 5 = .ok (.invokevirtual 168, 3) := by decide +kernel
theorem dMo_accept_8 : decode cMo_accept 8 = .ok (.putfield 95, 3) := by decide +kernel
theorem dMo_accept_11 : decode cMo_accept 11 = .ok (.aload_n 0, 1) := by decide +kernel
theorem dMo_accept_12 : decode cMo_accept 12 = .ok (.getfield 95, 3) := by decide +kernel
theorem dMo_accept_15 : decode cMo_accept 15 = .ok (.ifCond .ne 26, 3) := by decide +kernel
theorem dMo_accept_18 : decode cMo_accept 18 = .ok (.aload_n 0, 1) := by decide +kernel
theorem dMo_accept_19 : decode cMo_accept 19 = .ok (.aload_n 0, 1) := by decide +kernel
theorem dMo_accept_20 : decode cMo_accept 20 = .ok (.getfield 77, 3) := by decide +kernel
theorem dMo_accept_23 : decode cMo_accept 23 = .ok (.iconst 3, 1) := by decide +kernel
theorem dMo_accept_24 : decode cMo_accept 24 = .ok (.iload_n 1, 1) := by decide +kernel
theorem dMo_accept_25 : decode cMo_accept 25 = .ok (.imul, 1) := by decide +kernel
theorem dMo_accept_26 : decode cMo_accept 26 = .ok (.iload_n 2, 1) := by decide +kernel
theorem dMo_accept_27 : decode cMo_accept 27 = .ok (.iadd, 1) := by decide +kernel
theorem dMo_accept_28 : decode cMo_accept 28 = .ok (.iaload, 1) := by decide +kernel
theorem dMo_accept_29 : decode cMo_accept 29 = .ok (.iconst 2, 1) := by decide +kernel
theorem dMo_accept_30 : decode cMo_accept 30 = .ok (.if_icmp .ne 7, 3) := by decide +kernel
theorem dMo_accept_33 : decode cMo_accept 33 = .ok (.iconst 0, 1) := by decide +kernel
theorem dMo_accept_34 : decode cMo_accept 34 = .ok (.goto 4, 3) := by decide +kernel
theorem dMo_accept_37 : decode cMo_accept 37 = .ok (.iconst 2, 1) := by decide +kernel
theorem dMo_accept_38 : decode cMo_accept 38 = .ok (.putfield 95, 3) := by decide +kernel
theorem dMo_accept_41 : decode cMo_accept 41 = .ok (.aload_n 0, 1) := by decide +kernel
theorem dMo_accept_42 : decode cMo_accept 42 = .ok (.getfield 95, 3) := by decide +kernel
theorem dMo_accept_45 : decode cMo_accept 45 = .ok (.ifCond .ne 11, 3) := by decide +kernel
theorem dMo_accept_48 : decode cMo_accept 48 = .ok (.aload_n 0, 1) := by decide +kernel
theorem dMo_accept_49 : decode cMo_accept 49 = .ok (.iload_n 1, 1) := by decide +kernel
theorem dMo_accept_50 : decode cMo_accept 50 = .ok (.iload_n 2, 1) := by decide +kernel
theorem dMo_accept_51 : decode cMo_accept 51 = .ok (.iconst 2, 1) := by decide +kernel
theorem dMo_accept_52 : decode cMo_accept 52 = .ok (.iconst 3, 1) := by decide +kernel
theorem dMo_accept_53 : decode cMo_accept 53 = .ok (.invokevirtual 172, 3) := by decide +kernel
theorem dMo_accept_56 : decode cMo_accept 56 = .ok (.return_, 1) := by decide +kernel
theorem dMo_clear_0 : decode cMo_clear 0 = .ok (.aload_n 0, 1) := by decide +kernel
theorem dMo_clear_1 : decode cMo_clear 1 = .ok (.aload_n 0, 1) := by decide +kernel
theorem dMo_clear_2 : decode cMo_clear 2 = .ok (.iload_n 1, 1) := by decide +kernel
theorem dMo_clear_3 : decode cMo_clear 3 = .ok (.iload_n 2, 1) := by decide +kernel
theorem dMo_clear_4 : decode cMo_clear 4 = .ok (.iconst 2, 1) := by decide +kernel
theorem dMo_clear_5 : decode cMo_clear 5 = .ok (.invokevirtual 168, 3) := by decide +kernel
theorem dMo_clear_8 : decode cMo_clear 8 = .ok (.putfield 95, 3) := by decide +kernel
theorem dMo_clear_11 : decode cMo_clear 11 = .ok (.aload_n 0, 1) := by decide +kernel
theorem dMo_clear_12 : decode cMo_clear 12 = .ok (.getfield 95, 3) := by decide +kernel
theorem dMo_clear_15 : decode cMo_clear 15 = .ok (.ifCond .ne 39, 3) := by decide +kernel
theorem dMo_clear_18 : decode cMo_clear 18 = .ok (.aload_n 0, 1) := by decide +kernel
theorem dMo_clear_19 : decode cMo_clear 19 = .ok (.aload_n 0, 1) := by decide +kernel
theorem dMo_clear_20 : decode cMo_clear 20 = .ok (.getfield 77, 3) := by decide +kernel
theorem dMo_clear_23 : decode cMo_clear 23 = .ok (.iconst 3, 1) := by decide +kernel
theorem dMo_clear_24 : decode cMo_clear 24 = .ok (.iload_n 1, 1) := by decide +kernel
theorem dMo_clear_25 : decode cMo_clear 25 = .ok (.imul, 1) := by decide +kernel
theorem dMo_clear_26 : decode cMo_clear 26 = .ok (.iload_n 2, 1) := by decide +kernel
theorem dMo_clear_27 : decode cMo_clear 27 = .ok (.iadd, 1) := by decide +kernel
theorem dMo_clear_28 : decode cMo_clear 28 = .ok (.iaload, 1) := by decide +kernel
theorem dMo_clear_29 : decode cMo_clear 29 = .ok (.ifCond .eq 17, 3) := by decide +kernel
theorem dMo_clear_32 : decode cMo_clear 32 = .ok (.aload_n 0, 1) := by decide +kernel
theorem dMo_clear_33 : decode cMo_clear 33 = .ok (.getfield 77, 3) := by decide +kernel
theorem dMo_clear_36 : decode cMo_clear 36 = .ok (.iconst 3, 1) := by decide +kernel
theorem dMo_clear_37 : decode cMo_clear 37 = .ok (.iload_n 1, 1) := by decide +kernel
theorem dMo_clear_38 : decode cMo_clear 38 = .ok (.imul, 1) := by decide +kernel
theorem dMo_clear_39 : decode cMo_clear 39 = .ok (.iload_n 2, 1) := by decide +kernel
theorem dMo_clear_40 : decode cMo_clear 40 = .ok (.iadd, 1) := by decide +kernel
theorem dMo_clear_41 : decode cMo_clear 41 = .ok (.iaload, 1) := by decide +kernel
theorem dMo_clear_42 : decode cMo_clear 42 = .ok (.iconst 4, 1) := by decide +kernel
theorem dMo_clear_43 : decode cMo_clear 43 = .ok (.if_icmp .ne 7, 3) := by decide +kernel
theorem dMo_clear_46 : decode cMo_clear 46 = .ok (.iconst 2, 1) := by decide +kernel
theorem dMo_clear_47 : decode cMo_clear 47 = .ok (.goto 4, 3) := by decide +kernel
theorem dMo_clear_50 : decode cMo_clear 50 = .ok (.iconst 0, 1) := by decide +kernel
theorem dMo_clear_51 : decode cMo_clear 51 = .ok (.putfield 95, 3) := by decide +kernel
theorem dMo_clear_54 : decode cMo_clear 54 = .ok (.aload_n 0, 1) := by decide +kernel
theorem dMo_clear_55 : decode cMo_clear 55 = .ok (.getfield 95, 3) := by decide +kernel
theorem dMo_clear_58 : decode cMo_clear 58 = .ok (.ifCond .ne 11, 3) := by decide +kernel
theorem dMo_clear_61 : decode cMo_clear 61 = .ok (.aload_n 0, 1) := by decide +kernel
theorem dMo_clear_62 : decode cMo_clear 62 = .ok (.iload_n 1, 1) := by decide +kernel
theorem dMo_clear_63 : decode cMo_clear 63 = .ok (.iload_n 2, 1) := by decide +kernel
theorem dMo_clear_64 : decode cMo_clear 64 = .ok (.iconst 3, 1) := by decide +kernel
theorem dMo_clear_65 : decode cMo_clear 65 = .ok (.iconst 4, 1) := by decide +kernel
theorem dMo_clear_66 : decode cMo_clear 66 = .ok (.invokevirtual 172, 3) := by decide +kernel
theorem dMo_clear_69 : decode cMo_clear 69 = .ok (.return_, 1) := by decide +kernel
theorem dMo_reset_0 : decode cMo_reset 0 = .ok (.aload_n 0, 1) := by decide +kernel
theorem dMo_reset_1 : decode cMo_reset 1 = .ok (.aload_n 0, 1) := by decide +kernel
theorem dMo_reset_2 : decode cMo_reset 2 = .ok (.iload_n 1, 1) := by decide +kernel
theorem dMo_reset_3 : decode cMo_reset 3 = .ok (.iload_n 2, 1) := by decide +kernel
theorem dMo_reset_4 : decode cMo_reset 4 = .ok (.iconst 2, 1) := by decide +kernel
theorem dMo_reset_5 : decode cMo_reset 5 = .ok (.invokevirtual 168, 3) := by decide +kernel
theorem dMo_reset_8 : decode cMo_reset 8 = .ok (.putfield 95, 3) := by decide +kernel
theorem dMo_reset_11 : decode cMo_reset 11 = .ok (.aload_n 0, 1) := by decide +kernel
theorem dMo_reset_12 : decode cMo_reset 12 = .ok (.getfield 95, 3) := by decide +kernel
theorem dMo_reset_15 : decode cMo_reset 15 = .ok (.ifCond .ne 26, 3) := by decide +kernel
theorem dMo_reset_18 : decode cMo_reset 18 = .ok (.aload_n 0, 1) := by decide +kernel
theorem dMo_reset_19 : decode cMo_reset 19 = .ok (.aload_n 0, 1) := by decide +kernel
theorem dMo_reset_20 : decode cMo_reset 20 = .ok (.getfield 77, 3) := by decide +kernel
theorem dMo_reset_23 : decode cMo_reset 23 = .ok (.iconst 3, 1) := by decide +kernel
theorem dMo_reset_24 : decode cMo_reset 24 = .ok (.iload_n 1, 1) := by decide +kernel
theorem dMo_reset_25 : decode cMo_reset 25 = .ok (.imul, 1) := by decide +kernel
theorem dMo_reset_26 : decode cMo_reset 26 = .ok (.iload_n 2, 1) := by decide +kernel
theorem dMo_reset_27 : decode cMo_reset 27 = .ok (.iadd, 1) := by decide +kernel
theorem dMo_reset_28 : decode cMo_reset 28 = .ok (.iaload, 1) := by decide +kernel
theorem dMo_reset_29 : decode cMo_reset 29 = .ok (.iconst 3, 1) := by decide +kernel
theorem dMo_reset_30 : decode cMo_reset 30 = .ok (.if_icmp .ne 7, 3) := by decide +kernel
theorem dMo_reset_33 : decode cMo_reset 33 = .ok (.iconst 0, 1) := by decide +kernel
theorem dMo_reset_34 : decode cMo_reset 34 = .ok (.goto 4, 3) := by decide +kernel
theorem dMo_reset_37 : decode cMo_reset 37 = .ok (.iconst 2, 1) := by decide +kernel
theorem dMo_reset_38 : decode cMo_reset 38 = .ok (.putfield 95, 3) := by decide +kernel
theorem dMo_reset_41 : decode cMo_reset 41 = .ok (.aload_n 0, 1) := by decide +kernel
theorem dMo_reset_42 : decode cMo_reset 42 = .ok (.getfield 95, 3) := by decide +kernel
theorem dMo_reset_45 : decode cMo_reset 45 = .ok (.ifCond .ne 12, 3) := by decide +kernel
theorem dMo_reset_48 : decode cMo_reset 48 = .ok (.aload_n 0, 1) := by decide +kernel
theorem dMo_reset_49 : decode cMo_reset 49 = .ok (.iload_n 1, 1) := by decide +kernel
theorem dMo_reset_50 : decode cMo_reset 50 = .ok (.iload_n 2, 1) := by decide +kernel
theorem dMo_reset_51 : decode cMo_reset 51 = .ok (.bipush 7, 2) := by decide +kernel
theorem dMo_reset_53 : decode cMo_reset 53 = .ok (.iconst 5, 1) := by decide +kernel
theorem dMo_reset_54 : decode cMo_reset 54 = .ok (.invokevirtual 172, 3) := by decide +kernel
theorem dMo_reset_57 : decode cMo_reset 57 = .ok (.return_, 1) := by decide +kernel
theorem dMo_send_0 : decode cMo_send 0 = .ok (.aload_n 0, 1) := by decide +kernel
theorem dMo_send_1 : decode cMo_send 1 = .ok (.iload_n 1, 1) := by decide +kernel
theorem dMo_send_2 : decode cMo_send 2 = .ok (.iload_n 2, 1) := by decide +kernel
theorem dMo_send_3 : decode cMo_send 3 = .ok (.invokestatic 164, 3) := by decide +kernel
theorem dMo_send_6 : decode cMo_send 6 = .ok (.ifCond .ne 7, 3) := by decide +kernel
theorem dMo_send_9 : decode cMo_send 9 = .ok (.iconst 1, 1) := by decide +kernel
theorem dMo_send_10 : decode cMo_send 10 = .ok (.goto 25, 3) := by decide +kernel
theorem dMo_send_13 : decode cMo_send 13 = .ok (.iload_n 3, 1) := by decide +kernel
theorem dMo_send_14 : decode cMo_send 14 = .ok (.ifCond .lt 10, 3) := by decide +kernel
theorem dMo_send_17 : decode cMo_send 17 = .ok (.iload_n 3, 1) := by decide +kernel
theorem dMo_send_18 : decode cMo_send 18 = .ok (.sipush 255, 3) := by decide +kernel
theorem dMo_send_21 : decode cMo_send 21 = .ok (.if_icmp .le 7, 3) := by decide +kernel
theorem dMo_send_24 : decode cMo_send 24 = .ok (.iconst 2, 1) := by decide +kernel
theorem dMo_send_25 : decode cMo_send 25 = .ok (.goto 10, 3) := by decide +kernel
theorem dMo_send_28 : decode cMo_send 28 = .ok (.aload_n 0, 1) := by decide +kernel
theorem dMo_send_29 : decode cMo_send 29 = .ok (.iload_n 1, 1) := by decide +kernel
theorem dMo_send_30 : decode cMo_send 30 = .ok (.iload_n 2, 1) := by decide +kernel
theorem dMo_send_31 : decode cMo_send 31 = .ok (.iconst 3, 1) := by decide +kernel
theorem dMo_send_32 : decode cMo_send 32 = .ok (.invokevirtual 168, 3) := by decide +kernel
theorem dMo_send_35 : decode cMo_send 35 = .ok (.putfield 95, 3) := by decide +kernel
theorem dMo_send_38 : decode cMo_send 38 = .ok (.aload_n 0, 1) := by decide +kernel
theorem dMo_send_39 : decode cMo_send 39 = .ok (.getfield 95, 3) := by decide +kernel
theorem dMo_send_42 : decode cMo_send 42 = .ok (.ifCond .ne 26, 3) := by decide +kernel
theorem dMo_send_45 : decode cMo_send 45 = .ok (.aload_n 0, 1) := by decide +kernel
theorem dMo_send_46 : decode cMo_send 46 = .ok (.aload_n 0, 1) := by decide +kernel
theorem dMo_send_47 : decode cMo_send 47 = .ok (.getfield 77, 3) := by decide +kernel
theorem dMo_send_50 : decode cMo_send 50 = .ok (.iconst 3, 1) := by decide +kernel
theorem dMo_send_51 : decode cMo_send 51 = .ok (.iload_n 1, 1) := by decide +kernel
theorem dMo_send_52 : decode cMo_send 52 = .ok (.imul, 1) := by decide +kernel
theorem dMo_send_53 : decode cMo_send 53 = .ok (.iload_n 2, 1) := by decide +kernel
theorem dMo_send_54 : decode cMo_send 54 = .ok (.iadd, 1) := by decide +kernel
theorem dMo_send_55 : decode cMo_send 55 = .ok (.iaload, 1) := by decide +kernel
theorem dMo_send_56 : decode cMo_send 56 = .ok (.iconst 3, 1) := by decide +kernel
theorem dMo_send_57 : decode cMo_send 57 = .ok (.if_icmp .ne 7, 3) := by decide +kernel
theorem dMo_send_60 : decode cMo_send 60 = .ok (.iconst 0, 1) := by decide +kernel
theorem dMo_send_61 : decode cMo_send 61 = .ok (.goto 4, 3) := by decide +kernel
theorem dMo_send_64 : decode cMo_send 64 = .ok (.iconst 3, 1) := by decide +kernel
theorem dMo_send_65 : decode cMo_send 65 = .ok (.putfield 95, 3) := by decide +kernel
theorem dMo_send_68 : decode cMo_send 68 = .ok (.aload_n 0, 1) := by decide +kernel
theorem dMo_send_69 : decode cMo_send 69 = .ok (.getfield 95, 3) := by decide +kernel
theorem dMo_send_72 : decode cMo_send 72 = .ok (.ifCond .le 5, 3) := by decide +kernel
theorem dMo_send_75 : decode cMo_send 75 = .ok (.iconst 0, 1) := by decide +kernel
theorem dMo_send_76 : decode cMo_send 76 = .ok (.ireturn, 1) := by decide +kernel
theorem dMo_send_77 : decode cMo_send 77 = .ok (.iconst 3, 1) := by decide +kernel
theorem dMo_send_78 : decode cMo_send 78 = .ok (.iload_n 1, 1) := by decide +kernel
theorem dMo_send_79 : decode cMo_send 79 = .ok (.imul, 1) := by decide +kernel
theorem dMo_send_80 : decode cMo_send 80 = .ok (.iload_n 2, 1) := by decide +kernel
theorem dMo_send_81 : decode cMo_send 81 = .ok (.iadd, 1) := by decide +kernel
theorem dMo_send_82 : decode cMo_send 82 = .ok (.istore 5, 2) := by decide +kernel
theorem dMo_send_84 : decode cMo_send 84 = .ok (.aload_n 0, 1) := by decide +kernel
theorem dMo_send_85 : decode cMo_send 85 = .ok (.getfield 80, 3) := by decide +kernel
theorem dMo_send_88 : decode cMo_send 88 = .ok (.iload 5, 2) := by decide +kernel
theorem dMo_send_90 : decode cMo_send 90 = .ok (.iaload, 1) := by decide +kernel
theorem dMo_send_91 : decode cMo_send 91 = .ok (.aload_n 0, 1) := by decide +kernel
theorem dMo_send_92 : decode cMo_send 92 = .ok (.getfield 83, 3) := by decide +kernel
theorem dMo_send_95 : decode cMo_send 95 = .ok (.iload 5, 2) := by decide +kernel
theorem dMo_send_97 : decode cMo_send 97 = .ok (.iaload, 1) := by decide +kernel
theorem dMo_send_98 : decode cMo_send 98 = .ok (.invokestatic 99, 3) := by decide +kernel
theorem dMo_send_101 : decode cMo_send 101 = .ok (.iconst 2, 1) := by decide +kernel
theorem dMo_send_102 : decode cMo_send 102 = .ok (.if_icmp .ne 5, 3) := by decide +kernel
theorem dMo_send_105 : decode cMo_send 105 = .ok (.iconst 0, 1) := by decide +kernel
theorem dMo_send_106 : decode cMo_send 106 = .ok (.ireturn, 1) := by decide +kernel
theorem dMo_send_107 : decode cMo_send 107 = .ok (.aload_n 0, 1) := by decide +kernel
theorem dMo_send_108 : decode cMo_send 108 = .ok (.iload_n 1, 1) := by decide +kernel
theorem dMo_send_109 : decode cMo_send 109 = .ok (.iconst 5, 1) := by decide +kernel
theorem dMo_send_110 : decode cMo_send 110 = .ok (.iload_n 2, 1) := by decide +kernel
theorem dMo_send_111 : decode cMo_send 111 = .ok (.aload_n 0, 1) := by decide +kernel
theorem dMo_send_112 : decode cMo_send 112 = .ok (.getfield 80, 3) := by decide +kernel
theorem dMo_send_115 : decode cMo_send 115 = .ok (.iload 5, 2) := by decide +kernel
theorem dMo_send_117 : decode cMo_send 117 = .ok (.iaload, 1) := by decide +kernel
theorem dMo_send_118 : decode cMo_send 118 = .ok (.aload_n 0, 1) := by decide +kernel
theorem dMo_send_119 : decode cMo_send 119 = .ok (.getfield 89, 3) := by decide +kernel
theorem dMo_send_122 : decode cMo_send 122 = .ok (.iload 5, 2) := by decide +kernel
theorem dMo_send_124 : decode cMo_send 124 = .ok (.iaload, 1) := by decide +kernel
theorem dMo_send_125 : decode cMo_send 125 = .ok (.iload 4, 2) := by decide +kernel
theorem dMo_send_127 : decode cMo_send 127 = .ok (.ifCond .eq 11, 3) := by decide +kernel
theorem dMo_send_130 : decode cMo_send 130 = .ok (.iload_n 3, 1) := by decide +kernel
theorem dMo_send_131 : decode cMo_send 131 = .ok (.sipush 256, 3) := by decide +kernel
theorem dMo_send_134 : decode cMo_send 134 = .ok (.iadd, 1) := by decide +kernel
theorem dMo_send_135 : decode cMo_send 135 = .ok (.goto 4, 3) := by decide +kernel
theorem dMo_send_138 : decode cMo_send 138 = .ok (.iload_n 3, 1) := by decide +kernel
theorem dMo_send_139 : decode cMo_send 139 = .ok (.invokevirtual 128, 3) := by decide +kernel
theorem dMo_send_142 : decode cMo_send 142 = .ok (.aload_n 0, 1) := by decide +kernel
theorem dMo_send_143 : decode cMo_send 143 = .ok (.getfield 80, 3) := by decide +kernel
theorem dMo_send_146 : decode cMo_send 146 = .ok (.iload 5, 2) := by decide +kernel
theorem dMo_send_148 : decode cMo_send 148 = .ok (.aload_n 0, 1) := by decide +kernel
theorem dMo_send_149 : decode cMo_send 149 = .ok (.getfield 80, 3) := by decide +kernel
theorem dMo_send_152 : decode cMo_send 152 = .ok (.iload 5, 2) := by decide +kernel
theorem dMo_send_154 : decode cMo_send 154 = .ok (.iaload, 1) := by decide +kernel
theorem dMo_send_155 : decode cMo_send 155 = .ok (.invokestatic 115, 3) := by decide +kernel
theorem dMo_send_158 : decode cMo_send 158 = .ok (.iastore, 1) := by decide +kernel
theorem dMo_send_159 : decode cMo_send 159 = .ok (.iconst 1, 1) := by decide +kernel
theorem dMo_send_160 : decode cMo_send 160 = .ok (.ireturn, 1) := by decide +kernel
theorem dMo_receive_0 : decode cMo_receive 0 = .ok (.aload_n 0, 1) := by decide +kernel
theorem dMo_receive_1 : decode cMo_receive 1 = .ok (.aload_n 0, 1) := by decide +kernel
theorem dMo_receive_2 : decode cMo_receive 2 = .ok (.iload_n 1, 1) := by decide +kernel
theorem dMo_receive_3 : decode cMo_receive 3 = .ok (.iload_n 2, 1) := by decide +kernel
theorem dMo_receive_4 : decode cMo_receive 4 = .ok (.iconst 2, 1) := by decide +kernel
theorem dMo_receive_5 : decode cMo_receive 5 = .ok (.invokevirtual 168, 3) := by decide +kernel
theorem dMo_receive_8 : decode cMo_receive 8 = .ok (.putfield 95, 3) := by decide +kernel
theorem dMo_receive_11 : decode cMo_receive 11 = .ok (.aload_n 0, 1) := by decide +kernel
theorem dMo_receive_12 : decode cMo_receive 12 = .ok (.getfield 95, 3) := by decide +kernel
theorem dMo_receive_15 : decode cMo_receive 15 = .ok (.ifCond .ne 53, 3) := by decide +kernel
theorem dMo_receive_18 : decode cMo_receive 18 = .ok (.aload_n 0, 1) := by decide +kernel
theorem dMo_receive_19 : decode cMo_receive 19 = .ok (.aload_n 0, 1) := by decide +kernel
theorem dMo_receive_20 : decode cMo_receive 20 = .ok (.getfield 77, 3) := by decide +kernel
theorem dMo_receive_23 : decode cMo_receive 23 = .ok (.iconst 3, 1) := by decide +kernel
theorem dMo_receive_24 : decode cMo_receive 24 = .ok (.iload_n 1, 1) := by decide +kernel
theorem dMo_receive_25 : decode cMo_receive 25 = .ok (.imul, 1) := by decide +kernel
theorem dMo_receive_26 : decode cMo_receive 26 = .ok (.iload_n 2, 1) := by decide +kernel
theorem dMo_receive_27 : decode cMo_receive 27 = .ok (.iadd, 1) := by decide +kernel
theorem dMo_receive_28 : decode cMo_receive 28 = .ok (.iaload, 1) := by decide +kernel
theorem dMo_receive_29 : decode cMo_receive 29 = .ok (.iconst 3, 1) := by decide +kernel
theorem dMo_receive_30 : decode cMo_receive 30 = .ok (.if_icmp .eq 7, 3) := by decide +kernel
theorem dMo_receive_33 : decode cMo_receive 33 = .ok (.iconst 2, 1) := by decide +kernel
theorem dMo_receive_34 : decode cMo_receive 34 = .ok (.goto 31, 3) := by decide +kernel
theorem dMo_receive_37 : decode cMo_receive 37 = .ok (.aload_n 0, 1) := by decide +kernel
theorem dMo_receive_38 : decode cMo_receive 38 = .ok (.getfield 86, 3) := by decide +kernel
theorem dMo_receive_41 : decode cMo_receive 41 = .ok (.iconst 3, 1) := by decide +kernel
theorem dMo_receive_42 : decode cMo_receive 42 = .ok (.iload_n 1, 1) := by decide +kernel
theorem dMo_receive_43 : decode cMo_receive 43 = .ok (.imul, 1) := by decide +kernel
theorem dMo_receive_44 : decode cMo_receive 44 = .ok (.iload_n 2, 1) := by decide +kernel
theorem dMo_receive_45 : decode cMo_receive 45 = .ok (.iadd, 1) := by decide +kernel
theorem dMo_receive_46 : decode cMo_receive 46 = .ok (.iaload, 1) := by decide +kernel
theorem dMo_receive_47 : decode cMo_receive 47 = .ok (.aload_n 0, 1) := by decide +kernel
theorem dMo_receive_48 : decode cMo_receive 48 = .ok (.getfield 89, 3) := by decide +kernel
theorem dMo_receive_51 : decode cMo_receive 51 = .ok (.iconst 3, 1) := by decide +kernel
theorem dMo_receive_52 : decode cMo_receive 52 = .ok (.iload_n 1, 1) := by decide +kernel
theorem dMo_receive_53 : decode cMo_receive 53 = .ok (.imul, 1) := by decide +kernel
theorem dMo_receive_54 : decode cMo_receive 54 = .ok (.iload_n 2, 1) := by decide +kernel
theorem dMo_receive_55 : decode cMo_receive 55 = .ok (.iadd, 1) := by decide +kernel
theorem dMo_receive_56 : decode cMo_receive 56 = .ok (.iaload, 1) := by decide +kernel
theorem dMo_receive_57 : decode cMo_receive 57 = .ok (.if_icmp .ne 7, 3) := by decide +kernel
theorem dMo_receive_60 : decode cMo_receive 60 = .ok (.iconst 3, 1) := by decide +kernel
theorem dMo_receive_61 : decode cMo_receive 61 = .ok (.goto 4, 3) := by decide +kernel
theorem dMo_receive_64 : decode cMo_receive 64 = .ok (.iconst 0, 1) := by decide +kernel
theorem dMo_receive_65 : decode cMo_receive 65 = .ok (.putfield 95, 3) := by decide +kernel
theorem dMo_receive_68 : decode cMo_receive 68 = .ok (.aload_n 0, 1) := by decide +kernel
theorem dMo_receive_69 : decode cMo_receive 69 = .ok (.getfield 95, 3) := by decide +kernel
theorem dMo_receive_72 : decode cMo_receive 72 = .ok (.ifCond .le 5, 3) := by decide +kernel
theorem dMo_receive_75 : decode cMo_receive 75 = .ok (.iconst 0, 1) := by decide +kernel
theorem dMo_receive_76 : decode cMo_receive 76 = .ok (.ireturn, 1) := by decide +kernel
theorem dMo_receive_77 : decode cMo_receive 77 = .ok (.iconst 3, 1) := by decide +kernel
theorem dMo_receive_78 : decode cMo_receive 78 = .ok (.iload_n 1, 1) := by decide +kernel
theorem dMo_receive_79 : decode cMo_receive 79 = .ok (.imul, 1) := by decide +kernel
theorem dMo_receive_80 : decode cMo_receive 80 = .ok (.iload_n 2, 1) := by decide +kernel
theorem dMo_receive_81 : decode cMo_receive 81 = .ok (.iadd, 1) := by decide +kernel
theorem dMo_receive_82 : decode cMo_receive 82 = .ok (.istore_n 3, 1) := by decide +kernel
theorem dMo_receive_83 : decode cMo_receive 83 = .ok (.aload_n 0, 1) := by decide +kernel
theorem dMo_receive_84 : decode cMo_receive 84 = .ok (.getfield 92, 3) := by decide +kernel
theorem dMo_receive_87 : decode cMo_receive 87 = .ok (.iconst 2, 1) := by decide +kernel
theorem dMo_receive_88 : decode cMo_receive 88 = .ok (.iload_n 3, 1) := by decide +kernel
theorem dMo_receive_89 : decode cMo_receive 89 = .ok (.imul, 1) := by decide +kernel
theorem dMo_receive_90 : decode cMo_receive 90 = .ok (.iaload, 1) := by decide +kernel
theorem dMo_receive_91 : decode cMo_receive 91 = .ok (.istore 4, 2) := by decide +kernel
theorem dMo_receive_93 : decode cMo_receive 93 = .ok (.aload_n 0, 1) := by decide +kernel
theorem dMo_receive_94 : decode cMo_receive 94 = .ok (.getfield 92, 3) := by decide +kernel
theorem dMo_receive_97 : decode cMo_receive 97 = .ok (.iconst 2, 1) := by decide +kernel
theorem dMo_receive_98 : decode cMo_receive 98 = .ok (.iload_n 3, 1) := by decide +kernel
theorem dMo_receive_99 : decode cMo_receive 99 = .ok (.imul, 1) := by decide +kernel
theorem dMo_receive_100 : decode cMo_receive 100 = .ok (.aload_n 0, 1) := by decide +kernel
theorem dMo_receive_101 : decode cMo_receive 101 = .ok (.getfield 92, 3) := by decide +kernel
theorem dMo_receive_104 : decode cMo_receive 104 = .ok (.iconst 2, 1) := by decide +kernel
theorem dMo_receive_105 : decode cMo_receive 105 = .ok (.iload_n 3, 1) := by decide +kernel
theorem dMo_receive_106 : decode cMo_receive 106 = .ok (.imul, 1) := by decide +kernel
theorem dMo_receive_107 : decode cMo_receive 107 = .ok (.iconst 1, 1) := by decide +kernel
theorem dMo_receive_108 : decode cMo_receive 108 = .ok (.iadd, 1) := by decide +kernel
theorem dMo_receive_109 : decode cMo_receive 109 = .ok (.iaload, 1) := by decide +kernel
theorem dMo_receive_110 : decode cMo_receive 110 = .ok (.iastore, 1) := by decide +kernel
theorem dMo_receive_111 : decode cMo_receive 111 = .ok (.aload_n 0, 1) := by decide +kernel
theorem dMo_receive_112 : decode cMo_receive 112 = .ok (.getfield 89, 3) := by decide +kernel
theorem dMo_receive_115 : decode cMo_receive 115 = .ok (.iload_n 3, 1) := by decide +kernel
theorem dMo_receive_116 : decode cMo_receive 116 = .ok (.aload_n 0, 1) := by decide +kernel
theorem dMo_receive_117 : decode cMo_receive 117 = .ok (.getfield 89, 3) := by decide +kernel
theorem dMo_receive_120 : decode cMo_receive 120 = .ok (.iload_n 3, 1) := by decide +kernel
theorem dMo_receive_121 : decode cMo_receive 121 = .ok (.iaload, 1) := by decide +kernel
theorem dMo_receive_122 : decode cMo_receive 122 = .ok (.invokestatic 115, 3) := by decide +kernel
theorem dMo_receive_125 : decode cMo_receive 125 = .ok (.iastore, 1) := by decide +kernel
theorem dMo_receive_126 : decode cMo_receive 126 = .ok (.aload_n 0, 1) := by decide +kernel
theorem dMo_receive_127 : decode cMo_receive 127 = .ok (.iload_n 1, 1) := by decide +kernel
theorem dMo_receive_128 : decode cMo_receive 128 = .ok (.bipush 6, 2) := by decide +kernel
theorem dMo_receive_130 : decode cMo_receive 130 = .ok (.iload_n 2, 1) := by decide +kernel
theorem dMo_receive_131 : decode cMo_receive 131 = .ok (.iconst 0, 1) := by decide +kernel
theorem dMo_receive_132 : decode cMo_receive 132 = .ok (.aload_n 0, 1) := by decide +kernel
theorem dMo_receive_133 : decode cMo_receive 133 = .ok (.getfield 89, 3) := by decide +kernel
theorem dMo_receive_136 : decode cMo_receive 136 = .ok (.iload_n 3, 1) := by decide +kernel
theorem dMo_receive_137 : decode cMo_receive 137 = .ok (.iaload, 1) := by decide +kernel
theorem dMo_receive_138 : decode cMo_receive 138 = .ok (.iconst 0, 1) := by decide +kernel
theorem dMo_receive_139 : decode cMo_receive 139 = .ok (.invokevirtual 128, 3) := by decide +kernel
theorem dMo_receive_142 : decode cMo_receive 142 = .ok (.iload 4, 2) := by decide +kernel
theorem dMo_receive_144 : decode cMo_receive 144 = .ok (.ireturn, 1) := by decide +kernel
theorem dMo_link_0 : decode cMo_link 0 = .ok (.aload_n 0, 1) := by decide +kernel
theorem dMo_link_1 : decode cMo_link 1 = .ok (.iload_n 1, 1) := by decide +kernel
theorem dMo_link_2 : decode cMo_link 2 = .ok (.invokestatic 144, 3) := by decide +kernel
theorem dMo_link_5 : decode cMo_link 5 = .ok (.ifCond .eq 7, 3) := by decide +kernel
theorem dMo_link_8 : decode cMo_link 8 = .ok (.iconst 0, 1) := by decide +kernel
theorem dMo_link_9 : decode cMo_link 9 = .ok (.goto 4, 3) := by decide +kernel
theorem dMo_link_12 : decode cMo_link 12 = .ok (.iconst 1, 1) := by decide +kernel
theorem dMo_link_13 : decode cMo_link 13 = .ok (.putfield 95, 3) := by decide +kernel
theorem dMo_link_16 : decode cMo_link 16 = .ok (.aload_n 0, 1) := by decide +kernel
theorem dMo_link_17 : decode cMo_link 17 = .ok (.getfield 95, 3) := by decide +kernel
theorem dMo_link_20 : decode cMo_link 20 = .ok (.ifCond .le 5, 3) := by decide +kernel
theorem dMo_link_23 : decode cMo_link 23 = .ok (.iconst 0, 1) := by decide +kernel
theorem dMo_link_24 : decode cMo_link 24 = .ok (.ireturn, 1) := by decide +kernel
theorem dMo_link_25 : decode cMo_link 25 = .ok (.iload_n 2, 1) := by decide +kernel
theorem dMo_link_26 : decode cMo_link 26 = .ok (.tableswitch 110 0 7 #[46, 53, 60, 67, 74, 81, 96, 103], 46) := by decide +kernel
theorem dMo_link_72 : decode cMo_link 72 = .ok (.aload_n 0, 1) := by decide +kernel
theorem dMo_link_73 : decode cMo_link 73 = .ok (.getfield 37, 3) := by decide +kernel
theorem dMo_link_76 : decode cMo_link 76 = .ok (.iload_n 1, 1) := by decide +kernel
theorem dMo_link_77 : decode cMo_link 77 = .ok (.iaload, 1) := by decide +kernel
theorem dMo_link_78 : decode cMo_link 78 = .ok (.ireturn, 1) := by decide +kernel
theorem dMo_link_79 : decode cMo_link 79 = .ok (.aload_n 0, 1) := by decide +kernel
theorem dMo_link_80 : decode cMo_link 80 = .ok (.getfield 40, 3) := by decide +kernel
theorem dMo_link_83 : decode cMo_link 83 = .ok (.iload_n 1, 1) := by decide +kernel
theorem dMo_link_84 : decode cMo_link 84 = .ok (.iaload, 1) := by decide +kernel
theorem dMo_link_85 : decode cMo_link 85 = .ok (.ireturn, 1) := by decide +kernel
theorem dMo_link_86 : decode cMo_link 86 = .ok (.aload_n 0, 1) := by decide +kernel
theorem dMo_link_87 : decode cMo_link 87 = .ok (.getfield 43, 3) := by decide +kernel
theorem dMo_link_90 : decode cMo_link 90 = .ok (.iload_n 1, 1) := by decide +kernel
theorem dMo_link_91 : decode cMo_link 91 = .ok (.iaload, 1) := by decide +kernel
theorem dMo_link_92 : decode cMo_link 92 = .ok (.ireturn, 1) := by decide +kernel
theorem dMo_link_93 : decode cMo_link 93 = .ok (.aload_n 0, 1) := by decide +kernel
theorem dMo_link_94 : decode cMo_link 94 = .ok (.getfield 46, 3) := by decide +kernel
theorem dMo_link_97 : decode cMo_link 97 = .ok (.iload_n 1, 1) := by decide +kernel
theorem dMo_link_98 : decode cMo_link 98 = .ok (.iaload, 1) := by decide +kernel
theorem dMo_link_99 : decode cMo_link 99 = .ok (.ireturn, 1) := by decide +kernel
theorem dMo_link_100 : decode cMo_link 100 = .ok (.aload_n 0, 1) := by decide +kernel
theorem dMo_link_101 : decode cMo_link 101 = .ok (.getfield 49, 3) := by decide +kernel
theorem dMo_link_104 : decode cMo_link 104 = .ok (.iload_n 1, 1) := by decide +kernel
theorem dMo_link_105 : decode cMo_link 105 = .ok (.iaload, 1) := by decide +kernel
theorem dMo_link_106 : decode cMo_link 106 = .ok (.ireturn, 1) := by decide +kernel
theorem dMo_link_107 : decode cMo_link 107 = .ok (.aload_n 0, 1) := by decide +kernel
theorem dMo_link_108 : decode cMo_link 108 = .ok (.getfield 52, 3) := by decide +kernel
theorem dMo_link_111 : decode cMo_link 111 = .ok (.iload_n 1, 1) := by decide +kernel
theorem dMo_link_112 : decode cMo_link 112 = .ok (.baload, 1) := by decide +kernel
theorem dMo_link_113 : decode cMo_link 113 = .ok (.ifCond .eq 7, 3) := by decide +kernel
theorem dMo_link_116 : decode cMo_link 116 = .ok (.iconst 1, 1) := by decide +kernel
theorem dMo_link_117 : decode cMo_link 117 = .ok (.goto 4, 3) := by decide +kernel
theorem dMo_link_120 : decode cMo_link 120 = .ok (.iconst 0, 1) := by decide +kernel
theorem dMo_link_121 : decode cMo_link 121 = .ok (.ireturn, 1) := by decide +kernel
theorem dMo_link_122 : decode cMo_link 122 = .ok (.aload_n 0, 1) := by decide +kernel
theorem dMo_link_123 : decode cMo_link 123 = .ok (.getfield 59, 3) := by decide +kernel
theorem dMo_link_126 : decode cMo_link 126 = .ok (.iload_n 1, 1) := by decide +kernel
theorem dMo_link_127 : decode cMo_link 127 = .ok (.iaload, 1) := by decide +kernel
theorem dMo_link_128 : decode cMo_link 128 = .ok (.ireturn, 1) := by decide +kernel
theorem dMo_link_129 : decode cMo_link 129 = .ok (.aload_n 0, 1) := by decide +kernel
theorem dMo_link_130 : decode cMo_link 130 = .ok (.getfield 7, 3) := by decide +kernel
theorem dMo_link_133 : decode cMo_link 133 = .ok (.iload_n 1, 1) := by decide +kernel
theorem dMo_link_134 : decode cMo_link 134 = .ok (.iaload, 1) := by decide +kernel
theorem dMo_link_135 : decode cMo_link 135 = .ok (.ireturn, 1) := by decide +kernel
theorem dMo_link_136 : decode cMo_link 136 = .ok (.iconst (-1), 1) := by decide +kernel
theorem dMo_link_137 : decode cMo_link 137 = .ok (.ireturn, 1) := by decide +kernel
theorem dMo_channel_0 : decode cMo_channel 0 = .ok (.aload_n 0, 1) := by decide +kernel
theorem dMo_channel_1 : decode cMo_channel 1 = .ok (.iload_n 1, 1) := by decide +kernel
theorem dMo_channel_2 : decode cMo_channel 2 = .ok (.iload_n 2, 1) := by decide +kernel
theorem dMo_channel_3 : decode cMo_channel 3 = .ok (.invokestatic 164, 3) := by decide +kernel
theorem dMo_channel_6 : decode cMo_channel 6 = .ok (.ifCond .eq 7, 3) := by decide +kernel
theorem dMo_channel_9 : decode cMo_channel 9 = .ok (.iconst 0, 1) := by decide +kernel
theorem dMo_channel_10 : decode cMo_channel 10 = .ok (.goto 4, 3) := by decide +kernel
theorem dMo_channel_13 : decode cMo_channel 13 = .ok (.iconst 1, 1) := by decide +kernel
theorem dMo_channel_14 : decode cMo_channel 14 = .ok (.putfield 95, 3) := by decide +kernel
theorem dMo_channel_17 : decode cMo_channel 17 = .ok (.aload_n 0, 1) := by decide +kernel
theorem dMo_channel_18 : decode cMo_channel 18 = .ok (.getfield 95, 3) := by decide +kernel
theorem dMo_channel_21 : decode cMo_channel 21 = .ok (.ifCond .le 5, 3) := by decide +kernel
theorem dMo_channel_24 : decode cMo_channel 24 = .ok (.iconst 0, 1) := by decide +kernel
