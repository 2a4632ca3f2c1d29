theorem dLw_open_0 : decode cLw_open 0 = .ok (.aload_n 0, 1) := by decide +kernel
theorem dLw_open_1 : decode cLw_open 1 = .ok (.iload_n 1, 1) := by decide +kernel
theorem dLw_open_2 : decode cLw_open 2 = .ok (.invokevirtual 7, 3) := by decide +kernel
theorem dLw_open_5 : decode cLw_open 5 = .ok (.goto 6, 3) := by decide +kernel
theorem dLw_open_8 : decode cLw_open 8 = .ok (.astore_n 2, 1) := by decide +kernel
theorem dLw_open_9 : decode cLw_open 9 = .ok (.iconst 1, 1) := by decide +kernel
theorem dLw_open_10 : decode cLw_open 10 = .ok (.ireturn, 1) := by decide +kernel
theorem dLw_open_11 : decode cLw_open 11 = .ok (.iconst 0, 1) := by decide +kernel
theorem dLw_open_12 : decode cLw_open 12 = .ok (.ireturn, 1) := by decide +kernel
theorem dLw_expire_0 : decode cLw_expire 0 = .ok (.aload_n 2, 1) := by decide +kernel
theorem dLw_expire_1 : decode cLw_expire 1 = .ok (.iconst 0, 1) := by decide +kernel
theorem dLw_expire_2 : decode cLw_expire 2 = .ok (.aload_n 0, 1) := by decide +kernel
theorem dLw_expire_3 : decode cLw_expire 3 = .ok (.iload_n 1, 1) := by decide +kernel
theorem dLw_expire_4 : decode cLw_expire 4 = .ok (.invokevirtual 15, 3) := by decide +kernel
theorem dLw_expire_7 : decode cLw_expire 7 = .ok (.i2l, 1) := by decide +kernel
theorem dLw_expire_8 : decode cLw_expire 8 = .ok (.lastore, 1) := by decide +kernel
theorem dLw_expire_9 : decode cLw_expire 9 = .ok (.goto 9, 3) := by decide +kernel
theorem dLw_expire_12 : decode cLw_expire 12 = .ok (.astore_n 3, 1) := by decide +kernel
theorem dLw_expire_13 : decode cLw_expire 13 = .ok (.iconst 1, 1) := by decide +kernel
theorem dLw_expire_14 : decode cLw_expire 14 = .ok (.ireturn, 1) := by decide +kernel
theorem dLw_expire_15 : decode cLw_expire 15 = .ok (.astore_n 3, 1) := by decide +kernel
theorem dLw_expire_16 : decode cLw_expire 16 = .ok (.iconst 2, 1) := by decide +kernel
theorem dLw_expire_17 : decode cLw_expire 17 = .ok (.ireturn, 1) := by decide +kernel
theorem dLw_expire_18 : decode cLw_expire 18 = .ok (.iconst 0, 1) := by decide +kernel
theorem dLw_expire_19 : decode cLw_expire 19 = .ok (.ireturn, 1) := by decide +kernel
theorem dLw_deliver_0 : decode cLw_deliver 0 = .ok (.aload_n 2, 1) := by decide +kernel
theorem dLw_deliver_1 : decode cLw_deliver 1 = .ok (.iconst 0, 1) := by decide +kernel
theorem dLw_deliver_2 : decode cLw_deliver 2 = .ok (.aload_n 0, 1) := by decide +kernel
theorem dLw_deliver_3 : decode cLw_deliver 3 = .ok (.iload_n 1, 1) := by decide +kernel
theorem dLw_deliver_4 : decode cLw_deliver 4 = .ok (.invokevirtual 21, 3) := by decide +kernel
theorem dLw_deliver_7 : decode cLw_deliver 7 = .ok (.i2l, 1) := by decide +kernel
theorem dLw_deliver_8 : decode cLw_deliver 8 = .ok (.lastore, 1) := by decide +kernel
theorem dLw_deliver_9 : decode cLw_deliver 9 = .ok (.goto 9, 3) := by decide +kernel
theorem dLw_deliver_12 : decode cLw_deliver 12 = .ok (.astore_n 3, 1) := by decide +kernel
theorem dLw_deliver_13 : decode cLw_deliver 13 = .ok (.iconst 1, 1) := by decide +kernel
theorem dLw_deliver_14 : decode cLw_deliver 14 = .ok (.ireturn, 1) := by decide +kernel
theorem dLw_deliver_15 : decode cLw_deliver 15 = .ok (.astore_n 3, 1) := by decide +kernel
theorem dLw_deliver_16 : decode cLw_deliver 16 = .ok (.iconst 2, 1) := by decide +kernel
theorem dLw_deliver_17 : decode cLw_deliver 17 = .ok (.ireturn, 1) := by decide +kernel
theorem dLw_deliver_18 : decode cLw_deliver 18 = .ok (.iconst 0, 1) := by decide +kernel
theorem dLw_deliver_19 : decode cLw_deliver 19 = .ok (.ireturn, 1) := by decide +kernel
theorem dLw_lose_0 : decode cLw_lose 0 = .ok (.aload_n 2, 1) := by decide +kernel
theorem dLw_lose_1 : decode cLw_lose 1 = .ok (.iconst 0, 1) := by decide +kernel
theorem dLw_lose_2 : decode cLw_lose 2 = .ok (.aload_n 0, 1) := by decide +kernel
theorem dLw_lose_3 : decode cLw_lose 3 = .ok (.iload_n 1, 1) := by decide +kernel
theorem dLw_lose_4 : decode cLw_lose 4 = .ok (.invokevirtual 26, 3) := by decide +kernel
theorem dLw_lose_7 : decode cLw_lose 7 = .ok (.i2l, 1) := by decide +kernel
theorem dLw_lose_8 : decode cLw_lose 8 = .ok (.lastore, 1) := by decide +kernel
theorem dLw_lose_9 : decode cLw_lose 9 = .ok (.goto 9, 3) := by decide +kernel
theorem dLw_lose_12 : decode cLw_lose 12 = .ok (.astore_n 3, 1) := by decide +kernel
theorem dLw_lose_13 : decode cLw_lose 13 = .ok (.iconst 1, 1) := by decide +kernel
theorem dLw_lose_14 : decode cLw_lose 14 = .ok (.ireturn, 1) := by decide +kernel
theorem dLw_lose_15 : decode cLw_lose 15 = .ok (.astore_n 3, 1) := by decide +kernel
theorem dLw_lose_16 : decode cLw_lose 16 = .ok (.iconst 2, 1) := by decide +kernel
theorem dLw_lose_17 : decode cLw_lose 17 = .ok (.ireturn, 1) := by decide +kernel
theorem dLw_lose_18 : decode cLw_lose 18 = .ok (.iconst 0, 1) := by decide +kernel
theorem dLw_lose_19 : decode cLw_lose 19 = .ok (.ireturn, 1) := by decide +kernel
theorem dLw_hand_0 : decode cLw_hand 0 = .ok (.aload 6, 2) := by decide +kernel
theorem dLw_hand_2 : decode cLw_hand 2 = .ok (.iconst 0, 1) := by decide +kernel
theorem dLw_hand_3 : decode cLw_hand 3 = .ok (.aload_n 0, 1) := by decide +kernel
theorem dLw_hand_4 : decode cLw_hand 4 = .ok (.iload_n 1, 1) := by decide +kernel
theorem dLw_hand_5 : decode cLw_hand 5 = .ok (.iload_n 2, 1) := by decide +kernel
theorem dLw_hand_6 : decode cLw_hand 6 = .ok (.iload_n 3, 1) := by decide +kernel
theorem dLw_hand_7 : decode cLw_hand 7 = .ok (.iload 4, 2) := by decide +kernel
theorem dLw_hand_9 : decode cLw_hand 9 = .ok (.iload 5, 2) := by decide +kernel
theorem dLw_hand_11 : decode cLw_hand 11 = .ok (.invokevirtual 29, 3) := by decide +kernel
theorem dLw_hand_14 : decode cLw_hand 14 = .ok (.ifCond .eq 7, 3) := by decide +kernel
theorem dLw_hand_17 : decode cLw_hand 17 = .ok (.lconst 1, 1) := by decide +kernel
theorem dLw_hand_18 : decode cLw_hand 18 = .ok (.goto 4, 3) := by decide +kernel
theorem dLw_hand_21 : decode cLw_hand 21 = .ok (.lconst 0, 1) := by decide +kernel
theorem dLw_hand_22 : decode cLw_hand 22 = .ok (.lastore, 1) := by decide +kernel
theorem dLw_hand_23 : decode cLw_hand 23 = .ok (.goto 7, 3) := by decide +kernel
theorem dLw_hand_26 : decode cLw_hand 26 = .ok (.astore 7, 2) := by decide +kernel
theorem dLw_hand_28 : decode cLw_hand 28 = .ok (.iconst 1, 1) := by decide +kernel
theorem dLw_hand_29 : decode cLw_hand 29 = .ok (.ireturn, 1) := by decide +kernel
theorem dLw_hand_30 : decode cLw_hand 30 = .ok (.iconst 0, 1) := by decide +kernel
theorem dLw_hand_31 : decode cLw_hand 31 = .ok (.ireturn, 1) := by decide +kernel
theorem dLw_call_0 : decode cLw_call 0 = .ok (.aload_n 0, 1) := by decide +kernel
theorem dLw_call_1 : decode cLw_call 1 = .ok (.iload_n 1, 1) := by decide +kernel
theorem dLw_call_2 : decode cLw_call 2 = .ok (.iload_n 2, 1) := by decide +kernel
theorem dLw_call_3 : decode cLw_call 3 = .ok (.invokevirtual 33, 3) := by decide +kernel
theorem dLw_call_6 : decode cLw_call 6 = .ok (.goto 9, 3) := by decide +kernel
theorem dLw_call_9 : decode cLw_call 9 = .ok (.astore_n 3, 1) := by decide +kernel
theorem dLw_call_10 : decode cLw_call 10 = .ok (.iconst 1, 1) := by decide +kernel
theorem dLw_call_11 : decode cLw_call 11 = .ok (.ireturn, 1) := by decide +kernel
theorem dLw_call_12 : decode cLw_call 12 = .ok (.astore_n 3, 1) := by decide +kernel
theorem dLw_call_13 : decode cLw_call 13 = .ok (.iconst 2, 1) := by decide +kernel
theorem dLw_call_14 : decode cLw_call 14 = .ok (.ireturn, 1) := by decide +kernel
theorem dLw_call_15 : decode cLw_call 15 = .ok (.iconst 0, 1) := by decide +kernel
theorem dLw_call_16 : decode cLw_call 16 = .ok (.ireturn, 1) := by decide +kernel
theorem dLw_accept_0 : decode cLw_accept 0 = .ok (.aload_n 0, 1) := by decide +kernel
theorem dLw_accept_1 : decode cLw_accept 1 = .ok (.iload_n 1, 1) := by decide +kernel
theorem dLw_accept_2 : decode cLw_accept 2 = .ok (.iload_n 2, 1) := by decide +kernel
theorem dLw_accept_3 : decode cLw_accept 3 = .ok (.invokevirtual 37, 3) := by decide +kernel
theorem dLw_accept_6 : decode cLw_accept 6 = .ok (.goto 9, 3) := by decide +kernel
theorem dLw_accept_9 : decode cLw_accept 9 = .ok (.astore_n 3, 1) := by decide +kernel
theorem dLw_accept_10 : decode cLw_accept 10 = .ok (.iconst 1, 1) := by decide +kernel
theorem dLw_accept_11 : decode cLw_accept 11 = .ok (.ireturn, 1) := by decide +kernel
theorem dLw_accept_12 : decode cLw_accept 12 = .ok (.astore_n 3, 1) := by decide +kernel
theorem dLw_accept_13 : decode cLw_accept 13 = .ok (.iconst 2, 1) := by decide +kernel
theorem dLw_accept_14 : decode cLw_accept 14 = .ok (.ireturn, 1) := by decide +kernel
theorem dLw_accept_15 : decode cLw_accept 15 = .ok (.iconst 0, 1) := by decide +kernel
theorem dLw_accept_16 : decode cLw_accept 16 = .ok (.ireturn, 1) := by decide +kernel
theorem dLw_clear_0 : decode cLw_clear 0 = .ok (.aload_n 0, 1) := by decide +kernel
theorem dLw_clear_1 : decode cLw_clear 1 = .ok (.iload_n 1, 1) := by decide +kernel
theorem dLw_clear_2 : decode cLw_clear 2 = .ok (.iload_n 2, 1) := by decide +kernel
theorem dLw_clear_3 : decode cLw_clear 3 = .ok (.invokevirtual 40, 3) := by decide +kernel
theorem dLw_clear_6 : decode cLw_clear 6 = .ok (.goto 9, 3) := by decide +kernel
theorem dLw_clear_9 : decode cLw_clear 9 = .ok (.astore_n 3, 1) := by decide +kernel
theorem dLw_clear_10 : decode cLw_clear 10 = .ok (.iconst 1, 1) := by decide +kernel
theorem dLw_clear_11 : decode cLw_clear 11 = .ok (.ireturn, 1) := by decide +kernel
theorem dLw_clear_12 : decode cLw_clear 12 = .ok (.astore_n 3, 1) := by decide +kernel
theorem dLw_clear_13 : decode cLw_clear 13 = .ok (.iconst 2, 1) := by decide +kernel
theorem dLw_clear_14 : decode cLw_clear 14 = .ok (.ireturn, 1) := by decide +kernel
theorem dLw_clear_15 : decode cLw_clear 15 = .ok (.iconst 0, 1) := by decide +kernel
theorem dLw_clear_16 : decode cLw_clear 16 = .ok (.ireturn, 1) := by decide +kernel
theorem dLw_reset_0 : decode cLw_reset 0 = .ok (.aload_n 0, 1) := by decide +kernel
theorem dLw_reset_1 : decode cLw_reset 1 = .ok (.iload_n 1, 1) := by decide +kernel
theorem dLw_reset_2 : decode cLw_reset 2 = .ok (.iload_n 2, 1) := by decide +kernel
theorem dLw_reset_3 : decode cLw_reset 3 = .ok (.invokevirtual 43, 3) := by decide +kernel
theorem dLw_reset_6 : decode cLw_reset 6 = .ok (.goto 9, 3) := by decide +kernel
theorem dLw_reset_9 : decode cLw_reset 9 = .ok (.astore_n 3, 1) := by decide +kernel
theorem dLw_reset_10 : decode cLw_reset 10 = .ok (.iconst 1, 1) := by decide +kernel
theorem dLw_reset_11 : decode cLw_reset 11 = .ok (.ireturn, 1) := by decide +kernel
theorem dLw_reset_12 : decode cLw_reset 12 = .ok (.astore_n 3, 1) := by decide +kernel
theorem dLw_reset_13 : decode cLw_reset 13 = .ok (.iconst 2, 1) := by decide +kernel
theorem dLw_reset_14 : decode cLw_reset 14 = .ok (.ireturn, 1) := by decide +kernel
theorem dLw_reset_15 : decode cLw_reset 15 = .ok (.iconst 0, 1) := by decide +kernel
theorem dLw_reset_16 : decode cLw_reset 16 = .ok (.ireturn, 1) := by decide +kernel
theorem dLw_send_0 : decode cLw_send 0 = .ok (.aload 5, 2) := by decide +kernel
theorem dLw_send_2 : decode cLw_send 2 = .ok (.iconst 0, 1) := by decide +kernel
theorem dLw_send_3 : decode cLw_send 3 = .ok (.aload_n 0, 1) := by decide +kernel
theorem dLw_send_4 : decode cLw_send 4 = .ok (.iload_n 1, 1) := by decide +kernel
theorem dLw_send_5 : decode cLw_send 5 = .ok (.iload_n 2, 1) := by decide +kernel
theorem dLw_send_6 : decode cLw_send 6 = .ok (.iload_n 3, 1) := by decide +kernel
theorem dLw_send_7 : decode cLw_send 7 = .ok (.iload 4, 2) := by decide +kernel
theorem dLw_send_9 : decode cLw_send 9 = .ok (.invokevirtual 46, 3) := by decide +kernel
theorem dLw_send_12 : decode cLw_send 12 = .ok (.ifCond .eq 7, 3) := by decide +kernel
theorem dLw_send_15 : decode cLw_send 15 = .ok (.lconst 1, 1) := by decide +kernel
theorem dLw_send_16 : decode cLw_send 16 = .ok (.goto 4, 3) := by decide +kernel
theorem dLw_send_19 : decode cLw_send 19 = .ok (.lconst 0, 1) := by decide +kernel
theorem dLw_send_20 : decode cLw_send 20 = .ok (.lastore, 1) := by decide +kernel
theorem dLw_send_21 : decode cLw_send 21 = .ok (.goto 15, 3) := by decide +kernel
theorem dLw_send_24 : decode cLw_send 24 = .ok (.astore 6, 2) := by decide +kernel
theorem dLw_send_26 : decode cLw_send 26 = .ok (.iconst 1, 1) := by decide +kernel
theorem dLw_send_27 : decode cLw_send 27 = .ok (.ireturn, 1) := by decide +kernel
theorem dLw_send_28 : decode cLw_send 28 = .ok (.astore 6, 2) := by decide +kernel
theorem dLw_send_30 : decode cLw_send 30 = .ok (.iconst 2, 1) := by decide +kernel
theorem dLw_send_31 : decode cLw_send 31 = .ok (.ireturn, 1) := by decide +kernel
theorem dLw_send_32 : decode cLw_send 32 = .ok (.astore 6, 2) := by decide +kernel
theorem dLw_send_34 : decode cLw_send 34 = .ok (.iconst 3, 1) := by decide +kernel
theorem dLw_send_35 : decode cLw_send 35 = .ok (.ireturn, 1) := by decide +kernel
theorem dLw_send_36 : decode cLw_send 36 = .ok (.iconst 0, 1) := by decide +kernel
theorem dLw_send_37 : decode cLw_send 37 = .ok (.ireturn, 1) := by decide +kernel
theorem dLw_receive_0 : decode cLw_receive 0 = .ok (.aload_n 3, 1) := by decide +kernel
theorem dLw_receive_1 : decode cLw_receive 1 = .ok (.iconst 0, 1) := by decide +kernel
theorem dLw_receive_2 : decode cLw_receive 2 = .ok (.aload_n 0, 1) := by decide +kernel
theorem dLw_receive_3 : decode cLw_receive 3 = .ok (.iload_n 1, 1) := by decide +kernel
theorem dLw_receive_4 : decode cLw_receive 4 = .ok (.iload_n 2, 1) := by decide +kernel
theorem dLw_receive_5 : decode cLw_receive 5 = .ok (.invokevirtual 52, 3) := by decide +kernel
theorem dLw_receive_8 : decode cLw_receive 8 = .ok (.i2l, 1) := by decide +kernel
theorem dLw_receive_9 : decode cLw_receive 9 = .ok (.lastore, 1) := by decide +kernel
theorem dLw_receive_10 : decode cLw_receive 10 = .ok (.goto 15, 3) := by decide +kernel
theorem dLw_receive_13 : decode cLw_receive 13 = .ok (.astore 4, 2) := by decide +kernel
theorem dLw_receive_15 : decode cLw_receive 15 = .ok (.iconst 1, 1) := by decide +kernel
theorem dLw_receive_16 : decode cLw_receive 16 = .ok (.ireturn, 1) := by decide +kernel
theorem dLw_receive_17 : decode cLw_receive 17 = .ok (.astore 4, 2) := by decide +kernel
theorem dLw_receive_19 : decode cLw_receive 19 = .ok (.iconst 2, 1) := by decide +kernel
theorem dLw_receive_20 : decode cLw_receive 20 = .ok (.ireturn, 1) := by decide +kernel
theorem dLw_receive_21 : decode cLw_receive 21 = .ok (.astore 4, 2) := by decide +kernel
theorem dLw_receive_23 : decode cLw_receive 23 = .ok (.iconst 3, 1) := by decide +kernel
theorem dLw_receive_24 : decode cLw_receive 24 = .ok (.ireturn, 1) := by decide +kernel
theorem dLw_receive_25 : decode cLw_receive 25 = .ok (.iconst 0, 1) := by decide +kernel
theorem dLw_receive_26 : decode cLw_receive 26 = .ok (.ireturn, 1) := by decide +kernel
theorem dLw_link_0 : decode cLw_link 0 = .ok (.aload_n 3, 1) := by decide +kernel
theorem dLw_link_1 : decode cLw_link 1 = .ok (.iconst 0, 1) := by decide +kernel
theorem dLw_link_2 : decode cLw_link 2 = .ok (.aload_n 0, 1) := by decide +kernel
theorem dLw_link_3 : decode cLw_link 3 = .ok (.iload_n 1, 1) := by decide +kernel
theorem dLw_link_4 : decode cLw_link 4 = .ok (.iload_n 2, 1) := by decide +kernel
theorem dLw_link_5 : decode cLw_link 5 = .ok (.invokevirtual 56, 3) := by decide +kernel
theorem dLw_link_8 : decode cLw_link 8 = .ok (.i2l, 1) := by decide +kernel
theorem dLw_link_9 : decode cLw_link 9 = .ok (.lastore, 1) := by decide +kernel
theorem dLw_link_10 : decode cLw_link 10 = .ok (.goto 7, 3) := by decide +kernel
theorem dLw_link_13 : decode cLw_link 13 = .ok (.astore 4, 2) := by decide +kernel
theorem dLw_link_15 : decode cLw_link 15 = .ok (.iconst 1, 1) := by decide +kernel
theorem dLw_link_16 : decode cLw_link 16 = .ok (.ireturn, 1) := by decide +kernel
theorem dLw_link_17 : decode cLw_link 17 = .ok (.iconst 0, 1) := by decide +kernel
theorem dLw_link_18 : decode cLw_link 18 = .ok (.ireturn, 1) := by decide +kernel
theorem dLw_channel_0 : decode cLw_channel 0 = .ok (.aload 4, 2) := by decide +kernel
theorem dLw_channel_2 : decode cLw_channel 2 = .ok (.iconst 0, 1) := by decide +kernel
theorem dLw_channel_3 : decode cLw_channel 3 = .ok (.aload_n 0, 1) := by decide +kernel
theorem dLw_channel_4 : decode cLw_channel 4 = .ok (.iload_n 1, 1) := by decide +kernel
theorem dLw_channel_5 : decode cLw_channel 5 = .ok (.iload_n 2, 1) := by decide +kernel
theorem dLw_channel_6 : decode cLw_channel 6 = .ok (.iload_n 3, 1) := by decide +kernel
theorem dLw_channel_7 : decode cLw_channel 7 = .ok (.invokevirtual 59, 3) := by decide +kernel
theorem dLw_channel_10 : decode cLw_channel 10 = .ok (.i2l, 1) := by decide +kernel
theorem dLw_channel_11 : decode cLw_channel 11 = .ok (.lastore, 1) := by decide +kernel
theorem dLw_channel_12 : decode cLw_channel 12 = .ok (.goto 7, 3) := by decide +kernel
theorem dLw_channel_15 : decode cLw_channel 15 = .ok (.astore 5, 2) := by decide +kernel
theorem dLw_channel_17 : decode cLw_channel 17 = .ok (.iconst 1, 1) := by decide +kernel
theorem dLw_channel_18 : decode cLw_channel 18 = .ok (.ireturn, 1) := by decide +kernel
theorem dLw_channel_19 : decode cLw_channel 19 = .ok (.iconst 0, 1) := by decide +kernel
theorem dLw_channel_20 : decode cLw_channel 20 = .ok (.ireturn, 1) := by decide +kernel
theorem dLw_frame_0 : decode cLw_frame 0 = .ok (.aload 4, 2) := by decide +kernel
theorem dLw_frame_2 : decode cLw_frame 2 = .ok (.iconst 0, 1) := by decide +kernel
theorem dLw_frame_3 : decode cLw_frame 3 = .ok (.aload_n 0, 1) := by decide +kernel
theorem dLw_frame_4 : decode cLw_frame 4 = .ok (.iload_n 1, 1) := by decide +kernel
theorem dLw_frame_5 : decode cLw_frame 5 = .ok (.iload_n 2, 1) := by decide +kernel
theorem dLw_frame_6 : decode cLw_frame 6 = .ok (.iload_n 3, 1) := by decide +kernel
theorem dLw_frame_7 : decode cLw_frame 7 = .ok (.invokevirtual 63, 3) := by decide +kernel
theorem dLw_frame_10 : decode cLw_frame 10 = .ok (.i2l, 1) := by decide +kernel
theorem dLw_frame_11 : decode cLw_frame 11 = .ok (.lastore, 1) := by decide +kernel
theorem dLw_frame_12 : decode cLw_frame 12 = .ok (.goto 7, 3) := by decide +kernel
theorem dLw_frame_15 : decode cLw_frame 15 = .ok (.astore 5, 2) := by decide +kernel
theorem dLw_frame_17 : decode cLw_frame 17 = .ok (.iconst 1, 1) := by decide +kernel
theorem dLw_frame_18 : decode cLw_frame 18 = .ok (.ireturn, 1) := by decide +kernel
theorem dLw_frame_19 : decode cLw_frame 19 = .ok (.iconst 0, 1) := by decide +kernel
theorem dLw_frame_20 : decode cLw_frame 20 = .ok (.ireturn, 1) := by decide +kernel
theorem dLw_peek_0 : decode cLw_peek 0 = .ok (.aload_n 3, 1) := by decide +kernel
theorem dLw_peek_1 : decode cLw_peek 1 = .ok (.iconst 0, 1) := by decide +kernel
theorem dLw_peek_2 : decode cLw_peek 2 = .ok (.aload_n 0, 1) := by decide +kernel
theorem dLw_peek_3 : decode cLw_peek 3 = .ok (.iload_n 1, 1) := by decide +kernel
theorem dLw_peek_4 : decode cLw_peek 4 = .ok (.iload_n 2, 1) := by decide +kernel
theorem dLw_peek_5 : decode cLw_peek 5 = .ok (.invokevirtual 66, 3) := by decide +kernel
theorem dLw_peek_8 : decode cLw_peek 8 = .ok (.i2l, 1) := by decide +kernel
theorem dLw_peek_9 : decode cLw_peek 9 = .ok (.lastore, 1) := by decide +kernel
theorem dLw_peek_10 : decode cLw_peek 10 = .ok (.goto 7, 3) := by decide +kernel
theorem dLw_peek_13 : decode cLw_peek 13 = .ok (.astore 4, 2) := by decide +kernel
theorem dLw_peek_15 : decode cLw_peek 15 = .ok (.iconst 1, 1) := by decide +kernel
theorem dLw_peek_16 : decode cLw_peek 16 = .ok (.ireturn, 1) := by decide +kernel
theorem dLw_peek_17 : decode cLw_peek 17 = .ok (.iconst 0, 1) := by decide +kernel
theorem dLw_peek_18 : decode cLw_peek 18 = .ok (.ireturn, 1) := by decide +kernel
theorem dLw_law_0 : decode cLw_law 0 = .ok (.new 8, 3) := by decide +kernel
theorem dLw_law_3 : decode cLw_law 3 = .ok (.dup, 1) := by decide +kernel
theorem dLw_law_4 : decode cLw_law 4 = .ok (.invokespecial 69, 3) := by decide +kernel
theorem dLw_law_7 : decode cLw_law 7 = .ok (.astore_n 1, 1) := by decide +kernel
theorem dLw_law_8 : decode cLw_law 8 = .ok (.new 70, 3) := by decide +kernel
theorem dLw_law_11 : decode cLw_law 11 = .ok (.dup, 1) := by decide +kernel
theorem dLw_law_12 : decode cLw_law 12 = .ok (.invokespecial 72, 3) := by decide +kernel
theorem dLw_law_15 : decode cLw_law 15 = .ok (.astore_n 2, 1) := by decide +kernel
theorem dLw_law_16 : decode cLw_law 16 = .ok (.iconst 1, 1) := by decide +kernel
theorem dLw_law_17 : decode cLw_law 17 = .ok (.newarray .long, 2) := by decide +kernel
theorem dLw_law_19 : decode cLw_law 19 = .ok (.astore_n 3, 1) := by decide +kernel
theorem dLw_law_20 : decode cLw_law 20 = .ok (.iconst 0, 1) := by decide +kernel
theorem dLw_law_21 : decode cLw_law 21 = .ok (.istore 4, 2) := by decide +kernel
theorem dLw_law_23 : decode cLw_law 23 = .ok (.iload 4, 2) := by decide +kernel
theorem dLw_law_25 : decode cLw_law 25 = .ok (.aload_n 0, 1) := by decide +kernel
theorem dLw_law_26 : decode cLw_law 26 = .ok (.arraylength, 1) := by decide +kernel
theorem dLw_law_27 : decode cLw_law 27 = .ok (.bipush 6, 2) := by decide +kernel
theorem dLw_law_29 : decode cLw_law 29 = .ok (.isub, 1) := by decide +kernel
theorem dLw_law_30 : decode cLw_law 30 = .ok (.if_icmp .gt 1078, 3) := by decide +kernel
theorem dLw_law_33 : decode cLw_law 33 = .ok (.aload_n 0, 1) := by decide +kernel
theorem dLw_law_34 : decode cLw_law 34 = .ok (.iload 4, 2) := by decide +kernel
theorem dLw_law_36 : decode cLw_law 36 = .ok (.iaload, 1) := by decide +kernel
theorem dLw_law_37 : decode cLw_law 37 = .ok (.bipush 15, 2) := by decide +kernel
theorem dLw_law_39 : decode cLw_law 39 = .ok (.iand, 1) := by decide +kernel
theorem dLw_law_40 : decode cLw_law 40 = .ok (.tableswitch 1062 0 14 #[76, 112, 168, 224, 280, 391, 439, 487, 535, 583, 698, 766, 834, 914, 994], 76) := by decide +kernel
theorem dLw_law_116 : decode cLw_law 116 = .ok (.aload_n 1, 1) := by decide +kernel
theorem dLw_law_117 : decode cLw_law 117 = .ok (.aload_n 0, 1) := by decide +kernel
theorem dLw_law_118 : decode cLw_law 118 = .ok (.iload 4, 2) := by decide +kernel
theorem dLw_law_120 : decode cLw_law 120 = .ok (.iconst 1, 1) := by decide +kernel
theorem dLw_law_121 : decode cLw_law 121 = .ok (.iadd, 1) := by decide +kernel
theorem dLw_law_122 : decode cLw_law 122 = .ok (.iaload, 1) := by decide +kernel
theorem dLw_law_123 : decode cLw_law 123 = .ok (.invokestatic 73, 3) := by decide +kernel
theorem dLw_law_126 : decode cLw_law 126 = .ok (.istore 5, 2) := by decide +kernel
theorem dLw_law_128 : decode cLw_law 128 = .ok (.aload_n 2, 1) := by decide +kernel
theorem dLw_law_129 : decode cLw_law 129 = .ok (.aload_n 0, 1) := by decide +kernel
theorem dLw_law_130 : decode cLw_law 130 = .ok (.iload 4, 2) := by decide +kernel
theorem dLw_law_132 : decode cLw_law 132 = .ok (.iconst 1, 1) := by decide +kernel
theorem dLw_law_133 : decode cLw_law 133 = .ok (.iadd, 1) := by decide +kernel
theorem dLw_law_134 : decode cLw_law 134 = .ok (.iaload, 1) := by decide +kernel
theorem dLw_law_135 : decode cLw_law 135 = .ok (.invokevirtual 78, 3) := by decide +kernel
theorem dLw_law_138 : decode cLw_law 138 = .ok (.aload_n 2, 1) := by decide +kernel
theorem dLw_law_139 : decode cLw_law 139 = .ok (.invokevirtual 79, 3) := by decide +kernel
theorem dLw_law_142 : decode cLw_law 142 = .ok (.iload 5, 2) := by decide +kernel
theorem dLw_law_144 : decode cLw_law 144 = .ok (.if_icmp .eq 5, 3) := by decide +kernel
theorem dLw_law_147 : decode cLw_law 147 = .ok (.iconst 0, 1) := by decide +kernel
theorem dLw_law_148 : decode cLw_law 148 = .ok (.ireturn, 1) := by decide +kernel
theorem dLw_law_149 : decode cLw_law 149 = .ok (.goto 953, 3) := by decide +kernel
theorem dLw_law_152 : decode cLw_law 152 = .ok (.aload_n 1, 1) := by decide +kernel
theorem dLw_law_153 : decode cLw_law 153 = .ok (.aload_n 0, 1) := by decide +kernel
theorem dLw_law_154 : decode cLw_law 154 = .ok (.iload 4, 2) := by decide +kernel
theorem dLw_law_156 : decode cLw_law 156 = .ok (.iconst 1, 1) := by decide +kernel
theorem dLw_law_157 : decode cLw_law 157 = .ok (.iadd, 1) := by decide +kernel
theorem dLw_law_158 : decode cLw_law 158 = .ok (.iaload, 1) := by decide +kernel
theorem dLw_law_159 : decode cLw_law 159 = .ok (.aload_n 3, 1) := by decide +kernel
theorem dLw_law_160 : decode cLw_law 160 = .ok (.invokestatic 83, 3) := by decide +kernel
theorem dLw_law_163 : decode cLw_law 163 = .ok (.istore 5, 2) := by decide +kernel
theorem dLw_law_165 : decode cLw_law 165 = .ok (.aload_n 2, 1) := by decide +kernel
theorem dLw_law_166 : decode cLw_law 166 = .ok (.aload_n 0, 1) := by decide +kernel
theorem dLw_law_167 : decode cLw_law 167 = .ok (.iload 4, 2) := by decide +kernel
theorem dLw_law_169 : decode cLw_law 169 = .ok (.iconst 1, 1) := by decide +kernel
theorem dLw_law_170 : decode cLw_law 170 = .ok (.iadd, 1) := by decide +kernel
theorem dLw_law_171 : decode cLw_law 171 = .ok (.iaload, 1) := by decide +kernel
theorem dLw_law_172 : decode cLw_law 172 = .ok (.invokevirtual 86, 3) := by decide +kernel
theorem dLw_law_175 : decode cLw_law 175 = .ok (.istore 6, 2) := by decide +kernel
theorem dLw_law_177 : decode cLw_law 177 = .ok (.aload_n 2, 1) := by decide +kernel
theorem dLw_law_178 : decode cLw_law 178 = .ok (.invokevirtual 79, 3) := by decide +kernel
theorem dLw_law_181 : decode cLw_law 181 = .ok (.iload 5, 2) := by decide +kernel
theorem dLw_law_183 : decode cLw_law 183 = .ok (.if_icmp .eq 5, 3) := by decide +kernel
theorem dLw_law_186 : decode cLw_law 186 = .ok (.iconst 0, 1) := by decide +kernel
theorem dLw_law_187 : decode cLw_law 187 = .ok (.ireturn, 1) := by decide +kernel
theorem dLw_law_188 : decode cLw_law 188 = .ok (.iload 5, 2) := by decide +kernel
theorem dLw_law_190 : decode cLw_law 190 = .ok (.ifCond .ne 15, 3) := by decide +kernel
theorem dLw_law_193 : decode cLw_law 193 = .ok (.aload_n 3, 1) := by decide +kernel
theorem dLw_law_194 : decode cLw_law 194 = .ok (.iconst 0, 1) := by decide +kernel
theorem dLw_law_195 : decode cLw_law 195 = .ok (.laload, 1) := by decide +kernel
theorem dLw_law_196 : decode cLw_law 196 = .ok (.iload 6, 2) := by decide +kernel
theorem dLw_law_198 : decode cLw_law 198 = .ok (.i2l, 1) := by decide +kernel
theorem dLw_law_199 : decode cLw_law 199 = .ok (.lcmp, 1) := by decide +kernel
theorem dLw_law_200 : decode cLw_law 200 = .ok (.ifCond .eq 5, 3) := by decide +kernel
theorem dLw_law_203 : decode cLw_law 203 = .ok (.iconst 0, 1) := by decide +kernel
theorem dLw_law_204 : decode cLw_law 204 = .ok (.ireturn, 1) := by decide +kernel
theorem dLw_law_205 : decode cLw_law 205 = .ok (.goto 897, 3) := by decide +kernel
theorem dLw_law_208 : decode cLw_law 208 = .ok (.aload_n 1, 1) := by decide +kernel
theorem dLw_law_209 : decode cLw_law 209 = .ok (.aload_n 0, 1) := by decide +kernel
theorem dLw_law_210 : decode cLw_law 210 = .ok (.iload 4, 2) := by decide +kernel
theorem dLw_law_212 : decode cLw_law 212 = .ok (.iconst 1, 1) := by decide +kernel
theorem dLw_law_213 : decode cLw_law 213 = .ok (.iadd, 1) := by decide +kernel
theorem dLw_law_214 : decode cLw_law 214 = .ok (.iaload, 1) := by decide +kernel
theorem dLw_law_215 : decode cLw_law 215 = .ok (.aload_n 3, 1) := by decide +kernel
theorem dLw_law_216 : decode cLw_law 216 = .ok (.invokestatic 87, 3) := by decide +kernel
theorem dLw_law_219 : decode cLw_law 219 = .ok (.istore 5, 2) := by decide +kernel
theorem dLw_law_221 : decode cLw_law 221 = .ok (.aload_n 2, 1) := by decide +kernel
theorem dLw_law_222 : decode cLw_law 222 = .ok (.aload_n 0, 1) := by decide +kernel
theorem dLw_law_223 : decode cLw_law 223 = .ok (.iload 4, 2) := by decide +kernel
theorem dLw_law_225 : decode cLw_law 225 = .ok (.iconst 1, 1) := by decide +kernel
theorem dLw_law_226 : decode cLw_law 226 = .ok (.iadd, 1) := by decide +kernel
theorem dLw_law_227 : decode cLw_law 227 = .ok (.iaload, 1) := by decide +kernel
theorem dLw_law_228 : decode cLw_law 228 = .ok (.invokevirtual 89, 3) := by decide +kernel
theorem dLw_law_231 : decode cLw_law 231 = .ok (.istore 6, 2) := by decide +kernel
theorem dLw_law_233 : decode cLw_law 233 = .ok (.aload_n 2, 1) := by decide +kernel
theorem dLw_law_234 : decode cLw_law 234 = .ok (.invokevirtual 79, 3) := by decide +kernel
theorem dLw_law_237 : decode cLw_law 237 = .ok (.iload 5, 2) := by decide +kernel
theorem dLw_law_239 : decode cLw_law 239 = .ok (.if_icmp .eq 5, 3) := by decide +kernel
theorem dLw_law_242 : decode cLw_law 242 = .ok (.iconst 0, 1) := by decide +kernel
theorem dLw_law_243 : decode cLw_law 243 = .ok (.ireturn, 1) := by decide +kernel
theorem dLw_law_244 : decode cLw_law 244 = .ok (.iload 5, 2) := by decide +kernel
theorem dLw_law_246 : decode cLw_law 246 = .ok (.ifCond .ne 15, 3) := by decide +kernel
theorem dLw_law_249 : decode cLw_law 249 = .ok (.aload_n 3, 1) := by decide +kernel
theorem dLw_law_250 : decode cLw_law 250 = .ok (.iconst 0, 1) := by decide +kernel
theorem dLw_law_251 : decode cLw_law 251 = .ok (.laload, 1) := by decide +kernel
theorem dLw_law_252 : decode cLw_law 252 = .ok (.iload 6, 2) := by decide +kernel
theorem dLw_law_254 : decode cLw_law 254 = .ok (.i2l, 1) := by decide +kernel
theorem dLw_law_255 : decode cLw_law 255 = .ok (.lcmp, 1) := by decide +kernel
theorem dLw_law_256 : decode cLw_law 256 = .ok (.ifCond .eq 5, 3) := by decide +kernel
theorem dLw_law_259 : decode cLw_law 259 = .ok (.iconst 0, 1) := by decide +kernel
theorem dLw_law_260 : decode cLw_law 260 = .ok (.ireturn, 1) := by decide +kernel
theorem dLw_law_261 : decode cLw_law 261 = .ok (.goto 841, 3) := by decide +kernel
theorem dLw_law_264 : decode cLw_law 264 = .ok (.aload_n 1, 1) := by decide +kernel
theorem dLw_law_265 : decode cLw_law 265 = .ok (.aload_n 0, 1) := by decide +kernel
theorem dLw_law_266 : decode cLw_law 266 = .ok (.iload 4, 2) := by decide +kernel
theorem dLw_law_268 : decode cLw_law 268 = .ok (.iconst 1, 1) := by decide +kernel
theorem dLw_law_269 : decode cLw_law 269 = .ok (.iadd, 1) := by decide +kernel
theorem dLw_law_270 : decode cLw_law 270 = .ok (.iaload, 1) := by decide +kernel
theorem dLw_law_271 : decode cLw_law 271 = .ok (.aload_n 3, 1) := by decide +kernel
theorem dLw_law_272 : decode cLw_law 272 = .ok (.invokestatic 90, 3) := by decide +kernel
theorem dLw_law_275 : decode cLw_law 275 = .ok (.istore 5, 2) := by decide +kernel
theorem dLw_law_277 : decode cLw_law 277 = .ok (.aload_n 2, 1) := by decide +kernel
theorem dLw_law_278 : decode cLw_law 278 = .ok (.aload_n 0, 1) := by decide +kernel
theorem dLw_law_279 : decode cLw_law 279 = .ok (.iload 4, 2) := by decide +kernel
theorem dLw_law_281 : decode cLw_law 281 = .ok (.iconst 1, 1) := by decide +kernel
theorem dLw_law_282 : decode cLw_law 282 = .ok (.iadd, 1) := by decide +kernel
theorem dLw_law_283 : decode cLw_law 283 = .ok (.iaload, 1) := by decide +kernel
theorem dLw_law_284 : decode cLw_law 284 = .ok (.invokevirtual 92, 3) := by decide +kernel
theorem dLw_law_287 : decode cLw_law 287 = .ok (.istore 6, 2) := by decide +kernel
theorem dLw_law_289 : decode cLw_law 289 = .ok (.aload_n 2, 1) := by decide +kernel
theorem dLw_law_290 : decode cLw_law 290 = .ok (.invokevirtual 79, 3) := by decide +kernel
theorem dLw_law_293 : decode cLw_law 293 = .ok (.iload 5, 2) := by decide +kernel
theorem dLw_law_295 : decode cLw_law 295 = .ok (.if_icmp .eq 5, 3) := by decide +kernel
theorem dLw_law_298 : decode cLw_law 298 = .ok (.iconst 0, 1) := by decide +kernel
theorem dLw_law_299 : decode cLw_law 299 = .ok (.ireturn, 1) := by decide +kernel
theorem dLw_law_300 : decode cLw_law 300 = .ok (.iload 5, 2) := by decide +kernel
theorem dLw_law_302 : decode cLw_law 302 = .ok (.ifCond .ne 15, 3) := by decide +kernel
theorem dLw_law_305 : decode cLw_law 305 = .ok (.aload_n 3, 1) := by decide +kernel
theorem dLw_law_306 : decode cLw_law 306 = .ok (.iconst 0, 1) := by decide +kernel
theorem dLw_law_307 : decode cLw_law 307 = .ok (.laload, 1) := by decide +kernel
theorem dLw_law_308 : decode cLw_law 308 = .ok (.iload 6, 2) := by decide +kernel
theorem dLw_law_310 : decode cLw_law 310 = .ok (.i2l, 1) := by decide +kernel
theorem dLw_law_311 : decode cLw_law 311 = .ok (.lcmp, 1) := by decide +kernel
theorem dLw_law_312 : decode cLw_law 312 = .ok (.ifCond .eq 5, 3) := by decide +kernel
theorem dLw_law_315 : decode cLw_law 315 = .ok (.iconst 0, 1) := by decide +kernel
theorem dLw_law_316 : decode cLw_law 316 = .ok (.ireturn, 1) := by decide +kernel
theorem dLw_law_317 : decode cLw_law 317 = .ok (.goto 785, 3) := by decide +kernel
theorem dLw_law_320 : decode cLw_law 320 = .ok (.aload_n 1, 1) := by decide +kernel
theorem dLw_law_321 : decode cLw_law 321 = .ok (.aload_n 0, 1) := by decide +kernel
theorem dLw_law_322 : decode cLw_law 322 = .ok (.iload 4, 2) := by decide +kernel
theorem dLw_law_324 : decode cLw_law 324 = .ok (.iconst 1, 1) := by decide +kernel
theorem dLw_law_325 : decode cLw_law 325 = .ok (.iadd, 1) := by decide +kernel
theorem dLw_law_326 : decode cLw_law 326 = .ok (.iaload, 1) := by decide +kernel
theorem dLw_law_327 : decode cLw_law 327 = .ok (.aload_n 0, 1) := by decide +kernel
theorem dLw_law_328 : decode cLw_law 328 = .ok (.iload 4, 2) := by decide +kernel
theorem dLw_law_330 : decode cLw_law 330 = .ok (.iconst 2, 1) := by decide +kernel
theorem dLw_law_331 : decode cLw_law 331 = .ok (.iadd, 1) := by decide +kernel
theorem dLw_law_332 : decode cLw_law 332 = .ok (.iaload, 1) := by decide +kernel
theorem dLw_law_333 : decode cLw_law 333 = .ok (.aload_n 0, 1) := by decide +kernel
theorem dLw_law_334 : decode cLw_law 334 = .ok (.iload 4, 2) := by decide +kernel
theorem dLw_law_336 : decode cLw_law 336 = .ok (.iconst 3, 1) := by decide +kernel
theorem dLw_law_337 : decode cLw_law 337 = .ok (.iadd, 1) := by decide +kernel
theorem dLw_law_338 : decode cLw_law 338 = .ok (.iaload, 1) := by decide +kernel
theorem dLw_law_339 : decode cLw_law 339 = .ok (.aload_n 0, 1) := by decide +kernel
theorem dLw_law_340 : decode cLw_law 340 = .ok (.iload 4, 2) := by decide +kernel
theorem dLw_law_342 : decode cLw_law 342 = .ok (.iconst 4, 1) := by decide +kernel
theorem dLw_law_343 : decode cLw_law 343 = .ok (.iadd, 1) := by decide +kernel
theorem dLw_law_344 : decode cLw_law 344 = .ok (.iaload, 1) := by decide +kernel
theorem dLw_law_345 : decode cLw_law 345 = .ok (.aload_n 0, 1) := by decide +kernel
theorem dLw_law_346 : decode cLw_law 346 = .ok (.iload 4, 2) := by decide +kernel
theorem dLw_law_348 : decode cLw_law 348 = .ok (.iconst 5, 1) := by decide +kernel
theorem dLw_law_349 : decode cLw_law 349 = .ok (.iadd, 1) := by decide +kernel
theorem dLw_law_350 : decode cLw_law 350 = .ok (.iaload, 1) := by decide +kernel
theorem dLw_law_351 : decode cLw_law 351 = .ok (.aload_n 3, 1) := by decide +kernel
theorem dLw_law_352 : decode cLw_law 352 = .ok (.invokestatic 93, 3) := by decide +kernel
theorem dLw_law_355 : decode cLw_law 355 = .ok (.istore 5, 2) := by decide +kernel
theorem dLw_law_357 : decode cLw_law 357 = .ok (.aload_n 2, 1) := by decide +kernel
theorem dLw_law_358 : decode cLw_law 358 = .ok (.aload_n 0, 1) := by decide +kernel
theorem dLw_law_359 : decode cLw_law 359 = .ok (.iload 4, 2) := by decide +kernel
theorem dLw_law_361 : decode cLw_law 361 = .ok (.iconst 1, 1) := by decide +kernel
theorem dLw_law_362 : decode cLw_law 362 = .ok (.iadd, 1) := by decide +kernel
theorem dLw_law_363 : decode cLw_law 363 = .ok (.iaload, 1) := by decide +kernel
theorem dLw_law_364 : decode cLw_law 364 = .ok (.aload_n 0, 1) := by decide +kernel
theorem dLw_law_365 : decode cLw_law 365 = .ok (.iload 4, 2) := by decide +kernel
theorem dLw_law_367 : decode cLw_law 367 = .ok (.iconst 2, 1) := by decide +kernel
theorem dLw_law_368 : decode cLw_law 368 = .ok (.iadd, 1) := by decide +kernel
theorem dLw_law_369 : decode cLw_law 369 = .ok (.iaload, 1) := by decide +kernel
theorem dLw_law_370 : decode cLw_law 370 = .ok (.aload_n 0, 1) := by decide +kernel
theorem dLw_law_371 : decode cLw_law 371 = .ok (.iload 4, 2) := by decide +kernel
theorem dLw_law_373 : decode cLw_law 373 = .ok (.iconst 3, 1) := by decide +kernel
theorem dLw_law_374 : decode cLw_law 374 = .ok (.iadd, 1) := by decide +kernel
theorem dLw_law_375 : decode cLw_law 375 = .ok (.iaload, 1) := by decide +kernel
theorem dLw_law_376 : decode cLw_law 376 = .ok (.aload_n 0, 1) := by decide +kernel
theorem dLw_law_377 : decode cLw_law 377 = .ok (.iload 4, 2) := by decide +kernel
theorem dLw_law_379 : decode cLw_law 379 = .ok (.iconst 4, 1) := by decide +kernel
theorem dLw_law_380 : decode cLw_law 380 = .ok (.iadd, 1) := by decide +kernel
theorem dLw_law_381 : decode cLw_law 381 = .ok (.iaload, 1) := by decide +kernel
theorem dLw_law_382 : decode cLw_law 382 = .ok (.aload_n 0, 1) := by decide +kernel
theorem dLw_law_383 : decode cLw_law 383 = .ok (.iload 4, 2) := by decide +kernel
theorem dLw_law_385 : decode cLw_law 385 = .ok (.iconst 5, 1) := by decide +kernel
theorem dLw_law_386 : decode cLw_law 386 = .ok (.iadd, 1) := by decide +kernel
theorem dLw_law_387 : decode cLw_law 387 = .ok (.iaload, 1) := by decide +kernel
theorem dLw_law_388 : decode cLw_law 388 = .ok (.invokevirtual 96, 3) := by decide +kernel
theorem dLw_law_391 : decode cLw_law 391 = .ok (.istore 6, 2) := by decide +kernel
theorem dLw_law_393 : decode cLw_law 393 = .ok (.aload_n 2, 1) := by decide +kernel
theorem dLw_law_394 : decode cLw_law 394 = .ok (.invokevirtual 79, 3) := by decide +kernel
theorem dLw_law_397 : decode cLw_law 397 = .ok (.iload 5, 2) := by decide +kernel
theorem dLw_law_399 : decode cLw_law 399 = .ok (.if_icmp .eq 5, 3) := by decide +kernel
theorem dLw_law_402 : decode cLw_law 402 = .ok (.iconst 0, 1) := by decide +kernel
theorem dLw_law_403 : decode cLw_law 403 = .ok (.ireturn, 1) := by decide +kernel
theorem dLw_law_404 : decode cLw_law 404 = .ok (.iload 5, 2) := by decide +kernel
theorem dLw_law_406 : decode cLw_law 406 = .ok (.ifCond .ne 22, 3) := by decide +kernel
theorem dLw_law_409 : decode cLw_law 409 = .ok (.aload_n 3, 1) := by decide +kernel
