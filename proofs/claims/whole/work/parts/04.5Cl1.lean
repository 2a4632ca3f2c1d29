theorem dCl_stationAt_13 : decode cCl_stationAt 13 = .ok (.ldc 177, 2) := by decide +kernel
theorem dCl_stationAt_15 : decode cCl_stationAt 15 = .ok (.invokespecial 179, 3) := by decide +kernel
theorem dCl_stationAt_18 : decode cCl_stationAt 18 = .ok (.athrow, 1) := by decide +kernel
theorem dCl_stationAt_19 : decode cCl_stationAt 19 = .ok (.aload_n 0, 1) := by decide +kernel
theorem dCl_stationAt_20 : decode cCl_stationAt 20 = .ok (.getfield 16, 3) := by decide +kernel
theorem dCl_stationAt_23 : decode cCl_stationAt 23 = .ok (.iload_n 1, 1) := by decide +kernel
theorem dCl_stationAt_24 : decode cCl_stationAt 24 = .ok (.aaload, 1) := by decide +kernel
theorem dCl_stationAt_25 : decode cCl_stationAt 25 = .ok (.areturn, 1) := by decide +kernel
theorem dCl_channelAt_0 : decode cCl_channelAt 0 = .ok (.iload_n 1, 1) := by decide +kernel
theorem dCl_channelAt_1 : decode cCl_channelAt 1 = .ok (.invokestatic 59, 3) := by decide +kernel
theorem dCl_channelAt_4 : decode cCl_channelAt 4 = .ok (.aload_n 0, 1) := by decide +kernel
theorem dCl_channelAt_5 : decode cCl_channelAt 5 = .ok (.getfield 182, 3) := by decide +kernel
theorem dCl_channelAt_8 : decode cCl_channelAt 8 = .ok (.iload_n 1, 1) := by decide +kernel
theorem dCl_channelAt_9 : decode cCl_channelAt 9 = .ok (.aaload, 1) := by decide +kernel
theorem dCl_channelAt_10 : decode cCl_channelAt 10 = .ok (.areturn, 1) := by decide +kernel
theorem dCl_requireChannel_0 : decode cCl_requireChannel 0 = .ok (.iload_n 0, 1) := by decide +kernel
theorem dCl_requireChannel_1 : decode cCl_requireChannel 1 = .ok (.invokestatic 186, 3) := by decide +kernel
theorem dCl_requireChannel_4 : decode cCl_requireChannel 4 = .ok (.ifCond .ne 13, 3) := by decide +kernel
theorem dCl_requireChannel_7 : decode cCl_requireChannel 7 = .ok (.new 175, 3) := by decide +kernel
theorem dCl_requireChannel_10 : decode cCl_requireChannel 10 = .ok (.dup, 1) := by decide +kernel
theorem dCl_requireChannel_11 : decode cCl_requireChannel 11 = .ok (.ldc 189, 2) := by decide +kernel
theorem dCl_requireChannel_13 : decode cCl_requireChannel 13 = .ok (.invokespecial 179, 3) := by decide +kernel
theorem dCl_requireChannel_16 : decode cCl_requireChannel 16 = .ok (.athrow, 1) := by decide +kernel
theorem dCl_requireChannel_17 : decode cCl_requireChannel 17 = .ok (.return_, 1) := by decide +kernel
theorem dCl_requireValue_0 : decode cCl_requireValue 0 = .ok (.iload_n 0, 1) := by decide +kernel
theorem dCl_requireValue_1 : decode cCl_requireValue 1 = .ok (.ifCond .lt 10, 3) := by decide +kernel
theorem dCl_requireValue_4 : decode cCl_requireValue 4 = .ok (.iload_n 0, 1) := by decide +kernel
theorem dCl_requireValue_5 : decode cCl_requireValue 5 = .ok (.sipush 255, 3) := by decide +kernel
theorem dCl_requireValue_8 : decode cCl_requireValue 8 = .ok (.if_icmp .le 13, 3) := by decide +kernel
theorem dCl_requireValue_11 : decode cCl_requireValue 11 = .ok (.new 191, 3) := by decide +kernel
theorem dCl_requireValue_14 : decode cCl_requireValue 14 = .ok (.dup, 1) := by decide +kernel
theorem dCl_requireValue_15 : decode cCl_requireValue 15 = .ok (.ldc 193, 2) := by decide +kernel
theorem dCl_requireValue_17 : decode cCl_requireValue 17 = .ok (.invokespecial 195, 3) := by decide +kernel
theorem dCl_requireValue_20 : decode cCl_requireValue 20 = .ok (.athrow, 1) := by decide +kernel
theorem dCl_requireValue_21 : decode cCl_requireValue 21 = .ok (.return_, 1) := by decide +kernel
theorem dCl_requireState_0 : decode cCl_requireState 0 = .ok (.iload_n 0, 1) := by decide +kernel
theorem dCl_requireState_1 : decode cCl_requireState 1 = .ok (.ifCond .ne 13, 3) := by decide +kernel
theorem dCl_requireState_4 : decode cCl_requireState 4 = .ok (.new 196, 3) := by decide +kernel
theorem dCl_requireState_7 : decode cCl_requireState 7 = .ok (.dup, 1) := by decide +kernel
theorem dCl_requireState_8 : decode cCl_requireState 8 = .ok (.ldc 198, 2) := by decide +kernel
theorem dCl_requireState_10 : decode cCl_requireState 10 = .ok (.invokespecial 200, 3) := by decide +kernel
theorem dCl_requireState_13 : decode cCl_requireState 13 = .ok (.athrow, 1) := by decide +kernel
theorem dCl_requireState_14 : decode cCl_requireState 14 = .ok (.return_, 1) := by decide +kernel
theorem dCl_requireElement_0 : decode cCl_requireElement 0 = .ok (.aload_n 0, 1) := by decide +kernel
theorem dCl_requireElement_1 : decode cCl_requireElement 1 = .ok (.getfield 148, 3) := by decide +kernel
theorem dCl_requireElement_4 : decode cCl_requireElement 4 = .ok (.ifCond .ne 13, 3) := by decide +kernel
theorem dCl_requireElement_7 : decode cCl_requireElement 7 = .ok (.new 201, 3) := by decide +kernel
theorem dCl_requireElement_10 : decode cCl_requireElement 10 = .ok (.dup, 1) := by decide +kernel
theorem dCl_requireElement_11 : decode cCl_requireElement 11 = .ok (.ldc 203, 2) := by decide +kernel
theorem dCl_requireElement_13 : decode cCl_requireElement 13 = .ok (.invokespecial 205, 3) := by decide +kernel
theorem dCl_requireElement_16 : decode cCl_requireElement 16 = .ok (.athrow, 1) := by decide +kernel
theorem dCl_requireElement_17 : decode cCl_requireElement 17 = .ok (.return_, 1) := by decide +kernel
theorem dCl_takeFrame_0 : decode cCl_takeFrame 0 = .ok (.aload_n 0, 1) := by decide +kernel
theorem dCl_takeFrame_1 : decode cCl_takeFrame 1 = .ok (.invokestatic 119, 3) := by decide +kernel
theorem dCl_takeFrame_4 : decode cCl_takeFrame 4 = .ok (.aload_n 0, 1) := by decide +kernel
theorem dCl_takeFrame_5 : decode cCl_takeFrame 5 = .ok (.iconst 0, 1) := by decide +kernel
theorem dCl_takeFrame_6 : decode cCl_takeFrame 6 = .ok (.invokevirtual 154, 3) := by decide +kernel
theorem dCl_takeFrame_9 : decode cCl_takeFrame 9 = .ok (.istore_n 1, 1) := by decide +kernel
theorem dCl_takeFrame_10 : decode cCl_takeFrame 10 = .ok (.aload_n 0, 1) := by decide +kernel
theorem dCl_takeFrame_11 : decode cCl_takeFrame 11 = .ok (.iconst 1, 1) := by decide +kernel
theorem dCl_takeFrame_12 : decode cCl_takeFrame 12 = .ok (.invokevirtual 206, 3) := by decide +kernel
theorem dCl_takeFrame_15 : decode cCl_takeFrame 15 = .ok (.iload_n 1, 1) := by decide +kernel
theorem dCl_takeFrame_16 : decode cCl_takeFrame 16 = .ok (.ireturn, 1) := by decide +kernel
theorem dCl_isChannel_0 : decode cCl_isChannel 0 = .ok (.iload_n 0, 1) := by decide +kernel
theorem dCl_isChannel_1 : decode cCl_isChannel 1 = .ok (.ifCond .lt 12, 3) := by decide +kernel
theorem dCl_isChannel_4 : decode cCl_isChannel 4 = .ok (.iload_n 0, 1) := by decide +kernel
theorem dCl_isChannel_5 : decode cCl_isChannel 5 = .ok (.iconst 3, 1) := by decide +kernel
theorem dCl_isChannel_6 : decode cCl_isChannel 6 = .ok (.if_icmp .ge 7, 3) := by decide +kernel
theorem dCl_isChannel_9 : decode cCl_isChannel 9 = .ok (.iconst 1, 1) := by decide +kernel
theorem dCl_isChannel_10 : decode cCl_isChannel 10 = .ok (.goto 4, 3) := by decide +kernel
theorem dCl_isChannel_13 : decode cCl_isChannel 13 = .ok (.iconst 0, 1) := by decide +kernel
theorem dCl_isChannel_14 : decode cCl_isChannel 14 = .ok (.ireturn, 1) := by decide +kernel
theorem dCl_isNumber_0 : decode cCl_isNumber 0 = .ok (.iload_n 0, 1) := by decide +kernel
theorem dCl_isNumber_1 : decode cCl_isNumber 1 = .ok (.ifCond .lt 13, 3) := by decide +kernel
theorem dCl_isNumber_4 : decode cCl_isNumber 4 = .ok (.iload_n 0, 1) := by decide +kernel
theorem dCl_isNumber_5 : decode cCl_isNumber 5 = .ok (.bipush 7, 2) := by decide +kernel
theorem dCl_isNumber_7 : decode cCl_isNumber 7 = .ok (.if_icmp .gt 7, 3) := by decide +kernel
theorem dCl_isNumber_10 : decode cCl_isNumber 10 = .ok (.iconst 1, 1) := by decide +kernel
theorem dCl_isNumber_11 : decode cCl_isNumber 11 = .ok (.goto 4, 3) := by decide +kernel
theorem dCl_isNumber_14 : decode cCl_isNumber 14 = .ok (.iconst 0, 1) := by decide +kernel
theorem dCl_isNumber_15 : decode cCl_isNumber 15 = .ok (.ireturn, 1) := by decide +kernel
theorem dCl_after_0 : decode cCl_after 0 = .ok (.iload_n 0, 1) := by decide +kernel
theorem dCl_after_1 : decode cCl_after 1 = .ok (.iconst 1, 1) := by decide +kernel
theorem dCl_after_2 : decode cCl_after 2 = .ok (.iadd, 1) := by decide +kernel
theorem dCl_after_3 : decode cCl_after 3 = .ok (.bipush 7, 2) := by decide +kernel
theorem dCl_after_5 : decode cCl_after 5 = .ok (.iand, 1) := by decide +kernel
theorem dCl_after_6 : decode cCl_after 6 = .ok (.ireturn, 1) := by decide +kernel
theorem dCl_distance_0 : decode cCl_distance 0 = .ok (.iload_n 1, 1) := by decide +kernel
theorem dCl_distance_1 : decode cCl_distance 1 = .ok (.iload_n 0, 1) := by decide +kernel
theorem dCl_distance_2 : decode cCl_distance 2 = .ok (.isub, 1) := by decide +kernel
theorem dCl_distance_3 : decode cCl_distance 3 = .ok (.bipush 7, 2) := by decide +kernel
theorem dCl_distance_5 : decode cCl_distance 5 = .ok (.iand, 1) := by decide +kernel
theorem dCl_distance_6 : decode cCl_distance 6 = .ok (.ireturn, 1) := by decide +kernel
