theorem dPk_of_0 : decode cPk_of 0 = .ok (.iload_n 0, 1) := by decide +kernel
theorem dPk_of_1 : decode cPk_of 1 = .ok (.bipush 17, 2) := by decide +kernel
theorem dPk_of_3 : decode cPk_of 3 = .ok (.ishl, 1) := by decide +kernel
theorem dPk_of_4 : decode cPk_of 4 = .ok (.iload_n 1, 1) := by decide +kernel
theorem dPk_of_5 : decode cPk_of 5 = .ok (.bipush 15, 2) := by decide +kernel
theorem dPk_of_7 : decode cPk_of 7 = .ok (.ishl, 1) := by decide +kernel
theorem dPk_of_8 : decode cPk_of 8 = .ok (.ior, 1) := by decide +kernel
theorem dPk_of_9 : decode cPk_of 9 = .ok (.iload_n 2, 1) := by decide +kernel
theorem dPk_of_10 : decode cPk_of 10 = .ok (.bipush 12, 2) := by decide +kernel
theorem dPk_of_12 : decode cPk_of 12 = .ok (.ishl, 1) := by decide +kernel
theorem dPk_of_13 : decode cPk_of 13 = .ok (.ior, 1) := by decide +kernel
theorem dPk_of_14 : decode cPk_of 14 = .ok (.iload_n 3, 1) := by decide +kernel
theorem dPk_of_15 : decode cPk_of 15 = .ok (.bipush 9, 2) := by decide +kernel
theorem dPk_of_17 : decode cPk_of 17 = .ok (.ishl, 1) := by decide +kernel
theorem dPk_of_18 : decode cPk_of 18 = .ok (.ior, 1) := by decide +kernel
theorem dPk_of_19 : decode cPk_of 19 = .ok (.iload 4, 2) := by decide +kernel
theorem dPk_of_21 : decode cPk_of 21 = .ok (.ior, 1) := by decide +kernel
theorem dPk_of_22 : decode cPk_of 22 = .ok (.ireturn, 1) := by decide +kernel
theorem dPk_bare_0 : decode cPk_bare 0 = .ok (.iload_n 0, 1) := by decide +kernel
theorem dPk_bare_1 : decode cPk_bare 1 = .ok (.iload_n 1, 1) := by decide +kernel
theorem dPk_bare_2 : decode cPk_bare 2 = .ok (.iconst 0, 1) := by decide +kernel
theorem dPk_bare_3 : decode cPk_bare 3 = .ok (.iconst 0, 1) := by decide +kernel
theorem dPk_bare_4 : decode cPk_bare 4 = .ok (.iconst 0, 1) := by decide +kernel
theorem dPk_bare_5 : decode cPk_bare 5 = .ok (.invokestatic 7, 3) := by decide +kernel
theorem dPk_bare_8 : decode cPk_bare 8 = .ok (.ireturn, 1) := by decide +kernel
theorem dPk_kindOf_0 : decode cPk_kindOf 0 = .ok (.iload_n 0, 1) := by decide +kernel
theorem dPk_kindOf_1 : decode cPk_kindOf 1 = .ok (.bipush 17, 2) := by decide +kernel
theorem dPk_kindOf_3 : decode cPk_kindOf 3 = .ok (.ishr, 1) := by decide +kernel
theorem dPk_kindOf_4 : decode cPk_kindOf 4 = .ok (.bipush 15, 2) := by decide +kernel
theorem dPk_kindOf_6 : decode cPk_kindOf 6 = .ok (.iand, 1) := by decide +kernel
theorem dPk_kindOf_7 : decode cPk_kindOf 7 = .ok (.ireturn, 1) := by decide +kernel
theorem dPk_channelOf_0 : decode cPk_channelOf 0 = .ok (.iload_n 0, 1) := by decide +kernel
theorem dPk_channelOf_1 : decode cPk_channelOf 1 = .ok (.bipush 15, 2) := by decide +kernel
theorem dPk_channelOf_3 : decode cPk_channelOf 3 = .ok (.ishr, 1) := by decide +kernel
theorem dPk_channelOf_4 : decode cPk_channelOf 4 = .ok (.iconst 3, 1) := by decide +kernel
theorem dPk_channelOf_5 : decode cPk_channelOf 5 = .ok (.iand, 1) := by decide +kernel
theorem dPk_channelOf_6 : decode cPk_channelOf 6 = .ok (.ireturn, 1) := by decide +kernel
theorem dPk_numberOf_0 : decode cPk_numberOf 0 = .ok (.iload_n 0, 1) := by decide +kernel
theorem dPk_numberOf_1 : decode cPk_numberOf 1 = .ok (.bipush 12, 2) := by decide +kernel
theorem dPk_numberOf_3 : decode cPk_numberOf 3 = .ok (.ishr, 1) := by decide +kernel
theorem dPk_numberOf_4 : decode cPk_numberOf 4 = .ok (.bipush 7, 2) := by decide +kernel
theorem dPk_numberOf_6 : decode cPk_numberOf 6 = .ok (.iand, 1) := by decide +kernel
theorem dPk_numberOf_7 : decode cPk_numberOf 7 = .ok (.ireturn, 1) := by decide +kernel
theorem dPk_acknowledgementOf_0 : decode cPk_acknowledgementOf 0 = .ok (.iload_n 0, 1) := by decide +kernel
theorem dPk_acknowledgementOf_1 : decode cPk_acknowledgementOf 1 = .ok (.bipush 9, 2) := by decide +kernel
theorem dPk_acknowledgementOf_3 : decode cPk_acknowledgementOf 3 = .ok (.ishr, 1) := by decide +kernel
theorem dPk_acknowledgementOf_4 : decode cPk_acknowledgementOf 4 = .ok (.bipush 7, 2) := by decide +kernel
theorem dPk_acknowledgementOf_6 : decode cPk_acknowledgementOf 6 = .ok (.iand, 1) := by decide +kernel
theorem dPk_acknowledgementOf_7 : decode cPk_acknowledgementOf 7 = .ok (.ireturn, 1) := by decide +kernel
theorem dPk_dataOf_0 : decode cPk_dataOf 0 = .ok (.iload_n 0, 1) := by decide +kernel
theorem dPk_dataOf_1 : decode cPk_dataOf 1 = .ok (.sipush 511, 3) := by decide +kernel
theorem dPk_dataOf_4 : decode cPk_dataOf 4 = .ok (.iand, 1) := by decide +kernel
theorem dPk_dataOf_5 : decode cPk_dataOf 5 = .ok (.ireturn, 1) := by decide +kernel
