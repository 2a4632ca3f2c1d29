theorem dFr_of_0 : decode cFr_of 0 = .ok (.iload_n 0, 1) := by decide +kernel
theorem dFr_of_1 : decode cFr_of 1 = .ok (.bipush 27, 2) := by decide +kernel
theorem dFr_of_3 : decode cFr_of 3 = .ok (.ishl, 1) := by decide +kernel
theorem dFr_of_4 : decode cFr_of 4 = .ok (.iload_n 1, 1) := by decide +kernel
theorem dFr_of_5 : decode cFr_of 5 = .ok (.bipush 24, 2) := by decide +kernel
theorem dFr_of_7 : decode cFr_of 7 = .ok (.ishl, 1) := by decide +kernel
theorem dFr_of_8 : decode cFr_of 8 = .ok (.ior, 1) := by decide +kernel
theorem dFr_of_9 : decode cFr_of 9 = .ok (.iload_n 2, 1) := by decide +kernel
theorem dFr_of_10 : decode cFr_of 10 = .ok (.bipush 21, 2) := by decide +kernel
theorem dFr_of_12 : decode cFr_of 12 = .ok (.ishl, 1) := by decide +kernel
theorem dFr_of_13 : decode cFr_of 13 = .ok (.ior, 1) := by decide +kernel
theorem dFr_of_14 : decode cFr_of 14 = .ok (.iload_n 3, 1) := by decide +kernel
theorem dFr_of_15 : decode cFr_of 15 = .ok (.ior, 1) := by decide +kernel
theorem dFr_of_16 : decode cFr_of 16 = .ok (.ireturn, 1) := by decide +kernel
theorem dFr_kindOf_0 : decode cFr_kindOf 0 = .ok (.iload_n 0, 1) := by decide +kernel
theorem dFr_kindOf_1 : decode cFr_kindOf 1 = .ok (.bipush 27, 2) := by decide +kernel
theorem dFr_kindOf_3 : decode cFr_kindOf 3 = .ok (.ishr, 1) := by decide +kernel
theorem dFr_kindOf_4 : decode cFr_kindOf 4 = .ok (.bipush 7, 2) := by decide +kernel
theorem dFr_kindOf_6 : decode cFr_kindOf 6 = .ok (.iand, 1) := by decide +kernel
theorem dFr_kindOf_7 : decode cFr_kindOf 7 = .ok (.ireturn, 1) := by decide +kernel
theorem dFr_numberOf_0 : decode cFr_numberOf 0 = .ok (.iload_n 0, 1) := by decide +kernel
theorem dFr_numberOf_1 : decode cFr_numberOf 1 = .ok (.bipush 24, 2) := by decide +kernel
theorem dFr_numberOf_3 : decode cFr_numberOf 3 = .ok (.ishr, 1) := by decide +kernel
theorem dFr_numberOf_4 : decode cFr_numberOf 4 = .ok (.bipush 7, 2) := by decide +kernel
theorem dFr_numberOf_6 : decode cFr_numberOf 6 = .ok (.iand, 1) := by decide +kernel
theorem dFr_numberOf_7 : decode cFr_numberOf 7 = .ok (.ireturn, 1) := by decide +kernel
theorem dFr_acknowledgementOf_0 : decode cFr_acknowledgementOf 0 = .ok (.iload_n 0, 1) := by decide +kernel
theorem dFr_acknowledgementOf_1 : decode cFr_acknowledgementOf 1 = .ok (.bipush 21, 2) := by decide +kernel
theorem dFr_acknowledgementOf_3 : decode cFr_acknowledgementOf 3 = .ok (.ishr, 1) := by decide +kernel
theorem dFr_acknowledgementOf_4 : decode cFr_acknowledgementOf 4 = .ok (.bipush 7, 2) := by decide +kernel
theorem dFr_acknowledgementOf_6 : decode cFr_acknowledgementOf 6 = .ok (.iand, 1) := by decide +kernel
theorem dFr_acknowledgementOf_7 : decode cFr_acknowledgementOf 7 = .ok (.ireturn, 1) := by decide +kernel
theorem dFr_packetOf_0 : decode cFr_packetOf 0 = .ok (.iload_n 0, 1) := by decide +kernel
theorem dFr_packetOf_1 : decode cFr_packetOf 1 = .ok (.ldc 7, 2) := by decide +kernel
theorem dFr_packetOf_3 : decode cFr_packetOf 3 = .ok (.iand, 1) := by decide +kernel
theorem dFr_packetOf_4 : decode cFr_packetOf 4 = .ok (.ireturn, 1) := by decide +kernel
