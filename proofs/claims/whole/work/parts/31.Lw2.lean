theorem dLw_law_1084 : decode cLw_law 1084 = .ok (.ifCond .ne 15, 3) := by decide +kernel
theorem dLw_law_1087 : decode cLw_law 1087 = .ok (.aload_n 3, 1) := by decide +kernel
theorem dLw_law_1088 : decode cLw_law 1088 = .ok (.iconst 0, 1) := by decide +kernel
theorem dLw_law_1089 : decode cLw_law 1089 = .ok (.laload, 1) := by decide +kernel
theorem dLw_law_1090 : decode cLw_law 1090 = .ok (.iload 6, 2) := by decide +kernel
theorem dLw_law_1092 : decode cLw_law 1092 = .ok (.i2l, 1) := by decide +kernel
theorem dLw_law_1093 : decode cLw_law 1093 = .ok (.lcmp, 1) := by decide +kernel
theorem dLw_law_1094 : decode cLw_law 1094 = .ok (.ifCond .eq 5, 3) := by decide +kernel
theorem dLw_law_1097 : decode cLw_law 1097 = .ok (.iconst 0, 1) := by decide +kernel
theorem dLw_law_1098 : decode cLw_law 1098 = .ok (.ireturn, 1) := by decide +kernel
theorem dLw_law_1099 : decode cLw_law 1099 = .ok (.goto 3, 3) := by decide +kernel
theorem dLw_law_1102 : decode cLw_law 1102 = .ok (.iinc 4 6, 3) := by decide +kernel
theorem dLw_law_1105 : decode cLw_law 1105 = .ok (.goto (-1082), 3) := by decide +kernel
theorem dLw_law_1108 : decode cLw_law 1108 = .ok (.iconst 1, 1) := by decide +kernel
theorem dLw_law_1109 : decode cLw_law 1109 = .ok (.ireturn, 1) := by decide +kernel
