theorem dMo_clean_66 : decode cMo_clean 66 = .ok (.invokevirtual 122, 3) := by decide +kernel
theorem dMo_clean_69 : decode cMo_clean 69 = .ok (.iinc 2 1, 3) := by decide +kernel
theorem dMo_clean_72 : decode cMo_clean 72 = .ok (.goto (-28), 3) := by decide +kernel
theorem dMo_clean_75 : decode cMo_clean 75 = .ok (.return_, 1) := by decide +kernel
theorem dMo_setUp_0 : decode cMo_setUp 0 = .ok (.aload_n 0, 1) := by decide +kernel
theorem dMo_setUp_1 : decode cMo_setUp 1 = .ok (.iload_n 1, 1) := by decide +kernel
theorem dMo_setUp_2 : decode cMo_setUp 2 = .ok (.invokevirtual 125, 3) := by decide +kernel
theorem dMo_setUp_5 : decode cMo_setUp 5 = .ok (.aload_n 0, 1) := by decide +kernel
theorem dMo_setUp_6 : decode cMo_setUp 6 = .ok (.getfield 37, 3) := by decide +kernel
theorem dMo_setUp_9 : decode cMo_setUp 9 = .ok (.iload_n 1, 1) := by decide +kernel
theorem dMo_setUp_10 : decode cMo_setUp 10 = .ok (.iconst 1, 1) := by decide +kernel
theorem dMo_setUp_11 : decode cMo_setUp 11 = .ok (.iastore, 1) := by decide +kernel
theorem dMo_setUp_12 : decode cMo_setUp 12 = .ok (.aload_n 0, 1) := by decide +kernel
theorem dMo_setUp_13 : decode cMo_setUp 13 = .ok (.iload_n 1, 1) := by decide +kernel
theorem dMo_setUp_14 : decode cMo_setUp 14 = .ok (.iconst 1, 1) := by decide +kernel
theorem dMo_setUp_15 : decode cMo_setUp 15 = .ok (.iconst 0, 1) := by decide +kernel
theorem dMo_setUp_16 : decode cMo_setUp 16 = .ok (.iconst 0, 1) := by decide +kernel
theorem dMo_setUp_17 : decode cMo_setUp 17 = .ok (.iconst (-1), 1) := by decide +kernel
theorem dMo_setUp_18 : decode cMo_setUp 18 = .ok (.invokevirtual 103, 3) := by decide +kernel
theorem dMo_setUp_21 : decode cMo_setUp 21 = .ok (.return_, 1) := by decide +kernel
theorem dMo_confirm_0 : decode cMo_confirm 0 = .ok (.iload_n 2, 1) := by decide +kernel
theorem dMo_confirm_1 : decode cMo_confirm 1 = .ok (.aload_n 0, 1) := by decide +kernel
theorem dMo_confirm_2 : decode cMo_confirm 2 = .ok (.getfield 43, 3) := by decide +kernel
theorem dMo_confirm_5 : decode cMo_confirm 5 = .ok (.iload_n 1, 1) := by decide +kernel
theorem dMo_confirm_6 : decode cMo_confirm 6 = .ok (.iaload, 1) := by decide +kernel
theorem dMo_confirm_7 : decode cMo_confirm 7 = .ok (.invokestatic 99, 3) := by decide +kernel
theorem dMo_confirm_10 : decode cMo_confirm 10 = .ok (.istore_n 3, 1) := by decide +kernel
theorem dMo_confirm_11 : decode cMo_confirm 11 = .ok (.iload_n 3, 1) := by decide +kernel
theorem dMo_confirm_12 : decode cMo_confirm 12 = .ok (.aload_n 0, 1) := by decide +kernel
theorem dMo_confirm_13 : decode cMo_confirm 13 = .ok (.iload_n 1, 1) := by decide +kernel
theorem dMo_confirm_14 : decode cMo_confirm 14 = .ok (.invokevirtual 107, 3) := by decide +kernel
theorem dMo_confirm_17 : decode cMo_confirm 17 = .ok (.if_icmp .le 4, 3) := by decide +kernel
theorem dMo_confirm_20 : decode cMo_confirm 20 = .ok (.return_, 1) := by decide +kernel
theorem dMo_confirm_21 : decode cMo_confirm 21 = .ok (.aload_n 0, 1) := by decide +kernel
theorem dMo_confirm_22 : decode cMo_confirm 22 = .ok (.getfield 59, 3) := by decide +kernel
theorem dMo_confirm_25 : decode cMo_confirm 25 = .ok (.iload_n 1, 1) := by decide +kernel
theorem dMo_confirm_26 : decode cMo_confirm 26 = .ok (.aload_n 0, 1) := by decide +kernel
theorem dMo_confirm_27 : decode cMo_confirm 27 = .ok (.getfield 59, 3) := by decide +kernel
theorem dMo_confirm_30 : decode cMo_confirm 30 = .ok (.iload_n 1, 1) := by decide +kernel
theorem dMo_confirm_31 : decode cMo_confirm 31 = .ok (.iaload, 1) := by decide +kernel
theorem dMo_confirm_32 : decode cMo_confirm 32 = .ok (.iload_n 3, 1) := by decide +kernel
theorem dMo_confirm_33 : decode cMo_confirm 33 = .ok (.isub, 1) := by decide +kernel
theorem dMo_confirm_34 : decode cMo_confirm 34 = .ok (.iastore, 1) := by decide +kernel
theorem dMo_confirm_35 : decode cMo_confirm 35 = .ok (.bipush 16, 2) := by decide +kernel
theorem dMo_confirm_37 : decode cMo_confirm 37 = .ok (.iload_n 1, 1) := by decide +kernel
theorem dMo_confirm_38 : decode cMo_confirm 38 = .ok (.imul, 1) := by decide +kernel
theorem dMo_confirm_39 : decode cMo_confirm 39 = .ok (.istore 4, 2) := by decide +kernel
theorem dMo_confirm_41 : decode cMo_confirm 41 = .ok (.iload 4, 2) := by decide +kernel
theorem dMo_confirm_43 : decode cMo_confirm 43 = .ok (.bipush 16, 2) := by decide +kernel
theorem dMo_confirm_45 : decode cMo_confirm 45 = .ok (.iload_n 1, 1) := by decide +kernel
theorem dMo_confirm_46 : decode cMo_confirm 46 = .ok (.imul, 1) := by decide +kernel
theorem dMo_confirm_47 : decode cMo_confirm 47 = .ok (.aload_n 0, 1) := by decide +kernel
theorem dMo_confirm_48 : decode cMo_confirm 48 = .ok (.getfield 59, 3) := by decide +kernel
theorem dMo_confirm_51 : decode cMo_confirm 51 = .ok (.iload_n 1, 1) := by decide +kernel
theorem dMo_confirm_52 : decode cMo_confirm 52 = .ok (.iaload, 1) := by decide +kernel
theorem dMo_confirm_53 : decode cMo_confirm 53 = .ok (.iadd, 1) := by decide +kernel
theorem dMo_confirm_54 : decode cMo_confirm 54 = .ok (.if_icmp .ge 89, 3) := by decide +kernel
theorem dMo_confirm_57 : decode cMo_confirm 57 = .ok (.aload_n 0, 1) := by decide +kernel
theorem dMo_confirm_58 : decode cMo_confirm 58 = .ok (.getfield 62, 3) := by decide +kernel
theorem dMo_confirm_61 : decode cMo_confirm 61 = .ok (.iload 4, 2) := by decide +kernel
theorem dMo_confirm_63 : decode cMo_confirm 63 = .ok (.aload_n 0, 1) := by decide +kernel
theorem dMo_confirm_64 : decode cMo_confirm 64 = .ok (.getfield 62, 3) := by decide +kernel
theorem dMo_confirm_67 : decode cMo_confirm 67 = .ok (.iload 4, 2) := by decide +kernel
theorem dMo_confirm_69 : decode cMo_confirm 69 = .ok (.iload_n 3, 1) := by decide +kernel
theorem dMo_confirm_70 : decode cMo_confirm 70 = .ok (.iadd, 1) := by decide +kernel
theorem dMo_confirm_71 : decode cMo_confirm 71 = .ok (.iaload, 1) := by decide +kernel
theorem dMo_confirm_72 : decode cMo_confirm 72 = .ok (.iastore, 1) := by decide +kernel
theorem dMo_confirm_73 : decode cMo_confirm 73 = .ok (.aload_n 0, 1) := by decide +kernel
theorem dMo_confirm_74 : decode cMo_confirm 74 = .ok (.getfield 65, 3) := by decide +kernel
theorem dMo_confirm_77 : decode cMo_confirm 77 = .ok (.iload 4, 2) := by decide +kernel
theorem dMo_confirm_79 : decode cMo_confirm 79 = .ok (.aload_n 0, 1) := by decide +kernel
theorem dMo_confirm_80 : decode cMo_confirm 80 = .ok (.getfield 65, 3) := by decide +kernel
theorem dMo_confirm_83 : decode cMo_confirm 83 = .ok (.iload 4, 2) := by decide +kernel
theorem dMo_confirm_85 : decode cMo_confirm 85 = .ok (.iload_n 3, 1) := by decide +kernel
theorem dMo_confirm_86 : decode cMo_confirm 86 = .ok (.iadd, 1) := by decide +kernel
theorem dMo_confirm_87 : decode cMo_confirm 87 = .ok (.iaload, 1) := by decide +kernel
theorem dMo_confirm_88 : decode cMo_confirm 88 = .ok (.iastore, 1) := by decide +kernel
theorem dMo_confirm_89 : decode cMo_confirm 89 = .ok (.aload_n 0, 1) := by decide +kernel
theorem dMo_confirm_90 : decode cMo_confirm 90 = .ok (.getfield 68, 3) := by decide +kernel
theorem dMo_confirm_93 : decode cMo_confirm 93 = .ok (.iload 4, 2) := by decide +kernel
theorem dMo_confirm_95 : decode cMo_confirm 95 = .ok (.aload_n 0, 1) := by decide +kernel
theorem dMo_confirm_96 : decode cMo_confirm 96 = .ok (.getfield 68, 3) := by decide +kernel
theorem dMo_confirm_99 : decode cMo_confirm 99 = .ok (.iload 4, 2) := by decide +kernel
theorem dMo_confirm_101 : decode cMo_confirm 101 = .ok (.iload_n 3, 1) := by decide +kernel
theorem dMo_confirm_102 : decode cMo_confirm 102 = .ok (.iadd, 1) := by decide +kernel
theorem dMo_confirm_103 : decode cMo_confirm 103 = .ok (.iaload, 1) := by decide +kernel
theorem dMo_confirm_104 : decode cMo_confirm 104 = .ok (.iastore, 1) := by decide +kernel
theorem dMo_confirm_105 : decode cMo_confirm 105 = .ok (.aload_n 0, 1) := by decide +kernel
theorem dMo_confirm_106 : decode cMo_confirm 106 = .ok (.getfield 71, 3) := by decide +kernel
theorem dMo_confirm_109 : decode cMo_confirm 109 = .ok (.iload 4, 2) := by decide +kernel
theorem dMo_confirm_111 : decode cMo_confirm 111 = .ok (.aload_n 0, 1) := by decide +kernel
theorem dMo_confirm_112 : decode cMo_confirm 112 = .ok (.getfield 71, 3) := by decide +kernel
theorem dMo_confirm_115 : decode cMo_confirm 115 = .ok (.iload 4, 2) := by decide +kernel
theorem dMo_confirm_117 : decode cMo_confirm 117 = .ok (.iload_n 3, 1) := by decide +kernel
theorem dMo_confirm_118 : decode cMo_confirm 118 = .ok (.iadd, 1) := by decide +kernel
theorem dMo_confirm_119 : decode cMo_confirm 119 = .ok (.iaload, 1) := by decide +kernel
theorem dMo_confirm_120 : decode cMo_confirm 120 = .ok (.iastore, 1) := by decide +kernel
theorem dMo_confirm_121 : decode cMo_confirm 121 = .ok (.aload_n 0, 1) := by decide +kernel
theorem dMo_confirm_122 : decode cMo_confirm 122 = .ok (.getfield 74, 3) := by decide +kernel
theorem dMo_confirm_125 : decode cMo_confirm 125 = .ok (.iload 4, 2) := by decide +kernel
theorem dMo_confirm_127 : decode cMo_confirm 127 = .ok (.aload_n 0, 1) := by decide +kernel
theorem dMo_confirm_128 : decode cMo_confirm 128 = .ok (.getfield 74, 3) := by decide +kernel
theorem dMo_confirm_131 : decode cMo_confirm 131 = .ok (.iload 4, 2) := by decide +kernel
theorem dMo_confirm_133 : decode cMo_confirm 133 = .ok (.iload_n 3, 1) := by decide +kernel
theorem dMo_confirm_134 : decode cMo_confirm 134 = .ok (.iadd, 1) := by decide +kernel
theorem dMo_confirm_135 : decode cMo_confirm 135 = .ok (.iaload, 1) := by decide +kernel
theorem dMo_confirm_136 : decode cMo_confirm 136 = .ok (.iastore, 1) := by decide +kernel
theorem dMo_confirm_137 : decode cMo_confirm 137 = .ok (.iinc 4 1, 3) := by decide +kernel
theorem dMo_confirm_140 : decode cMo_confirm 140 = .ok (.goto (-99), 3) := by decide +kernel
theorem dMo_confirm_143 : decode cMo_confirm 143 = .ok (.aload_n 0, 1) := by decide +kernel
theorem dMo_confirm_144 : decode cMo_confirm 144 = .ok (.getfield 43, 3) := by decide +kernel
theorem dMo_confirm_147 : decode cMo_confirm 147 = .ok (.iload_n 1, 1) := by decide +kernel
theorem dMo_confirm_148 : decode cMo_confirm 148 = .ok (.iload_n 2, 1) := by decide +kernel
theorem dMo_confirm_149 : decode cMo_confirm 149 = .ok (.iastore, 1) := by decide +kernel
theorem dMo_confirm_150 : decode cMo_confirm 150 = .ok (.aload_n 0, 1) := by decide +kernel
theorem dMo_confirm_151 : decode cMo_confirm 151 = .ok (.getfield 49, 3) := by decide +kernel
theorem dMo_confirm_154 : decode cMo_confirm 154 = .ok (.iload_n 1, 1) := by decide +kernel
theorem dMo_confirm_155 : decode cMo_confirm 155 = .ok (.iload_n 3, 1) := by decide +kernel
theorem dMo_confirm_156 : decode cMo_confirm 156 = .ok (.ifCond .le 7, 3) := by decide +kernel
theorem dMo_confirm_159 : decode cMo_confirm 159 = .ok (.iconst 0, 1) := by decide +kernel
theorem dMo_confirm_160 : decode cMo_confirm 160 = .ok (.goto 9, 3) := by decide +kernel
theorem dMo_confirm_163 : decode cMo_confirm 163 = .ok (.aload_n 0, 1) := by decide +kernel
theorem dMo_confirm_164 : decode cMo_confirm 164 = .ok (.getfield 49, 3) := by decide +kernel
theorem dMo_confirm_167 : decode cMo_confirm 167 = .ok (.iload_n 1, 1) := by decide +kernel
theorem dMo_confirm_168 : decode cMo_confirm 168 = .ok (.iaload, 1) := by decide +kernel
theorem dMo_confirm_169 : decode cMo_confirm 169 = .ok (.iastore, 1) := by decide +kernel
theorem dMo_confirm_170 : decode cMo_confirm 170 = .ok (.return_, 1) := by decide +kernel
theorem dMo_idle_0 : decode cMo_idle 0 = .ok (.aload_n 0, 1) := by decide +kernel
theorem dMo_idle_1 : decode cMo_idle 1 = .ok (.getfield 77, 3) := by decide +kernel
theorem dMo_idle_4 : decode cMo_idle 4 = .ok (.iload_n 1, 1) := by decide +kernel
theorem dMo_idle_5 : decode cMo_idle 5 = .ok (.iconst 0, 1) := by decide +kernel
theorem dMo_idle_6 : decode cMo_idle 6 = .ok (.iastore, 1) := by decide +kernel
theorem dMo_idle_7 : decode cMo_idle 7 = .ok (.aload_n 0, 1) := by decide +kernel
theorem dMo_idle_8 : decode cMo_idle 8 = .ok (.iload_n 1, 1) := by decide +kernel
theorem dMo_idle_9 : decode cMo_idle 9 = .ok (.invokevirtual 122, 3) := by decide +kernel
theorem dMo_idle_12 : decode cMo_idle 12 = .ok (.return_, 1) := by decide +kernel
theorem dMo_move_0 : decode cMo_move 0 = .ok (.iconst 3, 1) := by decide +kernel
theorem dMo_move_1 : decode cMo_move 1 = .ok (.iload_n 1, 1) := by decide +kernel
theorem dMo_move_2 : decode cMo_move 2 = .ok (.imul, 1) := by decide +kernel
theorem dMo_move_3 : decode cMo_move 3 = .ok (.iload_n 2, 1) := by decide +kernel
theorem dMo_move_4 : decode cMo_move 4 = .ok (.iadd, 1) := by decide +kernel
theorem dMo_move_5 : decode cMo_move 5 = .ok (.istore 7, 2) := by decide +kernel
theorem dMo_move_7 : decode cMo_move 7 = .ok (.iload 5, 2) := by decide +kernel
theorem dMo_move_9 : decode cMo_move 9 = .ok (.aload_n 0, 1) := by decide +kernel
theorem dMo_move_10 : decode cMo_move 10 = .ok (.getfield 83, 3) := by decide +kernel
theorem dMo_move_13 : decode cMo_move 13 = .ok (.iload 7, 2) := by decide +kernel
theorem dMo_move_15 : decode cMo_move 15 = .ok (.iaload, 1) := by decide +kernel
theorem dMo_move_16 : decode cMo_move 16 = .ok (.invokestatic 99, 3) := by decide +kernel
theorem dMo_move_19 : decode cMo_move 19 = .ok (.aload_n 0, 1) := by decide +kernel
theorem dMo_move_20 : decode cMo_move 20 = .ok (.getfield 80, 3) := by decide +kernel
theorem dMo_move_23 : decode cMo_move 23 = .ok (.iload 7, 2) := by decide +kernel
theorem dMo_move_25 : decode cMo_move 25 = .ok (.iaload, 1) := by decide +kernel
theorem dMo_move_26 : decode cMo_move 26 = .ok (.aload_n 0, 1) := by decide +kernel
theorem dMo_move_27 : decode cMo_move 27 = .ok (.getfield 83, 3) := by decide +kernel
theorem dMo_move_30 : decode cMo_move 30 = .ok (.iload 7, 2) := by decide +kernel
theorem dMo_move_32 : decode cMo_move 32 = .ok (.iaload, 1) := by decide +kernel
theorem dMo_move_33 : decode cMo_move 33 = .ok (.invokestatic 99, 3) := by decide +kernel
theorem dMo_move_36 : decode cMo_move 36 = .ok (.if_icmp .le 7, 3) := by decide +kernel
theorem dMo_move_39 : decode cMo_move 39 = .ok (.iconst 1, 1) := by decide +kernel
theorem dMo_move_40 : decode cMo_move 40 = .ok (.goto 4, 3) := by decide +kernel
theorem dMo_move_43 : decode cMo_move 43 = .ok (.iconst 0, 1) := by decide +kernel
theorem dMo_move_44 : decode cMo_move 44 = .ok (.istore 8, 2) := by decide +kernel
theorem dMo_move_46 : decode cMo_move 46 = .ok (.iload 8, 2) := by decide +kernel
theorem dMo_move_48 : decode cMo_move 48 = .ok (.ifCond .ne 102, 3) := by decide +kernel
theorem dMo_move_51 : decode cMo_move 51 = .ok (.aload_n 0, 1) := by decide +kernel
theorem dMo_move_52 : decode cMo_move 52 = .ok (.getfield 83, 3) := by decide +kernel
theorem dMo_move_55 : decode cMo_move 55 = .ok (.iload 7, 2) := by decide +kernel
theorem dMo_move_57 : decode cMo_move 57 = .ok (.iload 5, 2) := by decide +kernel
theorem dMo_move_59 : decode cMo_move 59 = .ok (.iastore, 1) := by decide +kernel
theorem dMo_move_60 : decode cMo_move 60 = .ok (.aload_n 0, 1) := by decide +kernel
theorem dMo_move_61 : decode cMo_move 61 = .ok (.getfield 86, 3) := by decide +kernel
theorem dMo_move_64 : decode cMo_move 64 = .ok (.iload 7, 2) := by decide +kernel
theorem dMo_move_66 : decode cMo_move 66 = .ok (.iaload, 1) := by decide +kernel
theorem dMo_move_67 : decode cMo_move 67 = .ok (.aload_n 0, 1) := by decide +kernel
theorem dMo_move_68 : decode cMo_move 68 = .ok (.getfield 89, 3) := by decide +kernel
theorem dMo_move_71 : decode cMo_move 71 = .ok (.iload 7, 2) := by decide +kernel
theorem dMo_move_73 : decode cMo_move 73 = .ok (.iaload, 1) := by decide +kernel
theorem dMo_move_74 : decode cMo_move 74 = .ok (.invokestatic 99, 3) := by decide +kernel
theorem dMo_move_77 : decode cMo_move 77 = .ok (.istore 9, 2) := by decide +kernel
theorem dMo_move_79 : decode cMo_move 79 = .ok (.iload_n 3, 1) := by decide +kernel
theorem dMo_move_80 : decode cMo_move 80 = .ok (.iconst 5, 1) := by decide +kernel
theorem dMo_move_81 : decode cMo_move 81 = .ok (.if_icmp .ne 25, 3) := by decide +kernel
theorem dMo_move_84 : decode cMo_move 84 = .ok (.iload 4, 2) := by decide +kernel
theorem dMo_move_86 : decode cMo_move 86 = .ok (.aload_n 0, 1) := by decide +kernel
theorem dMo_move_87 : decode cMo_move 87 = .ok (.getfield 86, 3) := by decide +kernel
theorem dMo_move_90 : decode cMo_move 90 = .ok (.iload 7, 2) := by decide +kernel
theorem dMo_move_92 : decode cMo_move 92 = .ok (.iaload, 1) := by decide +kernel
theorem dMo_move_93 : decode cMo_move 93 = .ok (.if_icmp .ne 9, 3) := by decide +kernel
theorem dMo_move_96 : decode cMo_move 96 = .ok (.iload 9, 2) := by decide +kernel
theorem dMo_move_98 : decode cMo_move 98 = .ok (.iconst 2, 1) := by decide +kernel
theorem dMo_move_99 : decode cMo_move 99 = .ok (.if_icmp .ne 7, 3) := by decide +kernel
theorem dMo_move_102 : decode cMo_move 102 = .ok (.iconst 1, 1) := by decide +kernel
theorem dMo_move_103 : decode cMo_move 103 = .ok (.goto 4, 3) := by decide +kernel
theorem dMo_move_106 : decode cMo_move 106 = .ok (.iconst 0, 1) := by decide +kernel
theorem dMo_move_107 : decode cMo_move 107 = .ok (.istore 8, 2) := by decide +kernel
theorem dMo_move_109 : decode cMo_move 109 = .ok (.iload_n 3, 1) := by decide +kernel
theorem dMo_move_110 : decode cMo_move 110 = .ok (.iconst 5, 1) := by decide +kernel
theorem dMo_move_111 : decode cMo_move 111 = .ok (.if_icmp .ne 39, 3) := by decide +kernel
theorem dMo_move_114 : decode cMo_move 114 = .ok (.iload 8, 2) := by decide +kernel
theorem dMo_move_116 : decode cMo_move 116 = .ok (.ifCond .ne 34, 3) := by decide +kernel
theorem dMo_move_119 : decode cMo_move 119 = .ok (.aload_n 0, 1) := by decide +kernel
theorem dMo_move_120 : decode cMo_move 120 = .ok (.getfield 92, 3) := by decide +kernel
theorem dMo_move_123 : decode cMo_move 123 = .ok (.iconst 2, 1) := by decide +kernel
theorem dMo_move_124 : decode cMo_move 124 = .ok (.iload 7, 2) := by decide +kernel
theorem dMo_move_126 : decode cMo_move 126 = .ok (.imul, 1) := by decide +kernel
theorem dMo_move_127 : decode cMo_move 127 = .ok (.iload 9, 2) := by decide +kernel
theorem dMo_move_129 : decode cMo_move 129 = .ok (.iadd, 1) := by decide +kernel
theorem dMo_move_130 : decode cMo_move 130 = .ok (.iload 6, 2) := by decide +kernel
theorem dMo_move_132 : decode cMo_move 132 = .ok (.iastore, 1) := by decide +kernel
theorem dMo_move_133 : decode cMo_move 133 = .ok (.aload_n 0, 1) := by decide +kernel
theorem dMo_move_134 : decode cMo_move 134 = .ok (.getfield 86, 3) := by decide +kernel
theorem dMo_move_137 : decode cMo_move 137 = .ok (.iload 7, 2) := by decide +kernel
theorem dMo_move_139 : decode cMo_move 139 = .ok (.aload_n 0, 1) := by decide +kernel
theorem dMo_move_140 : decode cMo_move 140 = .ok (.getfield 86, 3) := by decide +kernel
theorem dMo_move_143 : decode cMo_move 143 = .ok (.iload 7, 2) := by decide +kernel
theorem dMo_move_145 : decode cMo_move 145 = .ok (.iaload, 1) := by decide +kernel
theorem dMo_move_146 : decode cMo_move 146 = .ok (.invokestatic 115, 3) := by decide +kernel
theorem dMo_move_149 : decode cMo_move 149 = .ok (.iastore, 1) := by decide +kernel
theorem dMo_move_150 : decode cMo_move 150 = .ok (.iload 8, 2) := by decide +kernel
theorem dMo_move_152 : decode cMo_move 152 = .ok (.ifCond .eq 28, 3) := by decide +kernel
theorem dMo_move_155 : decode cMo_move 155 = .ok (.aload_n 0, 1) := by decide +kernel
theorem dMo_move_156 : decode cMo_move 156 = .ok (.iload 7, 2) := by decide +kernel
theorem dMo_move_158 : decode cMo_move 158 = .ok (.invokevirtual 122, 3) := by decide +kernel
theorem dMo_move_161 : decode cMo_move 161 = .ok (.aload_n 0, 1) := by decide +kernel
theorem dMo_move_162 : decode cMo_move 162 = .ok (.getfield 77, 3) := by decide +kernel
theorem dMo_move_165 : decode cMo_move 165 = .ok (.iload 7, 2) := by decide +kernel
theorem dMo_move_167 : decode cMo_move 167 = .ok (.iconst 5, 1) := by decide +kernel
theorem dMo_move_168 : decode cMo_move 168 = .ok (.iastore, 1) := by decide +kernel
theorem dMo_move_169 : decode cMo_move 169 = .ok (.aload_n 0, 1) := by decide +kernel
theorem dMo_move_170 : decode cMo_move 170 = .ok (.iload_n 1, 1) := by decide +kernel
theorem dMo_move_171 : decode cMo_move 171 = .ok (.bipush 7, 2) := by decide +kernel
theorem dMo_move_173 : decode cMo_move 173 = .ok (.iload_n 2, 1) := by decide +kernel
theorem dMo_move_174 : decode cMo_move 174 = .ok (.iconst 0, 1) := by decide +kernel
theorem dMo_move_175 : decode cMo_move 175 = .ok (.iconst 0, 1) := by decide +kernel
theorem dMo_move_176 : decode cMo_move 176 = .ok (.iconst 0, 1) := by decide +kernel
theorem dMo_move_177 : decode cMo_move 177 = .ok (.invokevirtual 128, 3) := by decide +kernel
theorem dMo_move_180 : decode cMo_move 180 = .ok (.return_, 1) := by decide +kernel
theorem dMo_hear_0 : decode cMo_hear 0 = .ok (.iconst 3, 1) := by decide +kernel
theorem dMo_hear_1 : decode cMo_hear 1 = .ok (.iload_n 1, 1) := by decide +kernel
theorem dMo_hear_2 : decode cMo_hear 2 = .ok (.imul, 1) := by decide +kernel
theorem dMo_hear_3 : decode cMo_hear 3 = .ok (.iload_n 2, 1) := by decide +kernel
theorem dMo_hear_4 : decode cMo_hear 4 = .ok (.iadd, 1) := by decide +kernel
theorem dMo_hear_5 : decode cMo_hear 5 = .ok (.istore 7, 2) := by decide +kernel
theorem dMo_hear_7 : decode cMo_hear 7 = .ok (.aload_n 0, 1) := by decide +kernel
theorem dMo_hear_8 : decode cMo_hear 8 = .ok (.getfield 77, 3) := by decide +kernel
theorem dMo_hear_11 : decode cMo_hear 11 = .ok (.iload 7, 2) := by decide +kernel
theorem dMo_hear_13 : decode cMo_hear 13 = .ok (.iaload, 1) := by decide +kernel
theorem dMo_hear_14 : decode cMo_hear 14 = .ok (.istore 8, 2) := by decide +kernel
theorem dMo_hear_16 : decode cMo_hear 16 = .ok (.iload_n 3, 1) := by decide +kernel
theorem dMo_hear_17 : decode cMo_hear 17 = .ok (.tableswitch 215 1 8 #[47, 79, 102, 132, 215, 215, 147, 193], 47) := by decide +kernel
theorem dMo_hear_64 : decode cMo_hear 64 = .ok (.aload_n 0, 1) := by decide +kernel
theorem dMo_hear_65 : decode cMo_hear 65 = .ok (.getfield 77, 3) := by decide +kernel
theorem dMo_hear_68 : decode cMo_hear 68 = .ok (.iload 7, 2) := by decide +kernel
theorem dMo_hear_70 : decode cMo_hear 70 = .ok (.iload 8, 2) := by decide +kernel
theorem dMo_hear_72 : decode cMo_hear 72 = .ok (.ifCond .eq 14, 3) := by decide +kernel
theorem dMo_hear_75 : decode cMo_hear 75 = .ok (.iload 8, 2) := by decide +kernel
theorem dMo_hear_77 : decode cMo_hear 77 = .ok (.iconst 1, 1) := by decide +kernel
theorem dMo_hear_78 : decode cMo_hear 78 = .ok (.if_icmp .ne 12, 3) := by decide +kernel
theorem dMo_hear_81 : decode cMo_hear 81 = .ok (.iload_n 1, 1) := by decide +kernel
theorem dMo_hear_82 : decode cMo_hear 82 = .ok (.iconst 1, 1) := by decide +kernel
theorem dMo_hear_83 : decode cMo_hear 83 = .ok (.if_icmp .ne 7, 3) := by decide +kernel
theorem dMo_hear_86 : decode cMo_hear 86 = .ok (.iconst 2, 1) := by decide +kernel
theorem dMo_hear_87 : decode cMo_hear 87 = .ok (.goto 5, 3) := by decide +kernel
theorem dMo_hear_90 : decode cMo_hear 90 = .ok (.iload 8, 2) := by decide +kernel
theorem dMo_hear_92 : decode cMo_hear 92 = .ok (.iastore, 1) := by decide +kernel
theorem dMo_hear_93 : decode cMo_hear 93 = .ok (.goto 158, 3) := by decide +kernel
theorem dMo_hear_96 : decode cMo_hear 96 = .ok (.iload 8, 2) := by decide +kernel
theorem dMo_hear_98 : decode cMo_hear 98 = .ok (.iconst 1, 1) := by decide +kernel
theorem dMo_hear_99 : decode cMo_hear 99 = .ok (.if_icmp .ne 152, 3) := by decide +kernel
theorem dMo_hear_102 : decode cMo_hear 102 = .ok (.aload_n 0, 1) := by decide +kernel
theorem dMo_hear_103 : decode cMo_hear 103 = .ok (.iload 7, 2) := by decide +kernel
theorem dMo_hear_105 : decode cMo_hear 105 = .ok (.invokevirtual 122, 3) := by decide +kernel
theorem dMo_hear_108 : decode cMo_hear 108 = .ok (.aload_n 0, 1) := by decide +kernel
theorem dMo_hear_109 : decode cMo_hear 109 = .ok (.getfield 77, 3) := by decide +kernel
theorem dMo_hear_112 : decode cMo_hear 112 = .ok (.iload 7, 2) := by decide +kernel
theorem dMo_hear_114 : decode cMo_hear 114 = .ok (.iconst 3, 1) := by decide +kernel
theorem dMo_hear_115 : decode cMo_hear 115 = .ok (.iastore, 1) := by decide +kernel
theorem dMo_hear_116 : decode cMo_hear 116 = .ok (.goto 135, 3) := by decide +kernel
theorem dMo_hear_119 : decode cMo_hear 119 = .ok (.iload 8, 2) := by decide +kernel
theorem dMo_hear_121 : decode cMo_hear 121 = .ok (.ifCond .eq 130, 3) := by decide +kernel
theorem dMo_hear_124 : decode cMo_hear 124 = .ok (.aload_n 0, 1) := by decide +kernel
theorem dMo_hear_125 : decode cMo_hear 125 = .ok (.iload 7, 2) := by decide +kernel
theorem dMo_hear_127 : decode cMo_hear 127 = .ok (.invokevirtual 132, 3) := by decide +kernel
theorem dMo_hear_130 : decode cMo_hear 130 = .ok (.iload 8, 2) := by decide +kernel
theorem dMo_hear_132 : decode cMo_hear 132 = .ok (.iconst 4, 1) := by decide +kernel
theorem dMo_hear_133 : decode cMo_hear 133 = .ok (.if_icmp .eq 118, 3) := by decide +kernel
theorem dMo_hear_136 : decode cMo_hear 136 = .ok (.aload_n 0, 1) := by decide +kernel
theorem dMo_hear_137 : decode cMo_hear 137 = .ok (.iload_n 1, 1) := by decide +kernel
theorem dMo_hear_138 : decode cMo_hear 138 = .ok (.iconst 4, 1) := by decide +kernel
theorem dMo_hear_139 : decode cMo_hear 139 = .ok (.iload_n 2, 1) := by decide +kernel
theorem dMo_hear_140 : decode cMo_hear 140 = .ok (.iconst 0, 1) := by decide +kernel
theorem dMo_hear_141 : decode cMo_hear 141 = .ok (.iconst 0, 1) := by decide +kernel
theorem dMo_hear_142 : decode cMo_hear 142 = .ok (.iconst 0, 1) := by decide +kernel
theorem dMo_hear_143 : decode cMo_hear 143 = .ok (.invokevirtual 128, 3) := by decide +kernel
theorem dMo_hear_146 : decode cMo_hear 146 = .ok (.goto 105, 3) := by decide +kernel
theorem dMo_hear_149 : decode cMo_hear 149 = .ok (.iload 8, 2) := by decide +kernel
theorem dMo_hear_151 : decode cMo_hear 151 = .ok (.iconst 4, 1) := by decide +kernel
theorem dMo_hear_152 : decode cMo_hear 152 = .ok (.if_icmp .ne 99, 3) := by decide +kernel
theorem dMo_hear_155 : decode cMo_hear 155 = .ok (.aload_n 0, 1) := by decide +kernel
theorem dMo_hear_156 : decode cMo_hear 156 = .ok (.iload 7, 2) := by decide +kernel
theorem dMo_hear_158 : decode cMo_hear 158 = .ok (.invokevirtual 132, 3) := by decide +kernel
theorem dMo_hear_161 : decode cMo_hear 161 = .ok (.goto 90, 3) := by decide +kernel
theorem dMo_hear_164 : decode cMo_hear 164 = .ok (.iload 8, 2) := by decide +kernel
theorem dMo_hear_166 : decode cMo_hear 166 = .ok (.iconst 3, 1) := by decide +kernel
theorem dMo_hear_167 : decode cMo_hear 167 = .ok (.if_icmp .eq 9, 3) := by decide +kernel
theorem dMo_hear_170 : decode cMo_hear 170 = .ok (.iload 8, 2) := by decide +kernel
theorem dMo_hear_172 : decode cMo_hear 172 = .ok (.iconst 5, 1) := by decide +kernel
theorem dMo_hear_173 : decode cMo_hear 173 = .ok (.if_icmp .ne 17, 3) := by decide +kernel
theorem dMo_hear_176 : decode cMo_hear 176 = .ok (.aload_n 0, 1) := by decide +kernel
theorem dMo_hear_177 : decode cMo_hear 177 = .ok (.iload 7, 2) := by decide +kernel
theorem dMo_hear_179 : decode cMo_hear 179 = .ok (.invokevirtual 122, 3) := by decide +kernel
theorem dMo_hear_182 : decode cMo_hear 182 = .ok (.aload_n 0, 1) := by decide +kernel
theorem dMo_hear_183 : decode cMo_hear 183 = .ok (.getfield 77, 3) := by decide +kernel
theorem dMo_hear_186 : decode cMo_hear 186 = .ok (.iload 7, 2) := by decide +kernel
theorem dMo_hear_188 : decode cMo_hear 188 = .ok (.iconst 3, 1) := by decide +kernel
theorem dMo_hear_189 : decode cMo_hear 189 = .ok (.iastore, 1) := by decide +kernel
theorem dMo_hear_190 : decode cMo_hear 190 = .ok (.iload 8, 2) := by decide +kernel
theorem dMo_hear_192 : decode cMo_hear 192 = .ok (.iconst 3, 1) := by decide +kernel
theorem dMo_hear_193 : decode cMo_hear 193 = .ok (.if_icmp .ne 58, 3) := by decide +kernel
theorem dMo_hear_196 : decode cMo_hear 196 = .ok (.aload_n 0, 1) := by decide +kernel
theorem dMo_hear_197 : decode cMo_hear 197 = .ok (.iload_n 1, 1) := by decide +kernel
theorem dMo_hear_198 : decode cMo_hear 198 = .ok (.bipush 8, 2) := by decide +kernel
theorem dMo_hear_200 : decode cMo_hear 200 = .ok (.iload_n 2, 1) := by decide +kernel
theorem dMo_hear_201 : decode cMo_hear 201 = .ok (.iconst 0, 1) := by decide +kernel
theorem dMo_hear_202 : decode cMo_hear 202 = .ok (.iconst 0, 1) := by decide +kernel
theorem dMo_hear_203 : decode cMo_hear 203 = .ok (.iconst 0, 1) := by decide +kernel
theorem dMo_hear_204 : decode cMo_hear 204 = .ok (.invokevirtual 128, 3) := by decide +kernel
theorem dMo_hear_207 : decode cMo_hear 207 = .ok (.goto 44, 3) := by decide +kernel
theorem dMo_hear_210 : decode cMo_hear 210 = .ok (.aload_n 0, 1) := by decide +kernel
theorem dMo_hear_211 : decode cMo_hear 211 = .ok (.getfield 77, 3) := by decide +kernel
theorem dMo_hear_214 : decode cMo_hear 214 = .ok (.iload 7, 2) := by decide +kernel
theorem dMo_hear_216 : decode cMo_hear 216 = .ok (.iload 8, 2) := by decide +kernel
theorem dMo_hear_218 : decode cMo_hear 218 = .ok (.iconst 5, 1) := by decide +kernel
theorem dMo_hear_219 : decode cMo_hear 219 = .ok (.if_icmp .ne 7, 3) := by decide +kernel
theorem dMo_hear_222 : decode cMo_hear 222 = .ok (.iconst 3, 1) := by decide +kernel
theorem dMo_hear_223 : decode cMo_hear 223 = .ok (.goto 5, 3) := by decide +kernel
theorem dMo_hear_226 : decode cMo_hear 226 = .ok (.iload 8, 2) := by decide +kernel
theorem dMo_hear_228 : decode cMo_hear 228 = .ok (.iastore, 1) := by decide +kernel
theorem dMo_hear_229 : decode cMo_hear 229 = .ok (.goto 22, 3) := by decide +kernel
theorem dMo_hear_232 : decode cMo_hear 232 = .ok (.iload 8, 2) := by decide +kernel
theorem dMo_hear_234 : decode cMo_hear 234 = .ok (.iconst 3, 1) := by decide +kernel
theorem dMo_hear_235 : decode cMo_hear 235 = .ok (.if_icmp .ne 16, 3) := by decide +kernel
theorem dMo_hear_238 : decode cMo_hear 238 = .ok (.aload_n 0, 1) := by decide +kernel
theorem dMo_hear_239 : decode cMo_hear 239 = .ok (.iload_n 1, 1) := by decide +kernel
theorem dMo_hear_240 : decode cMo_hear 240 = .ok (.iload_n 2, 1) := by decide +kernel
theorem dMo_hear_241 : decode cMo_hear 241 = .ok (.iload_n 3, 1) := by decide +kernel
theorem dMo_hear_242 : decode cMo_hear 242 = .ok (.iload 4, 2) := by decide +kernel
theorem dMo_hear_244 : decode cMo_hear 244 = .ok (.iload 5, 2) := by decide +kernel
theorem dMo_hear_246 : decode cMo_hear 246 = .ok (.iload 6, 2) := by decide +kernel
theorem dMo_hear_248 : decode cMo_hear 248 = .ok (.invokevirtual 135, 3) := by decide +kernel
theorem dMo_hear_251 : decode cMo_hear 251 = .ok (.return_, 1) := by decide +kernel
theorem dMo_hearCarrier_0 : decode cMo_hearCarrier 0 = .ok (.iload_n 2, 1) := by decide +kernel
theorem dMo_hearCarrier_1 : decode cMo_hearCarrier 1 = .ok (.aload_n 0, 1) := by decide +kernel
theorem dMo_hearCarrier_2 : decode cMo_hearCarrier 2 = .ok (.getfield 46, 3) := by decide +kernel
theorem dMo_hearCarrier_5 : decode cMo_hearCarrier 5 = .ok (.iload_n 1, 1) := by decide +kernel
theorem dMo_hearCarrier_6 : decode cMo_hearCarrier 6 = .ok (.iaload, 1) := by decide +kernel
theorem dMo_hearCarrier_7 : decode cMo_hearCarrier 7 = .ok (.if_icmp .eq 34, 3) := by decide +kernel
theorem dMo_hearCarrier_10 : decode cMo_hearCarrier 10 = .ok (.aload_n 0, 1) := by decide +kernel
theorem dMo_hearCarrier_11 : decode cMo_hearCarrier 11 = .ok (.getfield 52, 3) := by decide +kernel
theorem dMo_hearCarrier_14 : decode cMo_hearCarrier 14 = .ok (.iload_n 1, 1) := by decide +kernel
theorem dMo_hearCarrier_15 : decode cMo_hearCarrier 15 = .ok (.baload, 1) := by decide +kernel
theorem dMo_hearCarrier_16 : decode cMo_hearCarrier 16 = .ok (.ifCond .ne 24, 3) := by decide +kernel
theorem dMo_hearCarrier_19 : decode cMo_hearCarrier 19 = .ok (.aload_n 0, 1) := by decide +kernel
theorem dMo_hearCarrier_20 : decode cMo_hearCarrier 20 = .ok (.getfield 52, 3) := by decide +kernel
theorem dMo_hearCarrier_23 : decode cMo_hearCarrier 23 = .ok (.iload_n 1, 1) := by decide +kernel
theorem dMo_hearCarrier_24 : decode cMo_hearCarrier 24 = .ok (.iconst 1, 1) := by decide +kernel
theorem dMo_hearCarrier_25 : decode cMo_hearCarrier 25 = .ok (.bastore, 1) := by decide +kernel
theorem dMo_hearCarrier_26 : decode cMo_hearCarrier 26 = .ok (.aload_n 0, 1) := by decide +kernel
theorem dMo_hearCarrier_27 : decode cMo_hearCarrier 27 = .ok (.iload_n 1, 1) := by decide +kernel
theorem dMo_hearCarrier_28 : decode cMo_hearCarrier 28 = .ok (.iconst 5, 1) := by decide +kernel
theorem dMo_hearCarrier_29 : decode cMo_hearCarrier 29 = .ok (.iconst 0, 1) := by decide +kernel
theorem dMo_hearCarrier_30 : decode cMo_hearCarrier 30 = .ok (.aload_n 0, 1) := by decide +kernel
theorem dMo_hearCarrier_31 : decode cMo_hearCarrier 31 = .ok (.getfield 46, 3) := by decide +kernel
theorem dMo_hearCarrier_34 : decode cMo_hearCarrier 34 = .ok (.iload_n 1, 1) := by decide +kernel
theorem dMo_hearCarrier_35 : decode cMo_hearCarrier 35 = .ok (.iaload, 1) := by decide +kernel
theorem dMo_hearCarrier_36 : decode cMo_hearCarrier 36 = .ok (.iconst (-1), 1) := by decide +kernel
theorem dMo_hearCarrier_37 : decode cMo_hearCarrier 37 = .ok (.invokevirtual 103, 3) := by decide +kernel
theorem dMo_hearCarrier_40 : decode cMo_hearCarrier 40 = .ok (.return_, 1) := by decide +kernel
theorem dMo_hearCarrier_41 : decode cMo_hearCarrier 41 = .ok (.aload_n 0, 1) := by decide +kernel
theorem dMo_hearCarrier_42 : decode cMo_hearCarrier 42 = .ok (.getfield 46, 3) := by decide +kernel
theorem dMo_hearCarrier_45 : decode cMo_hearCarrier 45 = .ok (.iload_n 1, 1) := by decide +kernel
theorem dMo_hearCarrier_46 : decode cMo_hearCarrier 46 = .ok (.aload_n 0, 1) := by decide +kernel
theorem dMo_hearCarrier_47 : decode cMo_hearCarrier 47 = .ok (.getfield 46, 3) := by decide +kernel
theorem dMo_hearCarrier_50 : decode cMo_hearCarrier 50 = .ok (.iload_n 1, 1) := by decide +kernel
theorem dMo_hearCarrier_51 : decode cMo_hearCarrier 51 = .ok (.iaload, 1) := by decide +kernel
theorem dMo_hearCarrier_52 : decode cMo_hearCarrier 52 = .ok (.invokestatic 115, 3) := by decide +kernel
theorem dMo_hearCarrier_55 : decode cMo_hearCarrier 55 = .ok (.iastore, 1) := by decide +kernel
theorem dMo_hearCarrier_56 : decode cMo_hearCarrier 56 = .ok (.aload_n 0, 1) := by decide +kernel
theorem dMo_hearCarrier_57 : decode cMo_hearCarrier 57 = .ok (.getfield 52, 3) := by decide +kernel
theorem dMo_hearCarrier_60 : decode cMo_hearCarrier 60 = .ok (.iload_n 1, 1) := by decide +kernel
theorem dMo_hearCarrier_61 : decode cMo_hearCarrier 61 = .ok (.iconst 0, 1) := by decide +kernel
theorem dMo_hearCarrier_62 : decode cMo_hearCarrier 62 = .ok (.bastore, 1) := by decide +kernel
theorem dMo_hearCarrier_63 : decode cMo_hearCarrier 63 = .ok (.aload_n 0, 1) := by decide +kernel
theorem dMo_hearCarrier_64 : decode cMo_hearCarrier 64 = .ok (.iload_n 1, 1) := by decide +kernel
theorem dMo_hearCarrier_65 : decode cMo_hearCarrier 65 = .ok (.iload 4, 2) := by decide +kernel
theorem dMo_hearCarrier_67 : decode cMo_hearCarrier 67 = .ok (.iload_n 3, 1) := by decide +kernel
theorem dMo_hearCarrier_68 : decode cMo_hearCarrier 68 = .ok (.iload 5, 2) := by decide +kernel
theorem dMo_hearCarrier_70 : decode cMo_hearCarrier 70 = .ok (.iload 6, 2) := by decide +kernel
theorem dMo_hearCarrier_72 : decode cMo_hearCarrier 72 = .ok (.iload 7, 2) := by decide +kernel
theorem dMo_hearCarrier_74 : decode cMo_hearCarrier 74 = .ok (.invokevirtual 138, 3) := by decide +kernel
theorem dMo_hearCarrier_77 : decode cMo_hearCarrier 77 = .ok (.aload_n 0, 1) := by decide +kernel
theorem dMo_hearCarrier_78 : decode cMo_hearCarrier 78 = .ok (.getfield 56, 3) := by decide +kernel
theorem dMo_hearCarrier_81 : decode cMo_hearCarrier 81 = .ok (.iload_n 1, 1) := by decide +kernel
theorem dMo_hearCarrier_82 : decode cMo_hearCarrier 82 = .ok (.baload, 1) := by decide +kernel
theorem dMo_hearCarrier_83 : decode cMo_hearCarrier 83 = .ok (.ifCond .ne 8, 3) := by decide +kernel
theorem dMo_hearCarrier_86 : decode cMo_hearCarrier 86 = .ok (.aload_n 0, 1) := by decide +kernel
theorem dMo_hearCarrier_87 : decode cMo_hearCarrier 87 = .ok (.iload_n 1, 1) := by decide +kernel
theorem dMo_hearCarrier_88 : decode cMo_hearCarrier 88 = .ok (.invokevirtual 118, 3) := by decide +kernel
theorem dMo_hearCarrier_91 : decode cMo_hearCarrier 91 = .ok (.aload_n 0, 1) := by decide +kernel
theorem dMo_hearCarrier_92 : decode cMo_hearCarrier 92 = .ok (.getfield 56, 3) := by decide +kernel
theorem dMo_hearCarrier_95 : decode cMo_hearCarrier 95 = .ok (.iload_n 1, 1) := by decide +kernel
theorem dMo_hearCarrier_96 : decode cMo_hearCarrier 96 = .ok (.baload, 1) := by decide +kernel
theorem dMo_hearCarrier_97 : decode cMo_hearCarrier 97 = .ok (.ifCond .ne 17, 3) := by decide +kernel
theorem dMo_hearCarrier_100 : decode cMo_hearCarrier 100 = .ok (.aload_n 0, 1) := by decide +kernel
theorem dMo_hearCarrier_101 : decode cMo_hearCarrier 101 = .ok (.iload_n 1, 1) := by decide +kernel
theorem dMo_hearCarrier_102 : decode cMo_hearCarrier 102 = .ok (.iconst 4, 1) := by decide +kernel
theorem dMo_hearCarrier_103 : decode cMo_hearCarrier 103 = .ok (.iconst 0, 1) := by decide +kernel
theorem dMo_hearCarrier_104 : decode cMo_hearCarrier 104 = .ok (.aload_n 0, 1) := by decide +kernel
theorem dMo_hearCarrier_105 : decode cMo_hearCarrier 105 = .ok (.getfield 46, 3) := by decide +kernel
theorem dMo_hearCarrier_108 : decode cMo_hearCarrier 108 = .ok (.iload_n 1, 1) := by decide +kernel
theorem dMo_hearCarrier_109 : decode cMo_hearCarrier 109 = .ok (.iaload, 1) := by decide +kernel
theorem dMo_hearCarrier_110 : decode cMo_hearCarrier 110 = .ok (.iconst (-1), 1) := by decide +kernel
theorem dMo_hearCarrier_111 : decode cMo_hearCarrier 111 = .ok (.invokevirtual 103, 3) := by decide +kernel
theorem dMo_hearCarrier_114 : decode cMo_hearCarrier 114 = .ok (.return_, 1) := by decide +kernel
theorem dMo_hearLink_0 : decode cMo_hearLink 0 = .ok (.iload_n 2, 1) := by decide +kernel
theorem dMo_hearLink_1 : decode cMo_hearLink 1 = .ok (.iconst 1, 1) := by decide +kernel
theorem dMo_hearLink_2 : decode cMo_hearLink 2 = .ok (.if_icmp .ne 37, 3) := by decide +kernel
theorem dMo_hearLink_5 : decode cMo_hearLink 5 = .ok (.aload_n 0, 1) := by decide +kernel
theorem dMo_hearLink_6 : decode cMo_hearLink 6 = .ok (.getfield 37, 3) := by decide +kernel
theorem dMo_hearLink_9 : decode cMo_hearLink 9 = .ok (.iload_n 1, 1) := by decide +kernel
theorem dMo_hearLink_10 : decode cMo_hearLink 10 = .ok (.iaload, 1) := by decide +kernel
theorem dMo_hearLink_11 : decode cMo_hearLink 11 = .ok (.iconst 1, 1) := by decide +kernel
theorem dMo_hearLink_12 : decode cMo_hearLink 12 = .ok (.if_icmp .eq 15, 3) := by decide +kernel
theorem dMo_hearLink_15 : decode cMo_hearLink 15 = .ok (.aload_n 0, 1) := by decide +kernel
theorem dMo_hearLink_16 : decode cMo_hearLink 16 = .ok (.iload_n 1, 1) := by decide +kernel
theorem dMo_hearLink_17 : decode cMo_hearLink 17 = .ok (.invokevirtual 125, 3) := by decide +kernel
theorem dMo_hearLink_20 : decode cMo_hearLink 20 = .ok (.aload_n 0, 1) := by decide +kernel
theorem dMo_hearLink_21 : decode cMo_hearLink 21 = .ok (.getfield 37, 3) := by decide +kernel
theorem dMo_hearLink_24 : decode cMo_hearLink 24 = .ok (.iload_n 1, 1) := by decide +kernel
theorem dMo_hearLink_25 : decode cMo_hearLink 25 = .ok (.iconst 2, 1) := by decide +kernel
theorem dMo_hearLink_26 : decode cMo_hearLink 26 = .ok (.iastore, 1) := by decide +kernel
theorem dMo_hearLink_27 : decode cMo_hearLink 27 = .ok (.aload_n 0, 1) := by decide +kernel
theorem dMo_hearLink_28 : decode cMo_hearLink 28 = .ok (.iload_n 1, 1) := by decide +kernel
theorem dMo_hearLink_29 : decode cMo_hearLink 29 = .ok (.iconst 2, 1) := by decide +kernel
theorem dMo_hearLink_30 : decode cMo_hearLink 30 = .ok (.iconst 0, 1) := by decide +kernel
theorem dMo_hearLink_31 : decode cMo_hearLink 31 = .ok (.iconst 0, 1) := by decide +kernel
theorem dMo_hearLink_32 : decode cMo_hearLink 32 = .ok (.iconst (-1), 1) := by decide +kernel
theorem dMo_hearLink_33 : decode cMo_hearLink 33 = .ok (.invokevirtual 103, 3) := by decide +kernel
theorem dMo_hearLink_36 : decode cMo_hearLink 36 = .ok (.goto 43, 3) := by decide +kernel
theorem dMo_hearLink_39 : decode cMo_hearLink 39 = .ok (.aload_n 0, 1) := by decide +kernel
