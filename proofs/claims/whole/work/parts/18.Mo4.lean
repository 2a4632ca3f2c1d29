theorem dMo_channel_25 : decode cMo_channel 25 = .ok (.ireturn, 1) := by decide +kernel
theorem dMo_channel_26 : decode cMo_channel 26 = .ok (.iconst 3, 1) := by decide +kernel
theorem dMo_channel_27 : decode cMo_channel 27 = .ok (.iload_n 1, 1) := by decide +kernel
theorem dMo_channel_28 : decode cMo_channel 28 = .ok (.imul, 1) := by decide +kernel
theorem dMo_channel_29 : decode cMo_channel 29 = .ok (.iload_n 2, 1) := by decide +kernel
theorem dMo_channel_30 : decode cMo_channel 30 = .ok (.iadd, 1) := by decide +kernel
theorem dMo_channel_31 : decode cMo_channel 31 = .ok (.istore 4, 2) := by decide +kernel
theorem dMo_channel_33 : decode cMo_channel 33 = .ok (.iload_n 3, 1) := by decide +kernel
theorem dMo_channel_34 : decode cMo_channel 34 = .ok (.tableswitch 74 0 4 #[34, 42, 50, 58, 66], 34) := by decide +kernel
theorem dMo_channel_68 : decode cMo_channel 68 = .ok (.aload_n 0, 1) := by decide +kernel
theorem dMo_channel_69 : decode cMo_channel 69 = .ok (.getfield 77, 3) := by decide +kernel
theorem dMo_channel_72 : decode cMo_channel 72 = .ok (.iload 4, 2) := by decide +kernel
theorem dMo_channel_74 : decode cMo_channel 74 = .ok (.iaload, 1) := by decide +kernel
theorem dMo_channel_75 : decode cMo_channel 75 = .ok (.ireturn, 1) := by decide +kernel
theorem dMo_channel_76 : decode cMo_channel 76 = .ok (.aload_n 0, 1) := by decide +kernel
theorem dMo_channel_77 : decode cMo_channel 77 = .ok (.getfield 80, 3) := by decide +kernel
theorem dMo_channel_80 : decode cMo_channel 80 = .ok (.iload 4, 2) := by decide +kernel
theorem dMo_channel_82 : decode cMo_channel 82 = .ok (.iaload, 1) := by decide +kernel
theorem dMo_channel_83 : decode cMo_channel 83 = .ok (.ireturn, 1) := by decide +kernel
theorem dMo_channel_84 : decode cMo_channel 84 = .ok (.aload_n 0, 1) := by decide +kernel
theorem dMo_channel_85 : decode cMo_channel 85 = .ok (.getfield 83, 3) := by decide +kernel
theorem dMo_channel_88 : decode cMo_channel 88 = .ok (.iload 4, 2) := by decide +kernel
theorem dMo_channel_90 : decode cMo_channel 90 = .ok (.iaload, 1) := by decide +kernel
theorem dMo_channel_91 : decode cMo_channel 91 = .ok (.ireturn, 1) := by decide +kernel
theorem dMo_channel_92 : decode cMo_channel 92 = .ok (.aload_n 0, 1) := by decide +kernel
theorem dMo_channel_93 : decode cMo_channel 93 = .ok (.getfield 86, 3) := by decide +kernel
theorem dMo_channel_96 : decode cMo_channel 96 = .ok (.iload 4, 2) := by decide +kernel
theorem dMo_channel_98 : decode cMo_channel 98 = .ok (.iaload, 1) := by decide +kernel
theorem dMo_channel_99 : decode cMo_channel 99 = .ok (.ireturn, 1) := by decide +kernel
theorem dMo_channel_100 : decode cMo_channel 100 = .ok (.aload_n 0, 1) := by decide +kernel
theorem dMo_channel_101 : decode cMo_channel 101 = .ok (.getfield 89, 3) := by decide +kernel
theorem dMo_channel_104 : decode cMo_channel 104 = .ok (.iload 4, 2) := by decide +kernel
theorem dMo_channel_106 : decode cMo_channel 106 = .ok (.iaload, 1) := by decide +kernel
theorem dMo_channel_107 : decode cMo_channel 107 = .ok (.ireturn, 1) := by decide +kernel
theorem dMo_channel_108 : decode cMo_channel 108 = .ok (.iconst (-1), 1) := by decide +kernel
theorem dMo_channel_109 : decode cMo_channel 109 = .ok (.ireturn, 1) := by decide +kernel
theorem dMo_frame_0 : decode cMo_frame 0 = .ok (.aload_n 0, 1) := by decide +kernel
theorem dMo_frame_1 : decode cMo_frame 1 = .ok (.iload_n 1, 1) := by decide +kernel
theorem dMo_frame_2 : decode cMo_frame 2 = .ok (.invokestatic 144, 3) := by decide +kernel
theorem dMo_frame_5 : decode cMo_frame 5 = .ok (.ifCond .eq 7, 3) := by decide +kernel
theorem dMo_frame_8 : decode cMo_frame 8 = .ok (.iconst 0, 1) := by decide +kernel
theorem dMo_frame_9 : decode cMo_frame 9 = .ok (.goto 4, 3) := by decide +kernel
theorem dMo_frame_12 : decode cMo_frame 12 = .ok (.iconst 1, 1) := by decide +kernel
theorem dMo_frame_13 : decode cMo_frame 13 = .ok (.putfield 95, 3) := by decide +kernel
theorem dMo_frame_16 : decode cMo_frame 16 = .ok (.aload_n 0, 1) := by decide +kernel
theorem dMo_frame_17 : decode cMo_frame 17 = .ok (.getfield 95, 3) := by decide +kernel
theorem dMo_frame_20 : decode cMo_frame 20 = .ok (.ifCond .le 5, 3) := by decide +kernel
theorem dMo_frame_23 : decode cMo_frame 23 = .ok (.iconst 0, 1) := by decide +kernel
theorem dMo_frame_24 : decode cMo_frame 24 = .ok (.ireturn, 1) := by decide +kernel
theorem dMo_frame_25 : decode cMo_frame 25 = .ok (.iload_n 2, 1) := by decide +kernel
theorem dMo_frame_26 : decode cMo_frame 26 = .ok (.ifCond .lt 13, 3) := by decide +kernel
theorem dMo_frame_29 : decode cMo_frame 29 = .ok (.iload_n 2, 1) := by decide +kernel
theorem dMo_frame_30 : decode cMo_frame 30 = .ok (.aload_n 0, 1) := by decide +kernel
theorem dMo_frame_31 : decode cMo_frame 31 = .ok (.getfield 7, 3) := by decide +kernel
theorem dMo_frame_34 : decode cMo_frame 34 = .ok (.iload_n 1, 1) := by decide +kernel
theorem dMo_frame_35 : decode cMo_frame 35 = .ok (.iaload, 1) := by decide +kernel
theorem dMo_frame_36 : decode cMo_frame 36 = .ok (.if_icmp .lt 5, 3) := by decide +kernel
theorem dMo_frame_39 : decode cMo_frame 39 = .ok (.iconst (-1), 1) := by decide +kernel
theorem dMo_frame_40 : decode cMo_frame 40 = .ok (.ireturn, 1) := by decide +kernel
theorem dMo_frame_41 : decode cMo_frame 41 = .ok (.bipush 12, 2) := by decide +kernel
theorem dMo_frame_43 : decode cMo_frame 43 = .ok (.iload_n 1, 1) := by decide +kernel
theorem dMo_frame_44 : decode cMo_frame 44 = .ok (.imul, 1) := by decide +kernel
theorem dMo_frame_45 : decode cMo_frame 45 = .ok (.iload_n 2, 1) := by decide +kernel
theorem dMo_frame_46 : decode cMo_frame 46 = .ok (.iadd, 1) := by decide +kernel
theorem dMo_frame_47 : decode cMo_frame 47 = .ok (.istore 4, 2) := by decide +kernel
theorem dMo_frame_49 : decode cMo_frame 49 = .ok (.iload_n 3, 1) := by decide +kernel
theorem dMo_frame_50 : decode cMo_frame 50 = .ok (.tableswitch 110 0 7 #[46, 54, 62, 70, 78, 86, 94, 102], 46) := by decide +kernel
theorem dMo_frame_96 : decode cMo_frame 96 = .ok (.aload_n 0, 1) := by decide +kernel
theorem dMo_frame_97 : decode cMo_frame 97 = .ok (.getfield 13, 3) := by decide +kernel
theorem dMo_frame_100 : decode cMo_frame 100 = .ok (.iload 4, 2) := by decide +kernel
theorem dMo_frame_102 : decode cMo_frame 102 = .ok (.iaload, 1) := by decide +kernel
theorem dMo_frame_103 : decode cMo_frame 103 = .ok (.ireturn, 1) := by decide +kernel
theorem dMo_frame_104 : decode cMo_frame 104 = .ok (.aload_n 0, 1) := by decide +kernel
theorem dMo_frame_105 : decode cMo_frame 105 = .ok (.getfield 16, 3) := by decide +kernel
theorem dMo_frame_108 : decode cMo_frame 108 = .ok (.iload 4, 2) := by decide +kernel
theorem dMo_frame_110 : decode cMo_frame 110 = .ok (.iaload, 1) := by decide +kernel
theorem dMo_frame_111 : decode cMo_frame 111 = .ok (.ireturn, 1) := by decide +kernel
theorem dMo_frame_112 : decode cMo_frame 112 = .ok (.aload_n 0, 1) := by decide +kernel
theorem dMo_frame_113 : decode cMo_frame 113 = .ok (.getfield 19, 3) := by decide +kernel
theorem dMo_frame_116 : decode cMo_frame 116 = .ok (.iload 4, 2) := by decide +kernel
theorem dMo_frame_118 : decode cMo_frame 118 = .ok (.iaload, 1) := by decide +kernel
theorem dMo_frame_119 : decode cMo_frame 119 = .ok (.ireturn, 1) := by decide +kernel
theorem dMo_frame_120 : decode cMo_frame 120 = .ok (.aload_n 0, 1) := by decide +kernel
theorem dMo_frame_121 : decode cMo_frame 121 = .ok (.getfield 22, 3) := by decide +kernel
theorem dMo_frame_124 : decode cMo_frame 124 = .ok (.iload 4, 2) := by decide +kernel
theorem dMo_frame_126 : decode cMo_frame 126 = .ok (.iaload, 1) := by decide +kernel
theorem dMo_frame_127 : decode cMo_frame 127 = .ok (.ireturn, 1) := by decide +kernel
theorem dMo_frame_128 : decode cMo_frame 128 = .ok (.aload_n 0, 1) := by decide +kernel
theorem dMo_frame_129 : decode cMo_frame 129 = .ok (.getfield 25, 3) := by decide +kernel
theorem dMo_frame_132 : decode cMo_frame 132 = .ok (.iload 4, 2) := by decide +kernel
theorem dMo_frame_134 : decode cMo_frame 134 = .ok (.iaload, 1) := by decide +kernel
theorem dMo_frame_135 : decode cMo_frame 135 = .ok (.ireturn, 1) := by decide +kernel
theorem dMo_frame_136 : decode cMo_frame 136 = .ok (.aload_n 0, 1) := by decide +kernel
theorem dMo_frame_137 : decode cMo_frame 137 = .ok (.getfield 28, 3) := by decide +kernel
theorem dMo_frame_140 : decode cMo_frame 140 = .ok (.iload 4, 2) := by decide +kernel
theorem dMo_frame_142 : decode cMo_frame 142 = .ok (.iaload, 1) := by decide +kernel
theorem dMo_frame_143 : decode cMo_frame 143 = .ok (.ireturn, 1) := by decide +kernel
theorem dMo_frame_144 : decode cMo_frame 144 = .ok (.aload_n 0, 1) := by decide +kernel
theorem dMo_frame_145 : decode cMo_frame 145 = .ok (.getfield 31, 3) := by decide +kernel
theorem dMo_frame_148 : decode cMo_frame 148 = .ok (.iload 4, 2) := by decide +kernel
theorem dMo_frame_150 : decode cMo_frame 150 = .ok (.iaload, 1) := by decide +kernel
theorem dMo_frame_151 : decode cMo_frame 151 = .ok (.ireturn, 1) := by decide +kernel
theorem dMo_frame_152 : decode cMo_frame 152 = .ok (.aload_n 0, 1) := by decide +kernel
theorem dMo_frame_153 : decode cMo_frame 153 = .ok (.getfield 34, 3) := by decide +kernel
theorem dMo_frame_156 : decode cMo_frame 156 = .ok (.iload 4, 2) := by decide +kernel
theorem dMo_frame_158 : decode cMo_frame 158 = .ok (.iaload, 1) := by decide +kernel
theorem dMo_frame_159 : decode cMo_frame 159 = .ok (.ireturn, 1) := by decide +kernel
theorem dMo_frame_160 : decode cMo_frame 160 = .ok (.iconst (-1), 1) := by decide +kernel
theorem dMo_frame_161 : decode cMo_frame 161 = .ok (.ireturn, 1) := by decide +kernel
theorem dMo_peek_0 : decode cMo_peek 0 = .ok (.aload_n 0, 1) := by decide +kernel
theorem dMo_peek_1 : decode cMo_peek 1 = .ok (.iload_n 1, 1) := by decide +kernel
theorem dMo_peek_2 : decode cMo_peek 2 = .ok (.iload_n 2, 1) := by decide +kernel
theorem dMo_peek_3 : decode cMo_peek 3 = .ok (.invokestatic 164, 3) := by decide +kernel
theorem dMo_peek_6 : decode cMo_peek 6 = .ok (.ifCond .eq 7, 3) := by decide +kernel
theorem dMo_peek_9 : decode cMo_peek 9 = .ok (.iconst 0, 1) := by decide +kernel
theorem dMo_peek_10 : decode cMo_peek 10 = .ok (.goto 4, 3) := by decide +kernel
theorem dMo_peek_13 : decode cMo_peek 13 = .ok (.iconst 1, 1) := by decide +kernel
theorem dMo_peek_14 : decode cMo_peek 14 = .ok (.putfield 95, 3) := by decide +kernel
theorem dMo_peek_17 : decode cMo_peek 17 = .ok (.aload_n 0, 1) := by decide +kernel
theorem dMo_peek_18 : decode cMo_peek 18 = .ok (.getfield 95, 3) := by decide +kernel
theorem dMo_peek_21 : decode cMo_peek 21 = .ok (.ifCond .le 5, 3) := by decide +kernel
theorem dMo_peek_24 : decode cMo_peek 24 = .ok (.iconst 0, 1) := by decide +kernel
theorem dMo_peek_25 : decode cMo_peek 25 = .ok (.ireturn, 1) := by decide +kernel
theorem dMo_peek_26 : decode cMo_peek 26 = .ok (.iconst 3, 1) := by decide +kernel
theorem dMo_peek_27 : decode cMo_peek 27 = .ok (.iload_n 1, 1) := by decide +kernel
theorem dMo_peek_28 : decode cMo_peek 28 = .ok (.imul, 1) := by decide +kernel
theorem dMo_peek_29 : decode cMo_peek 29 = .ok (.iload_n 2, 1) := by decide +kernel
theorem dMo_peek_30 : decode cMo_peek 30 = .ok (.iadd, 1) := by decide +kernel
theorem dMo_peek_31 : decode cMo_peek 31 = .ok (.istore_n 3, 1) := by decide +kernel
theorem dMo_peek_32 : decode cMo_peek 32 = .ok (.aload_n 0, 1) := by decide +kernel
theorem dMo_peek_33 : decode cMo_peek 33 = .ok (.getfield 86, 3) := by decide +kernel
theorem dMo_peek_36 : decode cMo_peek 36 = .ok (.iload_n 3, 1) := by decide +kernel
theorem dMo_peek_37 : decode cMo_peek 37 = .ok (.iaload, 1) := by decide +kernel
theorem dMo_peek_38 : decode cMo_peek 38 = .ok (.aload_n 0, 1) := by decide +kernel
theorem dMo_peek_39 : decode cMo_peek 39 = .ok (.getfield 89, 3) := by decide +kernel
theorem dMo_peek_42 : decode cMo_peek 42 = .ok (.iload_n 3, 1) := by decide +kernel
theorem dMo_peek_43 : decode cMo_peek 43 = .ok (.iaload, 1) := by decide +kernel
theorem dMo_peek_44 : decode cMo_peek 44 = .ok (.if_icmp .ne 7, 3) := by decide +kernel
theorem dMo_peek_47 : decode cMo_peek 47 = .ok (.iconst (-1), 1) := by decide +kernel
theorem dMo_peek_48 : decode cMo_peek 48 = .ok (.goto 11, 3) := by decide +kernel
theorem dMo_peek_51 : decode cMo_peek 51 = .ok (.aload_n 0, 1) := by decide +kernel
theorem dMo_peek_52 : decode cMo_peek 52 = .ok (.getfield 92, 3) := by decide +kernel
theorem dMo_peek_55 : decode cMo_peek 55 = .ok (.iconst 2, 1) := by decide +kernel
theorem dMo_peek_56 : decode cMo_peek 56 = .ok (.iload_n 3, 1) := by decide +kernel
theorem dMo_peek_57 : decode cMo_peek 57 = .ok (.imul, 1) := by decide +kernel
theorem dMo_peek_58 : decode cMo_peek 58 = .ok (.iaload, 1) := by decide +kernel
theorem dMo_peek_59 : decode cMo_peek 59 = .ok (.ireturn, 1) := by decide +kernel
