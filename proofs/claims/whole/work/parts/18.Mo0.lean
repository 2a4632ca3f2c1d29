theorem dMo_init_0 : decode cMo_init 0 = .ok (.aload_n 0, 1) := by decide +kernel
theorem dMo_init_1 : decode cMo_init 1 = .ok (.invokespecial 1, 3) := by decide +kernel
theorem dMo_init_4 : decode cMo_init 4 = .ok (.aload_n 0, 1) := by decide +kernel
theorem dMo_init_5 : decode cMo_init 5 = .ok (.iconst 2, 1) := by decide +kernel
theorem dMo_init_6 : decode cMo_init 6 = .ok (.newarray .int, 2) := by decide +kernel
theorem dMo_init_8 : decode cMo_init 8 = .ok (.putfield 7, 3) := by decide +kernel
theorem dMo_init_11 : decode cMo_init 11 = .ok (.aload_n 0, 1) := by decide +kernel
theorem dMo_init_12 : decode cMo_init 12 = .ok (.bipush 24, 2) := by decide +kernel
theorem dMo_init_14 : decode cMo_init 14 = .ok (.newarray .int, 2) := by decide +kernel
theorem dMo_init_16 : decode cMo_init 16 = .ok (.putfield 13, 3) := by decide +kernel
theorem dMo_init_19 : decode cMo_init 19 = .ok (.aload_n 0, 1) := by decide +kernel
theorem dMo_init_20 : decode cMo_init 20 = .ok (.bipush 24, 2) := by decide +kernel
theorem dMo_init_22 : decode cMo_init 22 = .ok (.newarray .int, 2) := by decide +kernel
theorem dMo_init_24 : decode cMo_init 24 = .ok (.putfield 16, 3) := by decide +kernel
theorem dMo_init_27 : decode cMo_init 27 = .ok (.aload_n 0, 1) := by decide +kernel
theorem dMo_init_28 : decode cMo_init 28 = .ok (.bipush 24, 2) := by decide +kernel
theorem dMo_init_30 : decode cMo_init 30 = .ok (.newarray .int, 2) := by decide +kernel
theorem dMo_init_32 : decode cMo_init 32 = .ok (.putfield 19, 3) := by decide +kernel
theorem dMo_init_35 : decode cMo_init 35 = .ok (.aload_n 0, 1) := by decide +kernel
theorem dMo_init_36 : decode cMo_init 36 = .ok (.bipush 24, 2) := by decide +kernel
theorem dMo_init_38 : decode cMo_init 38 = .ok (.newarray .int, 2) := by decide +kernel
theorem dMo_init_40 : decode cMo_init 40 = .ok (.putfield 22, 3) := by decide +kernel
theorem dMo_init_43 : decode cMo_init 43 = .ok (.aload_n 0, 1) := by decide +kernel
theorem dMo_init_44 : decode cMo_init 44 = .ok (.bipush 24, 2) := by decide +kernel
theorem dMo_init_46 : decode cMo_init 46 = .ok (.newarray .int, 2) := by decide +kernel
theorem dMo_init_48 : decode cMo_init 48 = .ok (.putfield 25, 3) := by decide +kernel
theorem dMo_init_51 : decode cMo_init 51 = .ok (.aload_n 0, 1) := by decide +kernel
theorem dMo_init_52 : decode cMo_init 52 = .ok (.bipush 24, 2) := by decide +kernel
theorem dMo_init_54 : decode cMo_init 54 = .ok (.newarray .int, 2) := by decide +kernel
theorem dMo_init_56 : decode cMo_init 56 = .ok (.putfield 28, 3) := by decide +kernel
theorem dMo_init_59 : decode cMo_init 59 = .ok (.aload_n 0, 1) := by decide +kernel
theorem dMo_init_60 : decode cMo_init 60 = .ok (.bipush 24, 2) := by decide +kernel
theorem dMo_init_62 : decode cMo_init 62 = .ok (.newarray .int, 2) := by decide +kernel
theorem dMo_init_64 : decode cMo_init 64 = .ok (.putfield 31, 3) := by decide +kernel
theorem dMo_init_67 : decode cMo_init 67 = .ok (.aload_n 0, 1) := by decide +kernel
theorem dMo_init_68 : decode cMo_init 68 = .ok (.bipush 24, 2) := by decide +kernel
theorem dMo_init_70 : decode cMo_init 70 = .ok (.newarray .int, 2) := by decide +kernel
theorem dMo_init_72 : decode cMo_init 72 = .ok (.putfield 34, 3) := by decide +kernel
theorem dMo_init_75 : decode cMo_init 75 = .ok (.aload_n 0, 1) := by decide +kernel
theorem dMo_init_76 : decode cMo_init 76 = .ok (.iconst 2, 1) := by decide +kernel
theorem dMo_init_77 : decode cMo_init 77 = .ok (.newarray .int, 2) := by decide +kernel
theorem dMo_init_79 : decode cMo_init 79 = .ok (.putfield 37, 3) := by decide +kernel
theorem dMo_init_82 : decode cMo_init 82 = .ok (.aload_n 0, 1) := by decide +kernel
theorem dMo_init_83 : decode cMo_init 83 = .ok (.iconst 2, 1) := by decide +kernel
theorem dMo_init_84 : decode cMo_init 84 = .ok (.newarray .int, 2) := by decide +kernel
theorem dMo_init_86 : decode cMo_init 86 = .ok (.putfield 40, 3) := by decide +kernel
theorem dMo_init_89 : decode cMo_init 89 = .ok (.aload_n 0, 1) := by decide +kernel
theorem dMo_init_90 : decode cMo_init 90 = .ok (.iconst 2, 1) := by decide +kernel
theorem dMo_init_91 : decode cMo_init 91 = .ok (.newarray .int, 2) := by decide +kernel
theorem dMo_init_93 : decode cMo_init 93 = .ok (.putfield 43, 3) := by decide +kernel
theorem dMo_init_96 : decode cMo_init 96 = .ok (.aload_n 0, 1) := by decide +kernel
theorem dMo_init_97 : decode cMo_init 97 = .ok (.iconst 2, 1) := by decide +kernel
theorem dMo_init_98 : decode cMo_init 98 = .ok (.newarray .int, 2) := by decide +kernel
theorem dMo_init_100 : decode cMo_init 100 = .ok (.putfield 46, 3) := by decide +kernel
theorem dMo_init_103 : decode cMo_init 103 = .ok (.aload_n 0, 1) := by decide +kernel
theorem dMo_init_104 : decode cMo_init 104 = .ok (.iconst 2, 1) := by decide +kernel
theorem dMo_init_105 : decode cMo_init 105 = .ok (.newarray .int, 2) := by decide +kernel
theorem dMo_init_107 : decode cMo_init 107 = .ok (.putfield 49, 3) := by decide +kernel
theorem dMo_init_110 : decode cMo_init 110 = .ok (.aload_n 0, 1) := by decide +kernel
theorem dMo_init_111 : decode cMo_init 111 = .ok (.iconst 2, 1) := by decide +kernel
theorem dMo_init_112 : decode cMo_init 112 = .ok (.newarray .boolean, 2) := by decide +kernel
theorem dMo_init_114 : decode cMo_init 114 = .ok (.putfield 52, 3) := by decide +kernel
theorem dMo_init_117 : decode cMo_init 117 = .ok (.aload_n 0, 1) := by decide +kernel
theorem dMo_init_118 : decode cMo_init 118 = .ok (.iconst 2, 1) := by decide +kernel
theorem dMo_init_119 : decode cMo_init 119 = .ok (.newarray .boolean, 2) := by decide +kernel
theorem dMo_init_121 : decode cMo_init 121 = .ok (.putfield 56, 3) := by decide +kernel
theorem dMo_init_124 : decode cMo_init 124 = .ok (.aload_n 0, 1) := by decide +kernel
theorem dMo_init_125 : decode cMo_init 125 = .ok (.iconst 2, 1) := by decide +kernel
theorem dMo_init_126 : decode cMo_init 126 = .ok (.newarray .int, 2) := by decide +kernel
theorem dMo_init_128 : decode cMo_init 128 = .ok (.putfield 59, 3) := by decide +kernel
theorem dMo_init_131 : decode cMo_init 131 = .ok (.aload_n 0, 1) := by decide +kernel
theorem dMo_init_132 : decode cMo_init 132 = .ok (.bipush 32, 2) := by decide +kernel
theorem dMo_init_134 : decode cMo_init 134 = .ok (.newarray .int, 2) := by decide +kernel
theorem dMo_init_136 : decode cMo_init 136 = .ok (.putfield 62, 3) := by decide +kernel
theorem dMo_init_139 : decode cMo_init 139 = .ok (.aload_n 0, 1) := by decide +kernel
theorem dMo_init_140 : decode cMo_init 140 = .ok (.bipush 32, 2) := by decide +kernel
theorem dMo_init_142 : decode cMo_init 142 = .ok (.newarray .int, 2) := by decide +kernel
theorem dMo_init_144 : decode cMo_init 144 = .ok (.putfield 65, 3) := by decide +kernel
theorem dMo_init_147 : decode cMo_init 147 = .ok (.aload_n 0, 1) := by decide +kernel
theorem dMo_init_148 : decode cMo_init 148 = .ok (.bipush 32, 2) := by decide +kernel
theorem dMo_init_150 : decode cMo_init 150 = .ok (.newarray .int, 2) := by decide +kernel
theorem dMo_init_152 : decode cMo_init 152 = .ok (.putfield 68, 3) := by decide +kernel
theorem dMo_init_155 : decode cMo_init 155 = .ok (.aload_n 0, 1) := by decide +kernel
theorem dMo_init_156 : decode cMo_init 156 = .ok (.bipush 32, 2) := by decide +kernel
theorem dMo_init_158 : decode cMo_init 158 = .ok (.newarray .int, 2) := by decide +kernel
theorem dMo_init_160 : decode cMo_init 160 = .ok (.putfield 71, 3) := by decide +kernel
theorem dMo_init_163 : decode cMo_init 163 = .ok (.aload_n 0, 1) := by decide +kernel
theorem dMo_init_164 : decode cMo_init 164 = .ok (.bipush 32, 2) := by decide +kernel
theorem dMo_init_166 : decode cMo_init 166 = .ok (.newarray .int, 2) := by decide +kernel
theorem dMo_init_168 : decode cMo_init 168 = .ok (.putfield 74, 3) := by decide +kernel
theorem dMo_init_171 : decode cMo_init 171 = .ok (.aload_n 0, 1) := by decide +kernel
theorem dMo_init_172 : decode cMo_init 172 = .ok (.bipush 6, 2) := by decide +kernel
theorem dMo_init_174 : decode cMo_init 174 = .ok (.newarray .int, 2) := by decide +kernel
theorem dMo_init_176 : decode cMo_init 176 = .ok (.putfield 77, 3) := by decide +kernel
theorem dMo_init_179 : decode cMo_init 179 = .ok (.aload_n 0, 1) := by decide +kernel
theorem dMo_init_180 : decode cMo_init 180 = .ok (.bipush 6, 2) := by decide +kernel
theorem dMo_init_182 : decode cMo_init 182 = .ok (.newarray .int, 2) := by decide +kernel
theorem dMo_init_184 : decode cMo_init 184 = .ok (.putfield 80, 3) := by decide +kernel
theorem dMo_init_187 : decode cMo_init 187 = .ok (.aload_n 0, 1) := by decide +kernel
theorem dMo_init_188 : decode cMo_init 188 = .ok (.bipush 6, 2) := by decide +kernel
theorem dMo_init_190 : decode cMo_init 190 = .ok (.newarray .int, 2) := by decide +kernel
theorem dMo_init_192 : decode cMo_init 192 = .ok (.putfield 83, 3) := by decide +kernel
theorem dMo_init_195 : decode cMo_init 195 = .ok (.aload_n 0, 1) := by decide +kernel
theorem dMo_init_196 : decode cMo_init 196 = .ok (.bipush 6, 2) := by decide +kernel
theorem dMo_init_198 : decode cMo_init 198 = .ok (.newarray .int, 2) := by decide +kernel
theorem dMo_init_200 : decode cMo_init 200 = .ok (.putfield 86, 3) := by decide +kernel
theorem dMo_init_203 : decode cMo_init 203 = .ok (.aload_n 0, 1) := by decide +kernel
theorem dMo_init_204 : decode cMo_init 204 = .ok (.bipush 6, 2) := by decide +kernel
theorem dMo_init_206 : decode cMo_init 206 = .ok (.newarray .int, 2) := by decide +kernel
theorem dMo_init_208 : decode cMo_init 208 = .ok (.putfield 89, 3) := by decide +kernel
theorem dMo_init_211 : decode cMo_init 211 = .ok (.aload_n 0, 1) := by decide +kernel
theorem dMo_init_212 : decode cMo_init 212 = .ok (.bipush 12, 2) := by decide +kernel
theorem dMo_init_214 : decode cMo_init 214 = .ok (.newarray .int, 2) := by decide +kernel
theorem dMo_init_216 : decode cMo_init 216 = .ok (.putfield 92, 3) := by decide +kernel
theorem dMo_init_219 : decode cMo_init 219 = .ok (.return_, 1) := by decide +kernel
theorem dMo_thrown_0 : decode cMo_thrown 0 = .ok (.aload_n 0, 1) := by decide +kernel
theorem dMo_thrown_1 : decode cMo_thrown 1 = .ok (.getfield 95, 3) := by decide +kernel
theorem dMo_thrown_4 : decode cMo_thrown 4 = .ok (.ireturn, 1) := by decide +kernel
theorem dMo_less_0 : decode cMo_less 0 = .ok (.iload_n 0, 1) := by decide +kernel
theorem dMo_less_1 : decode cMo_less 1 = .ok (.iload_n 1, 1) := by decide +kernel
theorem dMo_less_2 : decode cMo_less 2 = .ok (.isub, 1) := by decide +kernel
theorem dMo_less_3 : decode cMo_less 3 = .ok (.bipush 7, 2) := by decide +kernel
theorem dMo_less_5 : decode cMo_less 5 = .ok (.iand, 1) := by decide +kernel
theorem dMo_less_6 : decode cMo_less 6 = .ok (.ireturn, 1) := by decide +kernel
theorem dMo_grown_0 : decode cMo_grown 0 = .ok (.iload_n 0, 1) := by decide +kernel
theorem dMo_grown_1 : decode cMo_grown 1 = .ok (.iconst 1, 1) := by decide +kernel
theorem dMo_grown_2 : decode cMo_grown 2 = .ok (.iadd, 1) := by decide +kernel
theorem dMo_grown_3 : decode cMo_grown 3 = .ok (.bipush 7, 2) := by decide +kernel
theorem dMo_grown_5 : decode cMo_grown 5 = .ok (.iand, 1) := by decide +kernel
theorem dMo_grown_6 : decode cMo_grown 6 = .ok (.ireturn, 1) := by decide +kernel
theorem dMo_transmit_0 : decode cMo_transmit 0 = .ok (.iconst 1, 1) := by decide +kernel
theorem dMo_transmit_1 : decode cMo_transmit 1 = .ok (.iload_n 1, 1) := by decide +kernel
theorem dMo_transmit_2 : decode cMo_transmit 2 = .ok (.isub, 1) := by decide +kernel
theorem dMo_transmit_3 : decode cMo_transmit 3 = .ok (.istore 6, 2) := by decide +kernel
theorem dMo_transmit_5 : decode cMo_transmit 5 = .ok (.aload_n 0, 1) := by decide +kernel
theorem dMo_transmit_6 : decode cMo_transmit 6 = .ok (.getfield 7, 3) := by decide +kernel
theorem dMo_transmit_9 : decode cMo_transmit 9 = .ok (.iload 6, 2) := by decide +kernel
theorem dMo_transmit_11 : decode cMo_transmit 11 = .ok (.iaload, 1) := by decide +kernel
theorem dMo_transmit_12 : decode cMo_transmit 12 = .ok (.bipush 12, 2) := by decide +kernel
theorem dMo_transmit_14 : decode cMo_transmit 14 = .ok (.if_icmp .ne 4, 3) := by decide +kernel
theorem dMo_transmit_17 : decode cMo_transmit 17 = .ok (.return_, 1) := by decide +kernel
theorem dMo_transmit_18 : decode cMo_transmit 18 = .ok (.bipush 12, 2) := by decide +kernel
theorem dMo_transmit_20 : decode cMo_transmit 20 = .ok (.iload 6, 2) := by decide +kernel
theorem dMo_transmit_22 : decode cMo_transmit 22 = .ok (.imul, 1) := by decide +kernel
theorem dMo_transmit_23 : decode cMo_transmit 23 = .ok (.aload_n 0, 1) := by decide +kernel
theorem dMo_transmit_24 : decode cMo_transmit 24 = .ok (.getfield 7, 3) := by decide +kernel
theorem dMo_transmit_27 : decode cMo_transmit 27 = .ok (.iload 6, 2) := by decide +kernel
theorem dMo_transmit_29 : decode cMo_transmit 29 = .ok (.iaload, 1) := by decide +kernel
theorem dMo_transmit_30 : decode cMo_transmit 30 = .ok (.iadd, 1) := by decide +kernel
theorem dMo_transmit_31 : decode cMo_transmit 31 = .ok (.istore 7, 2) := by decide +kernel
theorem dMo_transmit_33 : decode cMo_transmit 33 = .ok (.aload_n 0, 1) := by decide +kernel
theorem dMo_transmit_34 : decode cMo_transmit 34 = .ok (.getfield 7, 3) := by decide +kernel
theorem dMo_transmit_37 : decode cMo_transmit 37 = .ok (.iload 6, 2) := by decide +kernel
theorem dMo_transmit_39 : decode cMo_transmit 39 = .ok (.aload_n 0, 1) := by decide +kernel
theorem dMo_transmit_40 : decode cMo_transmit 40 = .ok (.getfield 7, 3) := by decide +kernel
theorem dMo_transmit_43 : decode cMo_transmit 43 = .ok (.iload 6, 2) := by decide +kernel
theorem dMo_transmit_45 : decode cMo_transmit 45 = .ok (.iaload, 1) := by decide +kernel
theorem dMo_transmit_46 : decode cMo_transmit 46 = .ok (.iconst 1, 1) := by decide +kernel
theorem dMo_transmit_47 : decode cMo_transmit 47 = .ok (.iadd, 1) := by decide +kernel
theorem dMo_transmit_48 : decode cMo_transmit 48 = .ok (.iastore, 1) := by decide +kernel
theorem dMo_transmit_49 : decode cMo_transmit 49 = .ok (.aload_n 0, 1) := by decide +kernel
theorem dMo_transmit_50 : decode cMo_transmit 50 = .ok (.getfield 13, 3) := by decide +kernel
theorem dMo_transmit_53 : decode cMo_transmit 53 = .ok (.iload 7, 2) := by decide +kernel
theorem dMo_transmit_55 : decode cMo_transmit 55 = .ok (.iload_n 2, 1) := by decide +kernel
theorem dMo_transmit_56 : decode cMo_transmit 56 = .ok (.iastore, 1) := by decide +kernel
theorem dMo_transmit_57 : decode cMo_transmit 57 = .ok (.aload_n 0, 1) := by decide +kernel
theorem dMo_transmit_58 : decode cMo_transmit 58 = .ok (.getfield 16, 3) := by decide +kernel
theorem dMo_transmit_61 : decode cMo_transmit 61 = .ok (.iload 7, 2) := by decide +kernel
theorem dMo_transmit_63 : decode cMo_transmit 63 = .ok (.iload_n 3, 1) := by decide +kernel
theorem dMo_transmit_64 : decode cMo_transmit 64 = .ok (.iastore, 1) := by decide +kernel
theorem dMo_transmit_65 : decode cMo_transmit 65 = .ok (.aload_n 0, 1) := by decide +kernel
theorem dMo_transmit_66 : decode cMo_transmit 66 = .ok (.getfield 19, 3) := by decide +kernel
theorem dMo_transmit_69 : decode cMo_transmit 69 = .ok (.iload 7, 2) := by decide +kernel
theorem dMo_transmit_71 : decode cMo_transmit 71 = .ok (.iload 4, 2) := by decide +kernel
theorem dMo_transmit_73 : decode cMo_transmit 73 = .ok (.iastore, 1) := by decide +kernel
theorem dMo_transmit_74 : decode cMo_transmit 74 = .ok (.aload_n 0, 1) := by decide +kernel
theorem dMo_transmit_75 : decode cMo_transmit 75 = .ok (.getfield 22, 3) := by decide +kernel
theorem dMo_transmit_78 : decode cMo_transmit 78 = .ok (.iload 7, 2) := by decide +kernel
theorem dMo_transmit_80 : decode cMo_transmit 80 = .ok (.iload 5, 2) := by decide +kernel
theorem dMo_transmit_82 : decode cMo_transmit 82 = .ok (.ifCond .ge 7, 3) := by decide +kernel
theorem dMo_transmit_85 : decode cMo_transmit 85 = .ok (.iconst 0, 1) := by decide +kernel
theorem dMo_transmit_86 : decode cMo_transmit 86 = .ok (.goto 10, 3) := by decide +kernel
theorem dMo_transmit_89 : decode cMo_transmit 89 = .ok (.aload_n 0, 1) := by decide +kernel
theorem dMo_transmit_90 : decode cMo_transmit 90 = .ok (.getfield 62, 3) := by decide +kernel
theorem dMo_transmit_93 : decode cMo_transmit 93 = .ok (.iload 5, 2) := by decide +kernel
theorem dMo_transmit_95 : decode cMo_transmit 95 = .ok (.iaload, 1) := by decide +kernel
theorem dMo_transmit_96 : decode cMo_transmit 96 = .ok (.iastore, 1) := by decide +kernel
theorem dMo_transmit_97 : decode cMo_transmit 97 = .ok (.aload_n 0, 1) := by decide +kernel
theorem dMo_transmit_98 : decode cMo_transmit 98 = .ok (.getfield 25, 3) := by decide +kernel
theorem dMo_transmit_101 : decode cMo_transmit 101 = .ok (.iload 7, 2) := by decide +kernel
theorem dMo_transmit_103 : decode cMo_transmit 103 = .ok (.iload 5, 2) := by decide +kernel
theorem dMo_transmit_105 : decode cMo_transmit 105 = .ok (.ifCond .ge 7, 3) := by decide +kernel
theorem dMo_transmit_108 : decode cMo_transmit 108 = .ok (.iconst 0, 1) := by decide +kernel
theorem dMo_transmit_109 : decode cMo_transmit 109 = .ok (.goto 10, 3) := by decide +kernel
theorem dMo_transmit_112 : decode cMo_transmit 112 = .ok (.aload_n 0, 1) := by decide +kernel
theorem dMo_transmit_113 : decode cMo_transmit 113 = .ok (.getfield 65, 3) := by decide +kernel
theorem dMo_transmit_116 : decode cMo_transmit 116 = .ok (.iload 5, 2) := by decide +kernel
theorem dMo_transmit_118 : decode cMo_transmit 118 = .ok (.iaload, 1) := by decide +kernel
theorem dMo_transmit_119 : decode cMo_transmit 119 = .ok (.iastore, 1) := by decide +kernel
theorem dMo_transmit_120 : decode cMo_transmit 120 = .ok (.aload_n 0, 1) := by decide +kernel
theorem dMo_transmit_121 : decode cMo_transmit 121 = .ok (.getfield 28, 3) := by decide +kernel
theorem dMo_transmit_124 : decode cMo_transmit 124 = .ok (.iload 7, 2) := by decide +kernel
theorem dMo_transmit_126 : decode cMo_transmit 126 = .ok (.iload 5, 2) := by decide +kernel
theorem dMo_transmit_128 : decode cMo_transmit 128 = .ok (.ifCond .ge 7, 3) := by decide +kernel
theorem dMo_transmit_131 : decode cMo_transmit 131 = .ok (.iconst 0, 1) := by decide +kernel
theorem dMo_transmit_132 : decode cMo_transmit 132 = .ok (.goto 10, 3) := by decide +kernel
theorem dMo_transmit_135 : decode cMo_transmit 135 = .ok (.aload_n 0, 1) := by decide +kernel
theorem dMo_transmit_136 : decode cMo_transmit 136 = .ok (.getfield 68, 3) := by decide +kernel
theorem dMo_transmit_139 : decode cMo_transmit 139 = .ok (.iload 5, 2) := by decide +kernel
theorem dMo_transmit_141 : decode cMo_transmit 141 = .ok (.iaload, 1) := by decide +kernel
theorem dMo_transmit_142 : decode cMo_transmit 142 = .ok (.iastore, 1) := by decide +kernel
theorem dMo_transmit_143 : decode cMo_transmit 143 = .ok (.aload_n 0, 1) := by decide +kernel
theorem dMo_transmit_144 : decode cMo_transmit 144 = .ok (.getfield 31, 3) := by decide +kernel
theorem dMo_transmit_147 : decode cMo_transmit 147 = .ok (.iload 7, 2) := by decide +kernel
theorem dMo_transmit_149 : decode cMo_transmit 149 = .ok (.iload 5, 2) := by decide +kernel
theorem dMo_transmit_151 : decode cMo_transmit 151 = .ok (.ifCond .ge 7, 3) := by decide +kernel
theorem dMo_transmit_154 : decode cMo_transmit 154 = .ok (.iconst 0, 1) := by decide +kernel
theorem dMo_transmit_155 : decode cMo_transmit 155 = .ok (.goto 10, 3) := by decide +kernel
theorem dMo_transmit_158 : decode cMo_transmit 158 = .ok (.aload_n 0, 1) := by decide +kernel
theorem dMo_transmit_159 : decode cMo_transmit 159 = .ok (.getfield 71, 3) := by decide +kernel
theorem dMo_transmit_162 : decode cMo_transmit 162 = .ok (.iload 5, 2) := by decide +kernel
theorem dMo_transmit_164 : decode cMo_transmit 164 = .ok (.iaload, 1) := by decide +kernel
theorem dMo_transmit_165 : decode cMo_transmit 165 = .ok (.iastore, 1) := by decide +kernel
theorem dMo_transmit_166 : decode cMo_transmit 166 = .ok (.aload_n 0, 1) := by decide +kernel
theorem dMo_transmit_167 : decode cMo_transmit 167 = .ok (.getfield 34, 3) := by decide +kernel
theorem dMo_transmit_170 : decode cMo_transmit 170 = .ok (.iload 7, 2) := by decide +kernel
theorem dMo_transmit_172 : decode cMo_transmit 172 = .ok (.iload 5, 2) := by decide +kernel
theorem dMo_transmit_174 : decode cMo_transmit 174 = .ok (.ifCond .ge 7, 3) := by decide +kernel
theorem dMo_transmit_177 : decode cMo_transmit 177 = .ok (.iconst 0, 1) := by decide +kernel
theorem dMo_transmit_178 : decode cMo_transmit 178 = .ok (.goto 10, 3) := by decide +kernel
theorem dMo_transmit_181 : decode cMo_transmit 181 = .ok (.aload_n 0, 1) := by decide +kernel
theorem dMo_transmit_182 : decode cMo_transmit 182 = .ok (.getfield 74, 3) := by decide +kernel
theorem dMo_transmit_185 : decode cMo_transmit 185 = .ok (.iload 5, 2) := by decide +kernel
theorem dMo_transmit_187 : decode cMo_transmit 187 = .ok (.iaload, 1) := by decide +kernel
theorem dMo_transmit_188 : decode cMo_transmit 188 = .ok (.iastore, 1) := by decide +kernel
theorem dMo_transmit_189 : decode cMo_transmit 189 = .ok (.return_, 1) := by decide +kernel
theorem dMo_unconfirmed_0 : decode cMo_unconfirmed 0 = .ok (.aload_n 0, 1) := by decide +kernel
theorem dMo_unconfirmed_1 : decode cMo_unconfirmed 1 = .ok (.getfield 40, 3) := by decide +kernel
theorem dMo_unconfirmed_4 : decode cMo_unconfirmed 4 = .ok (.iload_n 1, 1) := by decide +kernel
theorem dMo_unconfirmed_5 : decode cMo_unconfirmed 5 = .ok (.iaload, 1) := by decide +kernel
theorem dMo_unconfirmed_6 : decode cMo_unconfirmed 6 = .ok (.aload_n 0, 1) := by decide +kernel
theorem dMo_unconfirmed_7 : decode cMo_unconfirmed 7 = .ok (.getfield 43, 3) := by decide +kernel
theorem dMo_unconfirmed_10 : decode cMo_unconfirmed 10 = .ok (.iload_n 1, 1) := by decide +kernel
theorem dMo_unconfirmed_11 : decode cMo_unconfirmed 11 = .ok (.iaload, 1) := by decide +kernel
theorem dMo_unconfirmed_12 : decode cMo_unconfirmed 12 = .ok (.invokestatic 99, 3) := by decide +kernel
theorem dMo_unconfirmed_15 : decode cMo_unconfirmed 15 = .ok (.ireturn, 1) := by decide +kernel
theorem dMo_carry_0 : decode cMo_carry 0 = .ok (.aload_n 0, 1) := by decide +kernel
theorem dMo_carry_1 : decode cMo_carry 1 = .ok (.iload_n 1, 1) := by decide +kernel
theorem dMo_carry_2 : decode cMo_carry 2 = .ok (.iconst 3, 1) := by decide +kernel
theorem dMo_carry_3 : decode cMo_carry 3 = .ok (.aload_n 0, 1) := by decide +kernel
theorem dMo_carry_4 : decode cMo_carry 4 = .ok (.getfield 43, 3) := by decide +kernel
theorem dMo_carry_7 : decode cMo_carry 7 = .ok (.iload_n 1, 1) := by decide +kernel
theorem dMo_carry_8 : decode cMo_carry 8 = .ok (.iaload, 1) := by decide +kernel
theorem dMo_carry_9 : decode cMo_carry 9 = .ok (.iload_n 2, 1) := by decide +kernel
theorem dMo_carry_10 : decode cMo_carry 10 = .ok (.iadd, 1) := by decide +kernel
theorem dMo_carry_11 : decode cMo_carry 11 = .ok (.bipush 7, 2) := by decide +kernel
theorem dMo_carry_13 : decode cMo_carry 13 = .ok (.iand, 1) := by decide +kernel
theorem dMo_carry_14 : decode cMo_carry 14 = .ok (.aload_n 0, 1) := by decide +kernel
theorem dMo_carry_15 : decode cMo_carry 15 = .ok (.getfield 46, 3) := by decide +kernel
theorem dMo_carry_18 : decode cMo_carry 18 = .ok (.iload_n 1, 1) := by decide +kernel
theorem dMo_carry_19 : decode cMo_carry 19 = .ok (.iaload, 1) := by decide +kernel
theorem dMo_carry_20 : decode cMo_carry 20 = .ok (.bipush 16, 2) := by decide +kernel
theorem dMo_carry_22 : decode cMo_carry 22 = .ok (.iload_n 1, 1) := by decide +kernel
theorem dMo_carry_23 : decode cMo_carry 23 = .ok (.imul, 1) := by decide +kernel
theorem dMo_carry_24 : decode cMo_carry 24 = .ok (.iload_n 2, 1) := by decide +kernel
theorem dMo_carry_25 : decode cMo_carry 25 = .ok (.iadd, 1) := by decide +kernel
theorem dMo_carry_26 : decode cMo_carry 26 = .ok (.invokevirtual 103, 3) := by decide +kernel
theorem dMo_carry_29 : decode cMo_carry 29 = .ok (.aload_n 0, 1) := by decide +kernel
theorem dMo_carry_30 : decode cMo_carry 30 = .ok (.getfield 56, 3) := by decide +kernel
theorem dMo_carry_33 : decode cMo_carry 33 = .ok (.iload_n 1, 1) := by decide +kernel
theorem dMo_carry_34 : decode cMo_carry 34 = .ok (.iconst 1, 1) := by decide +kernel
theorem dMo_carry_35 : decode cMo_carry 35 = .ok (.bastore, 1) := by decide +kernel
theorem dMo_carry_36 : decode cMo_carry 36 = .ok (.return_, 1) := by decide +kernel
theorem dMo_pump_0 : decode cMo_pump 0 = .ok (.aload_n 0, 1) := by decide +kernel
theorem dMo_pump_1 : decode cMo_pump 1 = .ok (.getfield 37, 3) := by decide +kernel
theorem dMo_pump_4 : decode cMo_pump 4 = .ok (.iload_n 1, 1) := by decide +kernel
theorem dMo_pump_5 : decode cMo_pump 5 = .ok (.iaload, 1) := by decide +kernel
theorem dMo_pump_6 : decode cMo_pump 6 = .ok (.iconst 2, 1) := by decide +kernel
theorem dMo_pump_7 : decode cMo_pump 7 = .ok (.if_icmp .ne 54, 3) := by decide +kernel
theorem dMo_pump_10 : decode cMo_pump 10 = .ok (.aload_n 0, 1) := by decide +kernel
theorem dMo_pump_11 : decode cMo_pump 11 = .ok (.getfield 59, 3) := by decide +kernel
theorem dMo_pump_14 : decode cMo_pump 14 = .ok (.iload_n 1, 1) := by decide +kernel
theorem dMo_pump_15 : decode cMo_pump 15 = .ok (.iaload, 1) := by decide +kernel
theorem dMo_pump_16 : decode cMo_pump 16 = .ok (.aload_n 0, 1) := by decide +kernel
theorem dMo_pump_17 : decode cMo_pump 17 = .ok (.iload_n 1, 1) := by decide +kernel
theorem dMo_pump_18 : decode cMo_pump 18 = .ok (.invokevirtual 107, 3) := by decide +kernel
theorem dMo_pump_21 : decode cMo_pump 21 = .ok (.if_icmp .le 40, 3) := by decide +kernel
theorem dMo_pump_24 : decode cMo_pump 24 = .ok (.aload_n 0, 1) := by decide +kernel
theorem dMo_pump_25 : decode cMo_pump 25 = .ok (.iload_n 1, 1) := by decide +kernel
theorem dMo_pump_26 : decode cMo_pump 26 = .ok (.invokevirtual 107, 3) := by decide +kernel
theorem dMo_pump_29 : decode cMo_pump 29 = .ok (.iconst 3, 1) := by decide +kernel
theorem dMo_pump_30 : decode cMo_pump 30 = .ok (.if_icmp .ge 31, 3) := by decide +kernel
theorem dMo_pump_33 : decode cMo_pump 33 = .ok (.aload_n 0, 1) := by decide +kernel
theorem dMo_pump_34 : decode cMo_pump 34 = .ok (.iload_n 1, 1) := by decide +kernel
theorem dMo_pump_35 : decode cMo_pump 35 = .ok (.aload_n 0, 1) := by decide +kernel
theorem dMo_pump_36 : decode cMo_pump 36 = .ok (.iload_n 1, 1) := by decide +kernel
theorem dMo_pump_37 : decode cMo_pump 37 = .ok (.invokevirtual 107, 3) := by decide +kernel
theorem dMo_pump_40 : decode cMo_pump 40 = .ok (.invokevirtual 111, 3) := by decide +kernel
theorem dMo_pump_43 : decode cMo_pump 43 = .ok (.aload_n 0, 1) := by decide +kernel
theorem dMo_pump_44 : decode cMo_pump 44 = .ok (.getfield 40, 3) := by decide +kernel
theorem dMo_pump_47 : decode cMo_pump 47 = .ok (.iload_n 1, 1) := by decide +kernel
theorem dMo_pump_48 : decode cMo_pump 48 = .ok (.aload_n 0, 1) := by decide +kernel
theorem dMo_pump_49 : decode cMo_pump 49 = .ok (.getfield 40, 3) := by decide +kernel
theorem dMo_pump_52 : decode cMo_pump 52 = .ok (.iload_n 1, 1) := by decide +kernel
theorem dMo_pump_53 : decode cMo_pump 53 = .ok (.iaload, 1) := by decide +kernel
theorem dMo_pump_54 : decode cMo_pump 54 = .ok (.invokestatic 115, 3) := by decide +kernel
theorem dMo_pump_57 : decode cMo_pump 57 = .ok (.iastore, 1) := by decide +kernel
theorem dMo_pump_58 : decode cMo_pump 58 = .ok (.goto (-58), 3) := by decide +kernel
theorem dMo_pump_61 : decode cMo_pump 61 = .ok (.return_, 1) := by decide +kernel
theorem dMo_again_0 : decode cMo_again 0 = .ok (.aload_n 0, 1) := by decide +kernel
theorem dMo_again_1 : decode cMo_again 1 = .ok (.iload_n 1, 1) := by decide +kernel
theorem dMo_again_2 : decode cMo_again 2 = .ok (.invokevirtual 107, 3) := by decide +kernel
theorem dMo_again_5 : decode cMo_again 5 = .ok (.istore_n 2, 1) := by decide +kernel
theorem dMo_again_6 : decode cMo_again 6 = .ok (.iconst 0, 1) := by decide +kernel
theorem dMo_again_7 : decode cMo_again 7 = .ok (.istore_n 3, 1) := by decide +kernel
theorem dMo_again_8 : decode cMo_again 8 = .ok (.iload_n 3, 1) := by decide +kernel
theorem dMo_again_9 : decode cMo_again 9 = .ok (.iload_n 2, 1) := by decide +kernel
theorem dMo_again_10 : decode cMo_again 10 = .ok (.if_icmp .ge 15, 3) := by decide +kernel
theorem dMo_again_13 : decode cMo_again 13 = .ok (.aload_n 0, 1) := by decide +kernel
theorem dMo_again_14 : decode cMo_again 14 = .ok (.iload_n 1, 1) := by decide +kernel
theorem dMo_again_15 : decode cMo_again 15 = .ok (.iload_n 3, 1) := by decide +kernel
theorem dMo_again_16 : decode cMo_again 16 = .ok (.invokevirtual 111, 3) := by decide +kernel
theorem dMo_again_19 : decode cMo_again 19 = .ok (.iinc 3 1, 3) := by decide +kernel
theorem dMo_again_22 : decode cMo_again 22 = .ok (.goto (-14), 3) := by decide +kernel
theorem dMo_again_25 : decode cMo_again 25 = .ok (.return_, 1) := by decide +kernel
theorem dMo_post_0 : decode cMo_post 0 = .ok (.aload_n 0, 1) := by decide +kernel
theorem dMo_post_1 : decode cMo_post 1 = .ok (.getfield 59, 3) := by decide +kernel
theorem dMo_post_4 : decode cMo_post 4 = .ok (.iload_n 1, 1) := by decide +kernel
theorem dMo_post_5 : decode cMo_post 5 = .ok (.iaload, 1) := by decide +kernel
theorem dMo_post_6 : decode cMo_post 6 = .ok (.bipush 16, 2) := by decide +kernel
theorem dMo_post_8 : decode cMo_post 8 = .ok (.if_icmp .ge 73, 3) := by decide +kernel
theorem dMo_post_11 : decode cMo_post 11 = .ok (.bipush 16, 2) := by decide +kernel
theorem dMo_post_13 : decode cMo_post 13 = .ok (.iload_n 1, 1) := by decide +kernel
theorem dMo_post_14 : decode cMo_post 14 = .ok (.imul, 1) := by decide +kernel
theorem dMo_post_15 : decode cMo_post 15 = .ok (.aload_n 0, 1) := by decide +kernel
theorem dMo_post_16 : decode cMo_post 16 = .ok (.getfield 59, 3) := by decide +kernel
theorem dMo_post_19 : decode cMo_post 19 = .ok (.iload_n 1, 1) := by decide +kernel
theorem dMo_post_20 : decode cMo_post 20 = .ok (.iaload, 1) := by decide +kernel
theorem dMo_post_21 : decode cMo_post 21 = .ok (.iadd, 1) := by decide +kernel
theorem dMo_post_22 : decode cMo_post 22 = .ok (.istore 7, 2) := by decide +kernel
theorem dMo_post_24 : decode cMo_post 24 = .ok (.aload_n 0, 1) := by decide +kernel
theorem dMo_post_25 : decode cMo_post 25 = .ok (.getfield 59, 3) := by decide +kernel
theorem dMo_post_28 : decode cMo_post 28 = .ok (.iload_n 1, 1) := by decide +kernel
theorem dMo_post_29 : decode cMo_post 29 = .ok (.aload_n 0, 1) := by decide +kernel
theorem dMo_post_30 : decode cMo_post 30 = .ok (.getfield 59, 3) := by decide +kernel
theorem dMo_post_33 : decode cMo_post 33 = .ok (.iload_n 1, 1) := by decide +kernel
theorem dMo_post_34 : decode cMo_post 34 = .ok (.iaload, 1) := by decide +kernel
theorem dMo_post_35 : decode cMo_post 35 = .ok (.iconst 1, 1) := by decide +kernel
theorem dMo_post_36 : decode cMo_post 36 = .ok (.iadd, 1) := by decide +kernel
theorem dMo_post_37 : decode cMo_post 37 = .ok (.iastore, 1) := by decide +kernel
theorem dMo_post_38 : decode cMo_post 38 = .ok (.aload_n 0, 1) := by decide +kernel
theorem dMo_post_39 : decode cMo_post 39 = .ok (.getfield 62, 3) := by decide +kernel
theorem dMo_post_42 : decode cMo_post 42 = .ok (.iload 7, 2) := by decide +kernel
theorem dMo_post_44 : decode cMo_post 44 = .ok (.iload_n 2, 1) := by decide +kernel
theorem dMo_post_45 : decode cMo_post 45 = .ok (.iastore, 1) := by decide +kernel
theorem dMo_post_46 : decode cMo_post 46 = .ok (.aload_n 0, 1) := by decide +kernel
theorem dMo_post_47 : decode cMo_post 47 = .ok (.getfield 65, 3) := by decide +kernel
theorem dMo_post_50 : decode cMo_post 50 = .ok (.iload 7, 2) := by decide +kernel
theorem dMo_post_52 : decode cMo_post 52 = .ok (.iload_n 3, 1) := by decide +kernel
theorem dMo_post_53 : decode cMo_post 53 = .ok (.iastore, 1) := by decide +kernel
theorem dMo_post_54 : decode cMo_post 54 = .ok (.aload_n 0, 1) := by decide +kernel
theorem dMo_post_55 : decode cMo_post 55 = .ok (.getfield 68, 3) := by decide +kernel
theorem dMo_post_58 : decode cMo_post 58 = .ok (.iload 7, 2) := by decide +kernel
theorem dMo_post_60 : decode cMo_post 60 = .ok (.iload 4, 2) := by decide +kernel
theorem dMo_post_62 : decode cMo_post 62 = .ok (.iastore, 1) := by decide +kernel
theorem dMo_post_63 : decode cMo_post 63 = .ok (.aload_n 0, 1) := by decide +kernel
theorem dMo_post_64 : decode cMo_post 64 = .ok (.getfield 71, 3) := by decide +kernel
theorem dMo_post_67 : decode cMo_post 67 = .ok (.iload 7, 2) := by decide +kernel
theorem dMo_post_69 : decode cMo_post 69 = .ok (.iload 5, 2) := by decide +kernel
theorem dMo_post_71 : decode cMo_post 71 = .ok (.iastore, 1) := by decide +kernel
theorem dMo_post_72 : decode cMo_post 72 = .ok (.aload_n 0, 1) := by decide +kernel
theorem dMo_post_73 : decode cMo_post 73 = .ok (.getfield 74, 3) := by decide +kernel
theorem dMo_post_76 : decode cMo_post 76 = .ok (.iload 7, 2) := by decide +kernel
theorem dMo_post_78 : decode cMo_post 78 = .ok (.iload 6, 2) := by decide +kernel
theorem dMo_post_80 : decode cMo_post 80 = .ok (.iastore, 1) := by decide +kernel
theorem dMo_post_81 : decode cMo_post 81 = .ok (.aload_n 0, 1) := by decide +kernel
theorem dMo_post_82 : decode cMo_post 82 = .ok (.iload_n 1, 1) := by decide +kernel
theorem dMo_post_83 : decode cMo_post 83 = .ok (.invokevirtual 118, 3) := by decide +kernel
theorem dMo_post_86 : decode cMo_post 86 = .ok (.return_, 1) := by decide +kernel
theorem dMo_renew_0 : decode cMo_renew 0 = .ok (.aload_n 0, 1) := by decide +kernel
theorem dMo_renew_1 : decode cMo_renew 1 = .ok (.getfield 80, 3) := by decide +kernel
theorem dMo_renew_4 : decode cMo_renew 4 = .ok (.iload_n 1, 1) := by decide +kernel
theorem dMo_renew_5 : decode cMo_renew 5 = .ok (.iconst 0, 1) := by decide +kernel
theorem dMo_renew_6 : decode cMo_renew 6 = .ok (.iastore, 1) := by decide +kernel
theorem dMo_renew_7 : decode cMo_renew 7 = .ok (.aload_n 0, 1) := by decide +kernel
theorem dMo_renew_8 : decode cMo_renew 8 = .ok (.getfield 83, 3) := by decide +kernel
theorem dMo_renew_11 : decode cMo_renew 11 = .ok (.iload_n 1, 1) := by decide +kernel
theorem dMo_renew_12 : decode cMo_renew 12 = .ok (.iconst 0, 1) := by decide +kernel
theorem dMo_renew_13 : decode cMo_renew 13 = .ok (.iastore, 1) := by decide +kernel
theorem dMo_renew_14 : decode cMo_renew 14 = .ok (.aload_n 0, 1) := by decide +kernel
theorem dMo_renew_15 : decode cMo_renew 15 = .ok (.getfield 86, 3) := by decide +kernel
theorem dMo_renew_18 : decode cMo_renew 18 = .ok (.iload_n 1, 1) := by decide +kernel
theorem dMo_renew_19 : decode cMo_renew 19 = .ok (.iconst 0, 1) := by decide +kernel
theorem dMo_renew_20 : decode cMo_renew 20 = .ok (.iastore, 1) := by decide +kernel
theorem dMo_renew_21 : decode cMo_renew 21 = .ok (.aload_n 0, 1) := by decide +kernel
theorem dMo_renew_22 : decode cMo_renew 22 = .ok (.getfield 89, 3) := by decide +kernel
theorem dMo_renew_25 : decode cMo_renew 25 = .ok (.iload_n 1, 1) := by decide +kernel
theorem dMo_renew_26 : decode cMo_renew 26 = .ok (.iconst 0, 1) := by decide +kernel
theorem dMo_renew_27 : decode cMo_renew 27 = .ok (.iastore, 1) := by decide +kernel
theorem dMo_renew_28 : decode cMo_renew 28 = .ok (.return_, 1) := by decide +kernel
theorem dMo_clean_0 : decode cMo_clean 0 = .ok (.aload_n 0, 1) := by decide +kernel
theorem dMo_clean_1 : decode cMo_clean 1 = .ok (.getfield 40, 3) := by decide +kernel
theorem dMo_clean_4 : decode cMo_clean 4 = .ok (.iload_n 1, 1) := by decide +kernel
theorem dMo_clean_5 : decode cMo_clean 5 = .ok (.iconst 0, 1) := by decide +kernel
theorem dMo_clean_6 : decode cMo_clean 6 = .ok (.iastore, 1) := by decide +kernel
theorem dMo_clean_7 : decode cMo_clean 7 = .ok (.aload_n 0, 1) := by decide +kernel
theorem dMo_clean_8 : decode cMo_clean 8 = .ok (.getfield 43, 3) := by decide +kernel
theorem dMo_clean_11 : decode cMo_clean 11 = .ok (.iload_n 1, 1) := by decide +kernel
theorem dMo_clean_12 : decode cMo_clean 12 = .ok (.iconst 0, 1) := by decide +kernel
theorem dMo_clean_13 : decode cMo_clean 13 = .ok (.iastore, 1) := by decide +kernel
theorem dMo_clean_14 : decode cMo_clean 14 = .ok (.aload_n 0, 1) := by decide +kernel
theorem dMo_clean_15 : decode cMo_clean 15 = .ok (.getfield 46, 3) := by decide +kernel
theorem dMo_clean_18 : decode cMo_clean 18 = .ok (.iload_n 1, 1) := by decide +kernel
theorem dMo_clean_19 : decode cMo_clean 19 = .ok (.iconst 0, 1) := by decide +kernel
theorem dMo_clean_20 : decode cMo_clean 20 = .ok (.iastore, 1) := by decide +kernel
theorem dMo_clean_21 : decode cMo_clean 21 = .ok (.aload_n 0, 1) := by decide +kernel
theorem dMo_clean_22 : decode cMo_clean 22 = .ok (.getfield 49, 3) := by decide +kernel
theorem dMo_clean_25 : decode cMo_clean 25 = .ok (.iload_n 1, 1) := by decide +kernel
theorem dMo_clean_26 : decode cMo_clean 26 = .ok (.iconst 0, 1) := by decide +kernel
theorem dMo_clean_27 : decode cMo_clean 27 = .ok (.iastore, 1) := by decide +kernel
theorem dMo_clean_28 : decode cMo_clean 28 = .ok (.aload_n 0, 1) := by decide +kernel
theorem dMo_clean_29 : decode cMo_clean 29 = .ok (.getfield 52, 3) := by decide +kernel
theorem dMo_clean_32 : decode cMo_clean 32 = .ok (.iload_n 1, 1) := by decide +kernel
theorem dMo_clean_33 : decode cMo_clean 33 = .ok (.iconst 0, 1) := by decide +kernel
theorem dMo_clean_34 : decode cMo_clean 34 = .ok (.bastore, 1) := by decide +kernel
theorem dMo_clean_35 : decode cMo_clean 35 = .ok (.aload_n 0, 1) := by decide +kernel
theorem dMo_clean_36 : decode cMo_clean 36 = .ok (.getfield 59, 3) := by decide +kernel
theorem dMo_clean_39 : decode cMo_clean 39 = .ok (.iload_n 1, 1) := by decide +kernel
theorem dMo_clean_40 : decode cMo_clean 40 = .ok (.iconst 0, 1) := by decide +kernel
theorem dMo_clean_41 : decode cMo_clean 41 = .ok (.iastore, 1) := by decide +kernel
theorem dMo_clean_42 : decode cMo_clean 42 = .ok (.iconst 0, 1) := by decide +kernel
theorem dMo_clean_43 : decode cMo_clean 43 = .ok (.istore_n 2, 1) := by decide +kernel
theorem dMo_clean_44 : decode cMo_clean 44 = .ok (.iload_n 2, 1) := by decide +kernel
theorem dMo_clean_45 : decode cMo_clean 45 = .ok (.iconst 3, 1) := by decide +kernel
theorem dMo_clean_46 : decode cMo_clean 46 = .ok (.if_icmp .ge 29, 3) := by decide +kernel
theorem dMo_clean_49 : decode cMo_clean 49 = .ok (.aload_n 0, 1) := by decide +kernel
theorem dMo_clean_50 : decode cMo_clean 50 = .ok (.getfield 77, 3) := by decide +kernel
theorem dMo_clean_53 : decode cMo_clean 53 = .ok (.iconst 3, 1) := by decide +kernel
theorem dMo_clean_54 : decode cMo_clean 54 = .ok (.iload_n 1, 1) := by decide +kernel
theorem dMo_clean_55 : decode cMo_clean 55 = .ok (.imul, 1) := by decide +kernel
theorem dMo_clean_56 : decode cMo_clean 56 = .ok (.iload_n 2, 1) := by decide +kernel
theorem dMo_clean_57 : decode cMo_clean 57 = .ok (.iadd, 1) := by decide +kernel
theorem dMo_clean_58 : decode cMo_clean 58 = .ok (.iconst 0, 1) := by decide +kernel
theorem dMo_clean_59 : decode cMo_clean 59 = .ok (.iastore, 1) := by decide +kernel
theorem dMo_clean_60 : decode cMo_clean 60 = .ok (.aload_n 0, 1) := by decide +kernel
theorem dMo_clean_61 : decode cMo_clean 61 = .ok (.iconst 3, 1) := by decide +kernel
theorem dMo_clean_62 : decode cMo_clean 62 = .ok (.iload_n 1, 1) := by decide +kernel
theorem dMo_clean_63 : decode cMo_clean 63 = .ok (.imul, 1) := by decide +kernel
theorem dMo_clean_64 : decode cMo_clean 64 = .ok (.iload_n 2, 1) := by decide +kernel
theorem dMo_clean_65 : decode cMo_clean 65 = .ok (.iadd, 1) := by decide +kernel
