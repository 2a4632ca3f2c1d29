theorem dMo_hearLink_40 : decode cMo_hearLink 40 = .ok (.getfield 37, 3) := by decide +kernel
theorem dMo_hearLink_43 : decode cMo_hearLink 43 = .ok (.iload_n 1, 1) := by decide +kernel
theorem dMo_hearLink_44 : decode cMo_hearLink 44 = .ok (.iaload, 1) := by decide +kernel
theorem dMo_hearLink_45 : decode cMo_hearLink 45 = .ok (.iconst 1, 1) := by decide +kernel
theorem dMo_hearLink_46 : decode cMo_hearLink 46 = .ok (.if_icmp .ne 18, 3) := by decide +kernel
theorem dMo_hearLink_49 : decode cMo_hearLink 49 = .ok (.aload_n 0, 1) := by decide +kernel
theorem dMo_hearLink_50 : decode cMo_hearLink 50 = .ok (.iload_n 1, 1) := by decide +kernel
theorem dMo_hearLink_51 : decode cMo_hearLink 51 = .ok (.invokevirtual 125, 3) := by decide +kernel
theorem dMo_hearLink_54 : decode cMo_hearLink 54 = .ok (.aload_n 0, 1) := by decide +kernel
theorem dMo_hearLink_55 : decode cMo_hearLink 55 = .ok (.getfield 37, 3) := by decide +kernel
theorem dMo_hearLink_58 : decode cMo_hearLink 58 = .ok (.iload_n 1, 1) := by decide +kernel
theorem dMo_hearLink_59 : decode cMo_hearLink 59 = .ok (.iconst 2, 1) := by decide +kernel
theorem dMo_hearLink_60 : decode cMo_hearLink 60 = .ok (.iastore, 1) := by decide +kernel
theorem dMo_hearLink_61 : decode cMo_hearLink 61 = .ok (.goto 18, 3) := by decide +kernel
theorem dMo_hearLink_64 : decode cMo_hearLink 64 = .ok (.aload_n 0, 1) := by decide +kernel
theorem dMo_hearLink_65 : decode cMo_hearLink 65 = .ok (.getfield 37, 3) := by decide +kernel
theorem dMo_hearLink_68 : decode cMo_hearLink 68 = .ok (.iload_n 1, 1) := by decide +kernel
theorem dMo_hearLink_69 : decode cMo_hearLink 69 = .ok (.iaload, 1) := by decide +kernel
theorem dMo_hearLink_70 : decode cMo_hearLink 70 = .ok (.iconst 2, 1) := by decide +kernel
theorem dMo_hearLink_71 : decode cMo_hearLink 71 = .ok (.if_icmp .ne 8, 3) := by decide +kernel
theorem dMo_hearLink_74 : decode cMo_hearLink 74 = .ok (.aload_n 0, 1) := by decide +kernel
theorem dMo_hearLink_75 : decode cMo_hearLink 75 = .ok (.iload_n 1, 1) := by decide +kernel
theorem dMo_hearLink_76 : decode cMo_hearLink 76 = .ok (.invokevirtual 141, 3) := by decide +kernel
theorem dMo_hearLink_79 : decode cMo_hearLink 79 = .ok (.return_, 1) := by decide +kernel
theorem dMo_takeFrame_0 : decode cMo_takeFrame 0 = .ok (.aload_n 0, 1) := by decide +kernel
theorem dMo_takeFrame_1 : decode cMo_takeFrame 1 = .ok (.getfield 13, 3) := by decide +kernel
theorem dMo_takeFrame_4 : decode cMo_takeFrame 4 = .ok (.bipush 12, 2) := by decide +kernel
theorem dMo_takeFrame_6 : decode cMo_takeFrame 6 = .ok (.iload_n 1, 1) := by decide +kernel
theorem dMo_takeFrame_7 : decode cMo_takeFrame 7 = .ok (.imul, 1) := by decide +kernel
theorem dMo_takeFrame_8 : decode cMo_takeFrame 8 = .ok (.iaload, 1) := by decide +kernel
theorem dMo_takeFrame_9 : decode cMo_takeFrame 9 = .ok (.istore_n 2, 1) := by decide +kernel
theorem dMo_takeFrame_10 : decode cMo_takeFrame 10 = .ok (.aload_n 0, 1) := by decide +kernel
theorem dMo_takeFrame_11 : decode cMo_takeFrame 11 = .ok (.getfield 7, 3) := by decide +kernel
theorem dMo_takeFrame_14 : decode cMo_takeFrame 14 = .ok (.iload_n 1, 1) := by decide +kernel
theorem dMo_takeFrame_15 : decode cMo_takeFrame 15 = .ok (.aload_n 0, 1) := by decide +kernel
theorem dMo_takeFrame_16 : decode cMo_takeFrame 16 = .ok (.getfield 7, 3) := by decide +kernel
theorem dMo_takeFrame_19 : decode cMo_takeFrame 19 = .ok (.iload_n 1, 1) := by decide +kernel
theorem dMo_takeFrame_20 : decode cMo_takeFrame 20 = .ok (.iaload, 1) := by decide +kernel
theorem dMo_takeFrame_21 : decode cMo_takeFrame 21 = .ok (.iconst 1, 1) := by decide +kernel
theorem dMo_takeFrame_22 : decode cMo_takeFrame 22 = .ok (.isub, 1) := by decide +kernel
theorem dMo_takeFrame_23 : decode cMo_takeFrame 23 = .ok (.iastore, 1) := by decide +kernel
theorem dMo_takeFrame_24 : decode cMo_takeFrame 24 = .ok (.bipush 12, 2) := by decide +kernel
theorem dMo_takeFrame_26 : decode cMo_takeFrame 26 = .ok (.iload_n 1, 1) := by decide +kernel
theorem dMo_takeFrame_27 : decode cMo_takeFrame 27 = .ok (.imul, 1) := by decide +kernel
theorem dMo_takeFrame_28 : decode cMo_takeFrame 28 = .ok (.istore_n 3, 1) := by decide +kernel
theorem dMo_takeFrame_29 : decode cMo_takeFrame 29 = .ok (.iload_n 3, 1) := by decide +kernel
theorem dMo_takeFrame_30 : decode cMo_takeFrame 30 = .ok (.bipush 12, 2) := by decide +kernel
theorem dMo_takeFrame_32 : decode cMo_takeFrame 32 = .ok (.iload_n 1, 1) := by decide +kernel
theorem dMo_takeFrame_33 : decode cMo_takeFrame 33 = .ok (.imul, 1) := by decide +kernel
theorem dMo_takeFrame_34 : decode cMo_takeFrame 34 = .ok (.aload_n 0, 1) := by decide +kernel
theorem dMo_takeFrame_35 : decode cMo_takeFrame 35 = .ok (.getfield 7, 3) := by decide +kernel
theorem dMo_takeFrame_38 : decode cMo_takeFrame 38 = .ok (.iload_n 1, 1) := by decide +kernel
theorem dMo_takeFrame_39 : decode cMo_takeFrame 39 = .ok (.iaload, 1) := by decide +kernel
theorem dMo_takeFrame_40 : decode cMo_takeFrame 40 = .ok (.iadd, 1) := by decide +kernel
theorem dMo_takeFrame_41 : decode cMo_takeFrame 41 = .ok (.if_icmp .ge 121, 3) := by decide +kernel
theorem dMo_takeFrame_44 : decode cMo_takeFrame 44 = .ok (.aload_n 0, 1) := by decide +kernel
theorem dMo_takeFrame_45 : decode cMo_takeFrame 45 = .ok (.getfield 13, 3) := by decide +kernel
theorem dMo_takeFrame_48 : decode cMo_takeFrame 48 = .ok (.iload_n 3, 1) := by decide +kernel
theorem dMo_takeFrame_49 : decode cMo_takeFrame 49 = .ok (.aload_n 0, 1) := by decide +kernel
theorem dMo_takeFrame_50 : decode cMo_takeFrame 50 = .ok (.getfield 13, 3) := by decide +kernel
theorem dMo_takeFrame_53 : decode cMo_takeFrame 53 = .ok (.iload_n 3, 1) := by decide +kernel
theorem dMo_takeFrame_54 : decode cMo_takeFrame 54 = .ok (.iconst 1, 1) := by decide +kernel
theorem dMo_takeFrame_55 : decode cMo_takeFrame 55 = .ok (.iadd, 1) := by decide +kernel
theorem dMo_takeFrame_56 : decode cMo_takeFrame 56 = .ok (.iaload, 1) := by decide +kernel
theorem dMo_takeFrame_57 : decode cMo_takeFrame 57 = .ok (.iastore, 1) := by decide +kernel
theorem dMo_takeFrame_58 : decode cMo_takeFrame 58 = .ok (.aload_n 0, 1) := by decide +kernel
theorem dMo_takeFrame_59 : decode cMo_takeFrame 59 = .ok (.getfield 16, 3) := by decide +kernel
theorem dMo_takeFrame_62 : decode cMo_takeFrame 62 = .ok (.iload_n 3, 1) := by decide +kernel
theorem dMo_takeFrame_63 : decode cMo_takeFrame 63 = .ok (.aload_n 0, 1) := by decide +kernel
theorem dMo_takeFrame_64 : decode cMo_takeFrame 64 = .ok (.getfield 16, 3) := by decide +kernel
theorem dMo_takeFrame_67 : decode cMo_takeFrame 67 = .ok (.iload_n 3, 1) := by decide +kernel
theorem dMo_takeFrame_68 : decode cMo_takeFrame 68 = .ok (.iconst 1, 1) := by decide +kernel
theorem dMo_takeFrame_69 : decode cMo_takeFrame 69 = .ok (.iadd, 1) := by decide +kernel
theorem dMo_takeFrame_70 : decode cMo_takeFrame 70 = .ok (.iaload, 1) := by decide +kernel
theorem dMo_takeFrame_71 : decode cMo_takeFrame 71 = .ok (.iastore, 1) := by decide +kernel
theorem dMo_takeFrame_72 : decode cMo_takeFrame 72 = .ok (.aload_n 0, 1) := by decide +kernel
theorem dMo_takeFrame_73 : decode cMo_takeFrame 73 = .ok (.getfield 19, 3) := by decide +kernel
theorem dMo_takeFrame_76 : decode cMo_takeFrame 76 = .ok (.iload_n 3, 1) := by decide +kernel
theorem dMo_takeFrame_77 : decode cMo_takeFrame 77 = .ok (.aload_n 0, 1) := by decide +kernel
theorem dMo_takeFrame_78 : decode cMo_takeFrame 78 = .ok (.getfield 19, 3) := by decide +kernel
theorem dMo_takeFrame_81 : decode cMo_takeFrame 81 = .ok (.iload_n 3, 1) := by decide +kernel
theorem dMo_takeFrame_82 : decode cMo_takeFrame 82 = .ok (.iconst 1, 1) := by decide +kernel
theorem dMo_takeFrame_83 : decode cMo_takeFrame 83 = .ok (.iadd, 1) := by decide +kernel
theorem dMo_takeFrame_84 : decode cMo_takeFrame 84 = .ok (.iaload, 1) := by decide +kernel
theorem dMo_takeFrame_85 : decode cMo_takeFrame 85 = .ok (.iastore, 1) := by decide +kernel
theorem dMo_takeFrame_86 : decode cMo_takeFrame 86 = .ok (.aload_n 0, 1) := by decide +kernel
theorem dMo_takeFrame_87 : decode cMo_takeFrame 87 = .ok (.getfield 22, 3) := by decide +kernel
theorem dMo_takeFrame_90 : decode cMo_takeFrame 90 = .ok (.iload_n 3, 1) := by decide +kernel
theorem dMo_takeFrame_91 : decode cMo_takeFrame 91 = .ok (.aload_n 0, 1) := by decide +kernel
theorem dMo_takeFrame_92 : decode cMo_takeFrame 92 = .ok (.getfield 22, 3) := by decide +kernel
theorem dMo_takeFrame_95 : decode cMo_takeFrame 95 = .ok (.iload_n 3, 1) := by decide +kernel
theorem dMo_takeFrame_96 : decode cMo_takeFrame 96 = .ok (.iconst 1, 1) := by decide +kernel
theorem dMo_takeFrame_97 : decode cMo_takeFrame 97 = .ok (.iadd, 1) := by decide +kernel
theorem dMo_takeFrame_98 : decode cMo_takeFrame 98 = .ok (.iaload, 1) := by decide +kernel
theorem dMo_takeFrame_99 : decode cMo_takeFrame 99 = .ok (.iastore, 1) := by decide +kernel
theorem dMo_takeFrame_100 : decode cMo_takeFrame 100 = .ok (.aload_n 0, 1) := by decide +kernel
theorem dMo_takeFrame_101 : decode cMo_takeFrame 101 = .ok (.getfield 25, 3) := by decide +kernel
theorem dMo_takeFrame_104 : decode cMo_takeFrame 104 = .ok (.iload_n 3, 1) := by decide +kernel
theorem dMo_takeFrame_105 : decode cMo_takeFrame 105 = .ok (.aload_n 0, 1) := by decide +kernel
theorem dMo_takeFrame_106 : decode cMo_takeFrame 106 = .ok (.getfield 25, 3) := by decide +kernel
theorem dMo_takeFrame_109 : decode cMo_takeFrame 109 = .ok (.iload_n 3, 1) := by decide +kernel
theorem dMo_takeFrame_110 : decode cMo_takeFrame 110 = .ok (.iconst 1, 1) := by decide +kernel
theorem dMo_takeFrame_111 : decode cMo_takeFrame 111 = .ok (.iadd, 1) := by decide +kernel
theorem dMo_takeFrame_112 : decode cMo_takeFrame 112 = .ok (.iaload, 1) := by decide +kernel
theorem dMo_takeFrame_113 : decode cMo_takeFrame 113 = .ok (.iastore, 1) := by decide +kernel
theorem dMo_takeFrame_114 : decode cMo_takeFrame 114 = .ok (.aload_n 0, 1) := by decide +kernel
theorem dMo_takeFrame_115 : decode cMo_takeFrame 115 = .ok (.getfield 28, 3) := by decide +kernel
theorem dMo_takeFrame_118 : decode cMo_takeFrame 118 = .ok (.iload_n 3, 1) := by decide +kernel
theorem dMo_takeFrame_119 : decode cMo_takeFrame 119 = .ok (.aload_n 0, 1) := by decide +kernel
theorem dMo_takeFrame_120 : decode cMo_takeFrame 120 = .ok (.getfield 28, 3) := by decide +kernel
theorem dMo_takeFrame_123 : decode cMo_takeFrame 123 = .ok (.iload_n 3, 1) := by decide +kernel
theorem dMo_takeFrame_124 : decode cMo_takeFrame 124 = .ok (.iconst 1, 1) := by decide +kernel
theorem dMo_takeFrame_125 : decode cMo_takeFrame 125 = .ok (.iadd, 1) := by decide +kernel
theorem dMo_takeFrame_126 : decode cMo_takeFrame 126 = .ok (.iaload, 1) := by decide +kernel
theorem dMo_takeFrame_127 : decode cMo_takeFrame 127 = .ok (.iastore, 1) := by decide +kernel
theorem dMo_takeFrame_128 : decode cMo_takeFrame 128 = .ok (.aload_n 0, 1) := by decide +kernel
theorem dMo_takeFrame_129 : decode cMo_takeFrame 129 = .ok (.getfield 31, 3) := by decide +kernel
theorem dMo_takeFrame_132 : decode cMo_takeFrame 132 = .ok (.iload_n 3, 1) := by decide +kernel
theorem dMo_takeFrame_133 : decode cMo_takeFrame 133 = .ok (.aload_n 0, 1) := by decide +kernel
theorem dMo_takeFrame_134 : decode cMo_takeFrame 134 = .ok (.getfield 31, 3) := by decide +kernel
theorem dMo_takeFrame_137 : decode cMo_takeFrame 137 = .ok (.iload_n 3, 1) := by decide +kernel
theorem dMo_takeFrame_138 : decode cMo_takeFrame 138 = .ok (.iconst 1, 1) := by decide +kernel
theorem dMo_takeFrame_139 : decode cMo_takeFrame 139 = .ok (.iadd, 1) := by decide +kernel
theorem dMo_takeFrame_140 : decode cMo_takeFrame 140 = .ok (.iaload, 1) := by decide +kernel
theorem dMo_takeFrame_141 : decode cMo_takeFrame 141 = .ok (.iastore, 1) := by decide +kernel
theorem dMo_takeFrame_142 : decode cMo_takeFrame 142 = .ok (.aload_n 0, 1) := by decide +kernel
theorem dMo_takeFrame_143 : decode cMo_takeFrame 143 = .ok (.getfield 34, 3) := by decide +kernel
theorem dMo_takeFrame_146 : decode cMo_takeFrame 146 = .ok (.iload_n 3, 1) := by decide +kernel
theorem dMo_takeFrame_147 : decode cMo_takeFrame 147 = .ok (.aload_n 0, 1) := by decide +kernel
theorem dMo_takeFrame_148 : decode cMo_takeFrame 148 = .ok (.getfield 34, 3) := by decide +kernel
theorem dMo_takeFrame_151 : decode cMo_takeFrame 151 = .ok (.iload_n 3, 1) := by decide +kernel
theorem dMo_takeFrame_152 : decode cMo_takeFrame 152 = .ok (.iconst 1, 1) := by decide +kernel
theorem dMo_takeFrame_153 : decode cMo_takeFrame 153 = .ok (.iadd, 1) := by decide +kernel
theorem dMo_takeFrame_154 : decode cMo_takeFrame 154 = .ok (.iaload, 1) := by decide +kernel
theorem dMo_takeFrame_155 : decode cMo_takeFrame 155 = .ok (.iastore, 1) := by decide +kernel
theorem dMo_takeFrame_156 : decode cMo_takeFrame 156 = .ok (.iinc 3 1, 3) := by decide +kernel
theorem dMo_takeFrame_159 : decode cMo_takeFrame 159 = .ok (.goto (-130), 3) := by decide +kernel
theorem dMo_takeFrame_162 : decode cMo_takeFrame 162 = .ok (.iload_n 2, 1) := by decide +kernel
theorem dMo_takeFrame_163 : decode cMo_takeFrame 163 = .ok (.ireturn, 1) := by decide +kernel
theorem dMo_station_0 : decode cMo_station 0 = .ok (.iload_n 0, 1) := by decide +kernel
theorem dMo_station_1 : decode cMo_station 1 = .ok (.ifCond .eq 8, 3) := by decide +kernel
theorem dMo_station_4 : decode cMo_station 4 = .ok (.iload_n 0, 1) := by decide +kernel
theorem dMo_station_5 : decode cMo_station 5 = .ok (.iconst 1, 1) := by decide +kernel
theorem dMo_station_6 : decode cMo_station 6 = .ok (.if_icmp .ne 7, 3) := by decide +kernel
theorem dMo_station_9 : decode cMo_station 9 = .ok (.iconst 1, 1) := by decide +kernel
theorem dMo_station_10 : decode cMo_station 10 = .ok (.goto 4, 3) := by decide +kernel
theorem dMo_station_13 : decode cMo_station 13 = .ok (.iconst 0, 1) := by decide +kernel
theorem dMo_station_14 : decode cMo_station 14 = .ok (.ireturn, 1) := by decide +kernel
theorem dMo_channelOf_0 : decode cMo_channelOf 0 = .ok (.iload_n 0, 1) := by decide +kernel
theorem dMo_channelOf_1 : decode cMo_channelOf 1 = .ok (.invokestatic 144, 3) := by decide +kernel
theorem dMo_channelOf_4 : decode cMo_channelOf 4 = .ok (.ifCond .eq 16, 3) := by decide +kernel
theorem dMo_channelOf_7 : decode cMo_channelOf 7 = .ok (.iload_n 1, 1) := by decide +kernel
theorem dMo_channelOf_8 : decode cMo_channelOf 8 = .ok (.ifCond .lt 12, 3) := by decide +kernel
theorem dMo_channelOf_11 : decode cMo_channelOf 11 = .ok (.iload_n 1, 1) := by decide +kernel
theorem dMo_channelOf_12 : decode cMo_channelOf 12 = .ok (.iconst 2, 1) := by decide +kernel
theorem dMo_channelOf_13 : decode cMo_channelOf 13 = .ok (.if_icmp .gt 7, 3) := by decide +kernel
theorem dMo_channelOf_16 : decode cMo_channelOf 16 = .ok (.iconst 1, 1) := by decide +kernel
theorem dMo_channelOf_17 : decode cMo_channelOf 17 = .ok (.goto 4, 3) := by decide +kernel
theorem dMo_channelOf_20 : decode cMo_channelOf 20 = .ok (.iconst 0, 1) := by decide +kernel
theorem dMo_channelOf_21 : decode cMo_channelOf 21 = .ok (.ireturn, 1) := by decide +kernel
theorem dMo_deliver_0 : decode cMo_deliver 0 = .ok (.aload_n 0, 1) := by decide +kernel
theorem dMo_deliver_1 : decode cMo_deliver 1 = .ok (.iload_n 1, 1) := by decide +kernel
theorem dMo_deliver_2 : decode cMo_deliver 2 = .ok (.invokestatic 144, 3) := by decide +kernel
theorem dMo_deliver_5 : decode cMo_deliver 5 = .ok (.ifCond .ne 7, 3) := by decide +kernel
theorem dMo_deliver_8 : decode cMo_deliver 8 = .ok (.iconst 1, 1) := by decide +kernel
theorem dMo_deliver_9 : decode cMo_deliver 9 = .ok (.goto 17, 3) := by decide +kernel
theorem dMo_deliver_12 : decode cMo_deliver 12 = .ok (.aload_n 0, 1) := by decide +kernel
theorem dMo_deliver_13 : decode cMo_deliver 13 = .ok (.getfield 7, 3) := by decide +kernel
theorem dMo_deliver_16 : decode cMo_deliver 16 = .ok (.iload_n 1, 1) := by decide +kernel
theorem dMo_deliver_17 : decode cMo_deliver 17 = .ok (.iaload, 1) := by decide +kernel
theorem dMo_deliver_18 : decode cMo_deliver 18 = .ok (.ifCond .ne 7, 3) := by decide +kernel
theorem dMo_deliver_21 : decode cMo_deliver 21 = .ok (.iconst 2, 1) := by decide +kernel
theorem dMo_deliver_22 : decode cMo_deliver 22 = .ok (.goto 4, 3) := by decide +kernel
theorem dMo_deliver_25 : decode cMo_deliver 25 = .ok (.iconst 0, 1) := by decide +kernel
theorem dMo_deliver_26 : decode cMo_deliver 26 = .ok (.putfield 95, 3) := by decide +kernel
theorem dMo_deliver_29 : decode cMo_deliver 29 = .ok (.aload_n 0, 1) := by decide +kernel
theorem dMo_deliver_30 : decode cMo_deliver 30 = .ok (.getfield 95, 3) := by decide +kernel
theorem dMo_deliver_33 : decode cMo_deliver 33 = .ok (.ifCond .le 5, 3) := by decide +kernel
theorem dMo_deliver_36 : decode cMo_deliver 36 = .ok (.iconst 0, 1) := by decide +kernel
theorem dMo_deliver_37 : decode cMo_deliver 37 = .ok (.ireturn, 1) := by decide +kernel
theorem dMo_deliver_38 : decode cMo_deliver 38 = .ok (.bipush 12, 2) := by decide +kernel
theorem dMo_deliver_40 : decode cMo_deliver 40 = .ok (.iload_n 1, 1) := by decide +kernel
theorem dMo_deliver_41 : decode cMo_deliver 41 = .ok (.imul, 1) := by decide +kernel
theorem dMo_deliver_42 : decode cMo_deliver 42 = .ok (.istore_n 2, 1) := by decide +kernel
theorem dMo_deliver_43 : decode cMo_deliver 43 = .ok (.aload_n 0, 1) := by decide +kernel
theorem dMo_deliver_44 : decode cMo_deliver 44 = .ok (.getfield 16, 3) := by decide +kernel
theorem dMo_deliver_47 : decode cMo_deliver 47 = .ok (.iload_n 2, 1) := by decide +kernel
theorem dMo_deliver_48 : decode cMo_deliver 48 = .ok (.iaload, 1) := by decide +kernel
theorem dMo_deliver_49 : decode cMo_deliver 49 = .ok (.istore_n 3, 1) := by decide +kernel
theorem dMo_deliver_50 : decode cMo_deliver 50 = .ok (.aload_n 0, 1) := by decide +kernel
theorem dMo_deliver_51 : decode cMo_deliver 51 = .ok (.getfield 19, 3) := by decide +kernel
theorem dMo_deliver_54 : decode cMo_deliver 54 = .ok (.iload_n 2, 1) := by decide +kernel
theorem dMo_deliver_55 : decode cMo_deliver 55 = .ok (.iaload, 1) := by decide +kernel
theorem dMo_deliver_56 : decode cMo_deliver 56 = .ok (.istore 4, 2) := by decide +kernel
theorem dMo_deliver_58 : decode cMo_deliver 58 = .ok (.aload_n 0, 1) := by decide +kernel
theorem dMo_deliver_59 : decode cMo_deliver 59 = .ok (.getfield 22, 3) := by decide +kernel
theorem dMo_deliver_62 : decode cMo_deliver 62 = .ok (.iload_n 2, 1) := by decide +kernel
theorem dMo_deliver_63 : decode cMo_deliver 63 = .ok (.iaload, 1) := by decide +kernel
theorem dMo_deliver_64 : decode cMo_deliver 64 = .ok (.istore 5, 2) := by decide +kernel
theorem dMo_deliver_66 : decode cMo_deliver 66 = .ok (.aload_n 0, 1) := by decide +kernel
theorem dMo_deliver_67 : decode cMo_deliver 67 = .ok (.getfield 25, 3) := by decide +kernel
theorem dMo_deliver_70 : decode cMo_deliver 70 = .ok (.iload_n 2, 1) := by decide +kernel
theorem dMo_deliver_71 : decode cMo_deliver 71 = .ok (.iaload, 1) := by decide +kernel
theorem dMo_deliver_72 : decode cMo_deliver 72 = .ok (.istore 6, 2) := by decide +kernel
theorem dMo_deliver_74 : decode cMo_deliver 74 = .ok (.aload_n 0, 1) := by decide +kernel
theorem dMo_deliver_75 : decode cMo_deliver 75 = .ok (.getfield 28, 3) := by decide +kernel
theorem dMo_deliver_78 : decode cMo_deliver 78 = .ok (.iload_n 2, 1) := by decide +kernel
theorem dMo_deliver_79 : decode cMo_deliver 79 = .ok (.iaload, 1) := by decide +kernel
theorem dMo_deliver_80 : decode cMo_deliver 80 = .ok (.istore 7, 2) := by decide +kernel
theorem dMo_deliver_82 : decode cMo_deliver 82 = .ok (.aload_n 0, 1) := by decide +kernel
theorem dMo_deliver_83 : decode cMo_deliver 83 = .ok (.getfield 31, 3) := by decide +kernel
theorem dMo_deliver_86 : decode cMo_deliver 86 = .ok (.iload_n 2, 1) := by decide +kernel
theorem dMo_deliver_87 : decode cMo_deliver 87 = .ok (.iaload, 1) := by decide +kernel
theorem dMo_deliver_88 : decode cMo_deliver 88 = .ok (.istore 8, 2) := by decide +kernel
theorem dMo_deliver_90 : decode cMo_deliver 90 = .ok (.aload_n 0, 1) := by decide +kernel
theorem dMo_deliver_91 : decode cMo_deliver 91 = .ok (.getfield 34, 3) := by decide +kernel
theorem dMo_deliver_94 : decode cMo_deliver 94 = .ok (.iload_n 2, 1) := by decide +kernel
theorem dMo_deliver_95 : decode cMo_deliver 95 = .ok (.iaload, 1) := by decide +kernel
theorem dMo_deliver_96 : decode cMo_deliver 96 = .ok (.istore 9, 2) := by decide +kernel
theorem dMo_deliver_98 : decode cMo_deliver 98 = .ok (.aload_n 0, 1) := by decide +kernel
theorem dMo_deliver_99 : decode cMo_deliver 99 = .ok (.iload_n 1, 1) := by decide +kernel
theorem dMo_deliver_100 : decode cMo_deliver 100 = .ok (.invokevirtual 148, 3) := by decide +kernel
theorem dMo_deliver_103 : decode cMo_deliver 103 = .ok (.istore 10, 2) := by decide +kernel
theorem dMo_deliver_105 : decode cMo_deliver 105 = .ok (.aload_n 0, 1) := by decide +kernel
theorem dMo_deliver_106 : decode cMo_deliver 106 = .ok (.getfield 56, 3) := by decide +kernel
theorem dMo_deliver_109 : decode cMo_deliver 109 = .ok (.iload_n 1, 1) := by decide +kernel
theorem dMo_deliver_110 : decode cMo_deliver 110 = .ok (.iconst 0, 1) := by decide +kernel
theorem dMo_deliver_111 : decode cMo_deliver 111 = .ok (.bastore, 1) := by decide +kernel
theorem dMo_deliver_112 : decode cMo_deliver 112 = .ok (.iload 10, 2) := by decide +kernel
theorem dMo_deliver_114 : decode cMo_deliver 114 = .ok (.iconst 1, 1) := by decide +kernel
theorem dMo_deliver_115 : decode cMo_deliver 115 = .ok (.if_icmp .eq 9, 3) := by decide +kernel
theorem dMo_deliver_118 : decode cMo_deliver 118 = .ok (.iload 10, 2) := by decide +kernel
theorem dMo_deliver_120 : decode cMo_deliver 120 = .ok (.iconst 2, 1) := by decide +kernel
theorem dMo_deliver_121 : decode cMo_deliver 121 = .ok (.if_icmp .ne 13, 3) := by decide +kernel
theorem dMo_deliver_124 : decode cMo_deliver 124 = .ok (.aload_n 0, 1) := by decide +kernel
theorem dMo_deliver_125 : decode cMo_deliver 125 = .ok (.iload_n 1, 1) := by decide +kernel
theorem dMo_deliver_126 : decode cMo_deliver 126 = .ok (.iload 10, 2) := by decide +kernel
theorem dMo_deliver_128 : decode cMo_deliver 128 = .ok (.invokevirtual 151, 3) := by decide +kernel
theorem dMo_deliver_131 : decode cMo_deliver 131 = .ok (.goto 61, 3) := by decide +kernel
theorem dMo_deliver_134 : decode cMo_deliver 134 = .ok (.aload_n 0, 1) := by decide +kernel
theorem dMo_deliver_135 : decode cMo_deliver 135 = .ok (.getfield 37, 3) := by decide +kernel
theorem dMo_deliver_138 : decode cMo_deliver 138 = .ok (.iload_n 1, 1) := by decide +kernel
theorem dMo_deliver_139 : decode cMo_deliver 139 = .ok (.iaload, 1) := by decide +kernel
theorem dMo_deliver_140 : decode cMo_deliver 140 = .ok (.iconst 2, 1) := by decide +kernel
theorem dMo_deliver_141 : decode cMo_deliver 141 = .ok (.if_icmp .ne 51, 3) := by decide +kernel
theorem dMo_deliver_144 : decode cMo_deliver 144 = .ok (.aload_n 0, 1) := by decide +kernel
theorem dMo_deliver_145 : decode cMo_deliver 145 = .ok (.iload_n 1, 1) := by decide +kernel
theorem dMo_deliver_146 : decode cMo_deliver 146 = .ok (.iload 4, 2) := by decide +kernel
theorem dMo_deliver_148 : decode cMo_deliver 148 = .ok (.invokevirtual 154, 3) := by decide +kernel
theorem dMo_deliver_151 : decode cMo_deliver 151 = .ok (.iload 10, 2) := by decide +kernel
theorem dMo_deliver_153 : decode cMo_deliver 153 = .ok (.iconst 5, 1) := by decide +kernel
theorem dMo_deliver_154 : decode cMo_deliver 154 = .ok (.if_icmp .ne 8, 3) := by decide +kernel
theorem dMo_deliver_157 : decode cMo_deliver 157 = .ok (.aload_n 0, 1) := by decide +kernel
theorem dMo_deliver_158 : decode cMo_deliver 158 = .ok (.iload_n 1, 1) := by decide +kernel
theorem dMo_deliver_159 : decode cMo_deliver 159 = .ok (.invokevirtual 157, 3) := by decide +kernel
theorem dMo_deliver_162 : decode cMo_deliver 162 = .ok (.iload 10, 2) := by decide +kernel
theorem dMo_deliver_164 : decode cMo_deliver 164 = .ok (.iconst 3, 1) := by decide +kernel
theorem dMo_deliver_165 : decode cMo_deliver 165 = .ok (.if_icmp .ne 22, 3) := by decide +kernel
theorem dMo_deliver_168 : decode cMo_deliver 168 = .ok (.aload_n 0, 1) := by decide +kernel
theorem dMo_deliver_169 : decode cMo_deliver 169 = .ok (.iload_n 1, 1) := by decide +kernel
theorem dMo_deliver_170 : decode cMo_deliver 170 = .ok (.iload_n 3, 1) := by decide +kernel
theorem dMo_deliver_171 : decode cMo_deliver 171 = .ok (.iload 5, 2) := by decide +kernel
theorem dMo_deliver_173 : decode cMo_deliver 173 = .ok (.iload 6, 2) := by decide +kernel
theorem dMo_deliver_175 : decode cMo_deliver 175 = .ok (.iload 7, 2) := by decide +kernel
theorem dMo_deliver_177 : decode cMo_deliver 177 = .ok (.iload 8, 2) := by decide +kernel
theorem dMo_deliver_179 : decode cMo_deliver 179 = .ok (.iload 9, 2) := by decide +kernel
theorem dMo_deliver_181 : decode cMo_deliver 181 = .ok (.invokevirtual 160, 3) := by decide +kernel
theorem dMo_deliver_184 : decode cMo_deliver 184 = .ok (.goto 8, 3) := by decide +kernel
theorem dMo_deliver_187 : decode cMo_deliver 187 = .ok (.aload_n 0, 1) := by decide +kernel
theorem dMo_deliver_188 : decode cMo_deliver 188 = .ok (.iload_n 1, 1) := by decide +kernel
theorem dMo_deliver_189 : decode cMo_deliver 189 = .ok (.invokevirtual 118, 3) := by decide +kernel
theorem dMo_deliver_192 : decode cMo_deliver 192 = .ok (.iload 10, 2) := by decide +kernel
theorem dMo_deliver_194 : decode cMo_deliver 194 = .ok (.ireturn, 1) := by decide +kernel
theorem dMo_lose_0 : decode cMo_lose 0 = .ok (.aload_n 0, 1) := by decide +kernel
theorem dMo_lose_1 : decode cMo_lose 1 = .ok (.iload_n 1, 1) := by decide +kernel
theorem dMo_lose_2 : decode cMo_lose 2 = .ok (.invokestatic 144, 3) := by decide +kernel
theorem dMo_lose_5 : decode cMo_lose 5 = .ok (.ifCond .ne 7, 3) := by decide +kernel
theorem dMo_lose_8 : decode cMo_lose 8 = .ok (.iconst 1, 1) := by decide +kernel
theorem dMo_lose_9 : decode cMo_lose 9 = .ok (.goto 17, 3) := by decide +kernel
theorem dMo_lose_12 : decode cMo_lose 12 = .ok (.aload_n 0, 1) := by decide +kernel
theorem dMo_lose_13 : decode cMo_lose 13 = .ok (.getfield 7, 3) := by decide +kernel
theorem dMo_lose_16 : decode cMo_lose 16 = .ok (.iload_n 1, 1) := by decide +kernel
theorem dMo_lose_17 : decode cMo_lose 17 = .ok (.iaload, 1) := by decide +kernel
theorem dMo_lose_18 : decode cMo_lose 18 = .ok (.ifCond .ne 7, 3) := by decide +kernel
theorem dMo_lose_21 : decode cMo_lose 21 = .ok (.iconst 2, 1) := by decide +kernel
theorem dMo_lose_22 : decode cMo_lose 22 = .ok (.goto 4, 3) := by decide +kernel
theorem dMo_lose_25 : decode cMo_lose 25 = .ok (.iconst 0, 1) := by decide +kernel
theorem dMo_lose_26 : decode cMo_lose 26 = .ok (.putfield 95, 3) := by decide +kernel
theorem dMo_lose_29 : decode cMo_lose 29 = .ok (.aload_n 0, 1) := by decide +kernel
theorem dMo_lose_30 : decode cMo_lose 30 = .ok (.getfield 95, 3) := by decide +kernel
theorem dMo_lose_33 : decode cMo_lose 33 = .ok (.ifCond .le 7, 3) := by decide +kernel
theorem dMo_lose_36 : decode cMo_lose 36 = .ok (.iconst 0, 1) := by decide +kernel
theorem dMo_lose_37 : decode cMo_lose 37 = .ok (.goto 8, 3) := by decide +kernel
theorem dMo_lose_40 : decode cMo_lose 40 = .ok (.aload_n 0, 1) := by decide +kernel
theorem dMo_lose_41 : decode cMo_lose 41 = .ok (.iload_n 1, 1) := by decide +kernel
theorem dMo_lose_42 : decode cMo_lose 42 = .ok (.invokevirtual 148, 3) := by decide +kernel
theorem dMo_lose_45 : decode cMo_lose 45 = .ok (.ireturn, 1) := by decide +kernel
theorem dMo_hand_0 : decode cMo_hand 0 = .ok (.aload_n 0, 1) := by decide +kernel
theorem dMo_hand_1 : decode cMo_hand 1 = .ok (.iload_n 1, 1) := by decide +kernel
theorem dMo_hand_2 : decode cMo_hand 2 = .ok (.iload_n 2, 1) := by decide +kernel
theorem dMo_hand_3 : decode cMo_hand 3 = .ok (.invokestatic 164, 3) := by decide +kernel
theorem dMo_hand_6 : decode cMo_hand 6 = .ok (.ifCond .eq 7, 3) := by decide +kernel
theorem dMo_hand_9 : decode cMo_hand 9 = .ok (.iconst 0, 1) := by decide +kernel
theorem dMo_hand_10 : decode cMo_hand 10 = .ok (.goto 4, 3) := by decide +kernel
theorem dMo_hand_13 : decode cMo_hand 13 = .ok (.iconst 1, 1) := by decide +kernel
theorem dMo_hand_14 : decode cMo_hand 14 = .ok (.putfield 95, 3) := by decide +kernel
theorem dMo_hand_17 : decode cMo_hand 17 = .ok (.aload_n 0, 1) := by decide +kernel
theorem dMo_hand_18 : decode cMo_hand 18 = .ok (.getfield 95, 3) := by decide +kernel
theorem dMo_hand_21 : decode cMo_hand 21 = .ok (.ifCond .gt 38, 3) := by decide +kernel
theorem dMo_hand_24 : decode cMo_hand 24 = .ok (.iload_n 3, 1) := by decide +kernel
theorem dMo_hand_25 : decode cMo_hand 25 = .ok (.iconst 1, 1) := by decide +kernel
theorem dMo_hand_26 : decode cMo_hand 26 = .ok (.if_icmp .lt 33, 3) := by decide +kernel
theorem dMo_hand_29 : decode cMo_hand 29 = .ok (.iload_n 3, 1) := by decide +kernel
theorem dMo_hand_30 : decode cMo_hand 30 = .ok (.bipush 8, 2) := by decide +kernel
theorem dMo_hand_32 : decode cMo_hand 32 = .ok (.if_icmp .gt 27, 3) := by decide +kernel
theorem dMo_hand_35 : decode cMo_hand 35 = .ok (.iload 4, 2) := by decide +kernel
theorem dMo_hand_37 : decode cMo_hand 37 = .ok (.ifCond .lt 22, 3) := by decide +kernel
theorem dMo_hand_40 : decode cMo_hand 40 = .ok (.iload 4, 2) := by decide +kernel
theorem dMo_hand_42 : decode cMo_hand 42 = .ok (.bipush 7, 2) := by decide +kernel
theorem dMo_hand_44 : decode cMo_hand 44 = .ok (.if_icmp .gt 15, 3) := by decide +kernel
theorem dMo_hand_47 : decode cMo_hand 47 = .ok (.iload 5, 2) := by decide +kernel
theorem dMo_hand_49 : decode cMo_hand 49 = .ok (.ifCond .lt 10, 3) := by decide +kernel
theorem dMo_hand_52 : decode cMo_hand 52 = .ok (.iload 5, 2) := by decide +kernel
theorem dMo_hand_54 : decode cMo_hand 54 = .ok (.bipush 7, 2) := by decide +kernel
theorem dMo_hand_56 : decode cMo_hand 56 = .ok (.if_icmp .le 5, 3) := by decide +kernel
theorem dMo_hand_59 : decode cMo_hand 59 = .ok (.iconst 0, 1) := by decide +kernel
theorem dMo_hand_60 : decode cMo_hand 60 = .ok (.ireturn, 1) := by decide +kernel
theorem dMo_hand_61 : decode cMo_hand 61 = .ok (.aload_n 0, 1) := by decide +kernel
theorem dMo_hand_62 : decode cMo_hand 62 = .ok (.iload_n 1, 1) := by decide +kernel
theorem dMo_hand_63 : decode cMo_hand 63 = .ok (.iload_n 2, 1) := by decide +kernel
theorem dMo_hand_64 : decode cMo_hand 64 = .ok (.iload_n 3, 1) := by decide +kernel
theorem dMo_hand_65 : decode cMo_hand 65 = .ok (.iload 4, 2) := by decide +kernel
theorem dMo_hand_67 : decode cMo_hand 67 = .ok (.iload 5, 2) := by decide +kernel
theorem dMo_hand_69 : decode cMo_hand 69 = .ok (.iconst 0, 1) := by decide +kernel
theorem dMo_hand_70 : decode cMo_hand 70 = .ok (.invokevirtual 138, 3) := by decide +kernel
theorem dMo_hand_73 : decode cMo_hand 73 = .ok (.iconst 1, 1) := by decide +kernel
theorem dMo_hand_74 : decode cMo_hand 74 = .ok (.ireturn, 1) := by decide +kernel
theorem dMo_open_0 : decode cMo_open 0 = .ok (.aload_n 0, 1) := by decide +kernel
theorem dMo_open_1 : decode cMo_open 1 = .ok (.iload_n 1, 1) := by decide +kernel
theorem dMo_open_2 : decode cMo_open 2 = .ok (.invokestatic 144, 3) := by decide +kernel
theorem dMo_open_5 : decode cMo_open 5 = .ok (.ifCond .eq 7, 3) := by decide +kernel
theorem dMo_open_8 : decode cMo_open 8 = .ok (.iconst 0, 1) := by decide +kernel
theorem dMo_open_9 : decode cMo_open 9 = .ok (.goto 4, 3) := by decide +kernel
theorem dMo_open_12 : decode cMo_open 12 = .ok (.iconst 1, 1) := by decide +kernel
theorem dMo_open_13 : decode cMo_open 13 = .ok (.putfield 95, 3) := by decide +kernel
theorem dMo_open_16 : decode cMo_open 16 = .ok (.aload_n 0, 1) := by decide +kernel
theorem dMo_open_17 : decode cMo_open 17 = .ok (.getfield 95, 3) := by decide +kernel
theorem dMo_open_20 : decode cMo_open 20 = .ok (.ifCond .ne 8, 3) := by decide +kernel
theorem dMo_open_23 : decode cMo_open 23 = .ok (.aload_n 0, 1) := by decide +kernel
theorem dMo_open_24 : decode cMo_open 24 = .ok (.iload_n 1, 1) := by decide +kernel
theorem dMo_open_25 : decode cMo_open 25 = .ok (.invokevirtual 141, 3) := by decide +kernel
theorem dMo_open_28 : decode cMo_open 28 = .ok (.return_, 1) := by decide +kernel
theorem dMo_expire_0 : decode cMo_expire 0 = .ok (.aload_n 0, 1) := by decide +kernel
theorem dMo_expire_1 : decode cMo_expire 1 = .ok (.iload_n 1, 1) := by decide +kernel
theorem dMo_expire_2 : decode cMo_expire 2 = .ok (.invokestatic 144, 3) := by decide +kernel
theorem dMo_expire_5 : decode cMo_expire 5 = .ok (.ifCond .ne 7, 3) := by decide +kernel
theorem dMo_expire_8 : decode cMo_expire 8 = .ok (.iconst 1, 1) := by decide +kernel
theorem dMo_expire_9 : decode cMo_expire 9 = .ok (.goto 35, 3) := by decide +kernel
theorem dMo_expire_12 : decode cMo_expire 12 = .ok (.aload_n 0, 1) := by decide +kernel
theorem dMo_expire_13 : decode cMo_expire 13 = .ok (.getfield 37, 3) := by decide +kernel
theorem dMo_expire_16 : decode cMo_expire 16 = .ok (.iload_n 1, 1) := by decide +kernel
theorem dMo_expire_17 : decode cMo_expire 17 = .ok (.iaload, 1) := by decide +kernel
theorem dMo_expire_18 : decode cMo_expire 18 = .ok (.ifCond .eq 21, 3) := by decide +kernel
theorem dMo_expire_21 : decode cMo_expire 21 = .ok (.aload_n 0, 1) := by decide +kernel
theorem dMo_expire_22 : decode cMo_expire 22 = .ok (.getfield 37, 3) := by decide +kernel
theorem dMo_expire_25 : decode cMo_expire 25 = .ok (.iload_n 1, 1) := by decide +kernel
theorem dMo_expire_26 : decode cMo_expire 26 = .ok (.iaload, 1) := by decide +kernel
theorem dMo_expire_27 : decode cMo_expire 27 = .ok (.iconst 2, 1) := by decide +kernel
theorem dMo_expire_28 : decode cMo_expire 28 = .ok (.if_icmp .ne 15, 3) := by decide +kernel
theorem dMo_expire_31 : decode cMo_expire 31 = .ok (.aload_n 0, 1) := by decide +kernel
theorem dMo_expire_32 : decode cMo_expire 32 = .ok (.iload_n 1, 1) := by decide +kernel
theorem dMo_expire_33 : decode cMo_expire 33 = .ok (.invokevirtual 107, 3) := by decide +kernel
theorem dMo_expire_36 : decode cMo_expire 36 = .ok (.ifCond .ne 7, 3) := by decide +kernel
theorem dMo_expire_39 : decode cMo_expire 39 = .ok (.iconst 2, 1) := by decide +kernel
theorem dMo_expire_40 : decode cMo_expire 40 = .ok (.goto 4, 3) := by decide +kernel
theorem dMo_expire_43 : decode cMo_expire 43 = .ok (.iconst 0, 1) := by decide +kernel
theorem dMo_expire_44 : decode cMo_expire 44 = .ok (.putfield 95, 3) := by decide +kernel
theorem dMo_expire_47 : decode cMo_expire 47 = .ok (.aload_n 0, 1) := by decide +kernel
theorem dMo_expire_48 : decode cMo_expire 48 = .ok (.getfield 95, 3) := by decide +kernel
theorem dMo_expire_51 : decode cMo_expire 51 = .ok (.ifCond .le 5, 3) := by decide +kernel
theorem dMo_expire_54 : decode cMo_expire 54 = .ok (.iconst 0, 1) := by decide +kernel
theorem dMo_expire_55 : decode cMo_expire 55 = .ok (.ireturn, 1) := by decide +kernel
theorem dMo_expire_56 : decode cMo_expire 56 = .ok (.aload_n 0, 1) := by decide +kernel
theorem dMo_expire_57 : decode cMo_expire 57 = .ok (.getfield 49, 3) := by decide +kernel
theorem dMo_expire_60 : decode cMo_expire 60 = .ok (.iload_n 1, 1) := by decide +kernel
theorem dMo_expire_61 : decode cMo_expire 61 = .ok (.aload_n 0, 1) := by decide +kernel
theorem dMo_expire_62 : decode cMo_expire 62 = .ok (.getfield 49, 3) := by decide +kernel
theorem dMo_expire_65 : decode cMo_expire 65 = .ok (.iload_n 1, 1) := by decide +kernel
theorem dMo_expire_66 : decode cMo_expire 66 = .ok (.iaload, 1) := by decide +kernel
theorem dMo_expire_67 : decode cMo_expire 67 = .ok (.iconst 1, 1) := by decide +kernel
theorem dMo_expire_68 : decode cMo_expire 68 = .ok (.iadd, 1) := by decide +kernel
theorem dMo_expire_69 : decode cMo_expire 69 = .ok (.iastore, 1) := by decide +kernel
theorem dMo_expire_70 : decode cMo_expire 70 = .ok (.aload_n 0, 1) := by decide +kernel
theorem dMo_expire_71 : decode cMo_expire 71 = .ok (.getfield 49, 3) := by decide +kernel
theorem dMo_expire_74 : decode cMo_expire 74 = .ok (.iload_n 1, 1) := by decide +kernel
theorem dMo_expire_75 : decode cMo_expire 75 = .ok (.iaload, 1) := by decide +kernel
theorem dMo_expire_76 : decode cMo_expire 76 = .ok (.istore_n 2, 1) := by decide +kernel
theorem dMo_expire_77 : decode cMo_expire 77 = .ok (.iload_n 2, 1) := by decide +kernel
theorem dMo_expire_78 : decode cMo_expire 78 = .ok (.iconst 4, 1) := by decide +kernel
theorem dMo_expire_79 : decode cMo_expire 79 = .ok (.if_icmp .ne 38, 3) := by decide +kernel
theorem dMo_expire_82 : decode cMo_expire 82 = .ok (.aload_n 0, 1) := by decide +kernel
theorem dMo_expire_83 : decode cMo_expire 83 = .ok (.getfield 37, 3) := by decide +kernel
theorem dMo_expire_86 : decode cMo_expire 86 = .ok (.iload_n 1, 1) := by decide +kernel
theorem dMo_expire_87 : decode cMo_expire 87 = .ok (.iaload, 1) := by decide +kernel
theorem dMo_expire_88 : decode cMo_expire 88 = .ok (.iconst 1, 1) := by decide +kernel
theorem dMo_expire_89 : decode cMo_expire 89 = .ok (.if_icmp .ne 20, 3) := by decide +kernel
theorem dMo_expire_92 : decode cMo_expire 92 = .ok (.aload_n 0, 1) := by decide +kernel
theorem dMo_expire_93 : decode cMo_expire 93 = .ok (.getfield 37, 3) := by decide +kernel
theorem dMo_expire_96 : decode cMo_expire 96 = .ok (.iload_n 1, 1) := by decide +kernel
theorem dMo_expire_97 : decode cMo_expire 97 = .ok (.iconst 0, 1) := by decide +kernel
theorem dMo_expire_98 : decode cMo_expire 98 = .ok (.iastore, 1) := by decide +kernel
theorem dMo_expire_99 : decode cMo_expire 99 = .ok (.aload_n 0, 1) := by decide +kernel
theorem dMo_expire_100 : decode cMo_expire 100 = .ok (.getfield 49, 3) := by decide +kernel
theorem dMo_expire_103 : decode cMo_expire 103 = .ok (.iload_n 1, 1) := by decide +kernel
theorem dMo_expire_104 : decode cMo_expire 104 = .ok (.iconst 0, 1) := by decide +kernel
theorem dMo_expire_105 : decode cMo_expire 105 = .ok (.iastore, 1) := by decide +kernel
theorem dMo_expire_106 : decode cMo_expire 106 = .ok (.goto 38, 3) := by decide +kernel
theorem dMo_expire_109 : decode cMo_expire 109 = .ok (.aload_n 0, 1) := by decide +kernel
theorem dMo_expire_110 : decode cMo_expire 110 = .ok (.iload_n 1, 1) := by decide +kernel
theorem dMo_expire_111 : decode cMo_expire 111 = .ok (.invokevirtual 141, 3) := by decide +kernel
theorem dMo_expire_114 : decode cMo_expire 114 = .ok (.goto 30, 3) := by decide +kernel
theorem dMo_expire_117 : decode cMo_expire 117 = .ok (.aload_n 0, 1) := by decide +kernel
theorem dMo_expire_118 : decode cMo_expire 118 = .ok (.getfield 37, 3) := by decide +kernel
theorem dMo_expire_121 : decode cMo_expire 121 = .ok (.iload_n 1, 1) := by decide +kernel
theorem dMo_expire_122 : decode cMo_expire 122 = .ok (.iaload, 1) := by decide +kernel
theorem dMo_expire_123 : decode cMo_expire 123 = .ok (.iconst 1, 1) := by decide +kernel
theorem dMo_expire_124 : decode cMo_expire 124 = .ok (.if_icmp .ne 15, 3) := by decide +kernel
theorem dMo_expire_127 : decode cMo_expire 127 = .ok (.aload_n 0, 1) := by decide +kernel
theorem dMo_expire_128 : decode cMo_expire 128 = .ok (.iload_n 1, 1) := by decide +kernel
theorem dMo_expire_129 : decode cMo_expire 129 = .ok (.iconst 1, 1) := by decide +kernel
theorem dMo_expire_130 : decode cMo_expire 130 = .ok (.iconst 0, 1) := by decide +kernel
theorem dMo_expire_131 : decode cMo_expire 131 = .ok (.iconst 0, 1) := by decide +kernel
theorem dMo_expire_132 : decode cMo_expire 132 = .ok (.iconst (-1), 1) := by decide +kernel
theorem dMo_expire_133 : decode cMo_expire 133 = .ok (.invokevirtual 103, 3) := by decide +kernel
theorem dMo_expire_136 : decode cMo_expire 136 = .ok (.goto 8, 3) := by decide +kernel
theorem dMo_expire_139 : decode cMo_expire 139 = .ok (.aload_n 0, 1) := by decide +kernel
theorem dMo_expire_140 : decode cMo_expire 140 = .ok (.iload_n 1, 1) := by decide +kernel
theorem dMo_expire_141 : decode cMo_expire 141 = .ok (.invokevirtual 157, 3) := by decide +kernel
theorem dMo_expire_144 : decode cMo_expire 144 = .ok (.iload_n 2, 1) := by decide +kernel
theorem dMo_expire_145 : decode cMo_expire 145 = .ok (.ireturn, 1) := by decide +kernel
theorem dMo_bars_0 : decode cMo_bars 0 = .ok (.iload_n 1, 1) := by decide +kernel
theorem dMo_bars_1 : decode cMo_bars 1 = .ok (.iload_n 2, 1) := by decide +kernel
theorem dMo_bars_2 : decode cMo_bars 2 = .ok (.invokestatic 164, 3) := by decide +kernel
theorem dMo_bars_5 : decode cMo_bars 5 = .ok (.ifCond .ne 7, 3) := by decide +kernel
theorem dMo_bars_8 : decode cMo_bars 8 = .ok (.iconst 1, 1) := by decide +kernel
theorem dMo_bars_9 : decode cMo_bars 9 = .ok (.goto 29, 3) := by decide +kernel
theorem dMo_bars_12 : decode cMo_bars 12 = .ok (.aload_n 0, 1) := by decide +kernel
theorem dMo_bars_13 : decode cMo_bars 13 = .ok (.getfield 37, 3) := by decide +kernel
theorem dMo_bars_16 : decode cMo_bars 16 = .ok (.iload_n 1, 1) := by decide +kernel
theorem dMo_bars_17 : decode cMo_bars 17 = .ok (.iaload, 1) := by decide +kernel
