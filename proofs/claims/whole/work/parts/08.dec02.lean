theorem dX5_seek_0 : decode cX5_seek 0 = .ok (.aload_n 0, 1) := by decide +kernel
theorem dX5_seek_1 : decode cX5_seek 1 = .ok (.iconst 0, 1) := by decide +kernel
theorem dX5_seek_2 : decode cX5_seek 2 = .ok (.putfield 29, 3) := by decide +kernel
theorem dX5_seek_5 : decode cX5_seek 5 = .ok (.aload_n 0, 1) := by decide +kernel
theorem dX5_seek_6 : decode cX5_seek 6 = .ok (.iconst 0, 1) := by decide +kernel
theorem dX5_seek_7 : decode cX5_seek 7 = .ok (.putfield 33, 3) := by decide +kernel
theorem dX5_seek_10 : decode cX5_seek 10 = .ok (.iconst 0, 1) := by decide +kernel
theorem dX5_seek_11 : decode cX5_seek 11 = .ok (.istore_n 1, 1) := by decide +kernel
theorem dX5_seek_12 : decode cX5_seek 12 = .ok (.iload_n 1, 1) := by decide +kernel
theorem dX5_seek_13 : decode cX5_seek 13 = .ok (.aload_n 0, 1) := by decide +kernel
theorem dX5_seek_14 : decode cX5_seek 14 = .ok (.getfield 21, 3) := by decide +kernel
theorem dX5_seek_17 : decode cX5_seek 17 = .ok (.getfield 36, 3) := by decide +kernel
theorem dX5_seek_20 : decode cX5_seek 20 = .ok (.if_icmp .ge 30, 3) := by decide +kernel
theorem dX5_seek_23 : decode cX5_seek 23 = .ok (.aload_n 0, 1) := by decide +kernel
theorem dX5_seek_24 : decode cX5_seek 24 = .ok (.getfield 18, 3) := by decide +kernel
theorem dX5_seek_27 : decode cX5_seek 27 = .ok (.iload_n 1, 1) := by decide +kernel
theorem dX5_seek_28 : decode cX5_seek 28 = .ok (.aload_n 0, 1) := by decide +kernel
theorem dX5_seek_29 : decode cX5_seek 29 = .ok (.getfield 21, 3) := by decide +kernel
theorem dX5_seek_32 : decode cX5_seek 32 = .ok (.iload_n 1, 1) := by decide +kernel
theorem dX5_seek_33 : decode cX5_seek 33 = .ok (.aload_n 0, 1) := by decide +kernel
theorem dX5_seek_34 : decode cX5_seek 34 = .ok (.getfield 25, 3) := by decide +kernel
theorem dX5_seek_37 : decode cX5_seek 37 = .ok (.getfield 41, 3) := by decide +kernel
theorem dX5_seek_40 : decode cX5_seek 40 = .ok (.invokevirtual 46, 3) := by decide +kernel
theorem dX5_seek_43 : decode cX5_seek 43 = .ok (.iastore, 1) := by decide +kernel
theorem dX5_seek_44 : decode cX5_seek 44 = .ok (.iinc 1 1, 3) := by decide +kernel
theorem dX5_seek_47 : decode cX5_seek 47 = .ok (.goto (-35), 3) := by decide +kernel
theorem dX5_seek_50 : decode cX5_seek 50 = .ok (.iconst 0, 1) := by decide +kernel
theorem dX5_seek_51 : decode cX5_seek 51 = .ok (.istore_n 1, 1) := by decide +kernel
theorem dX5_seek_52 : decode cX5_seek 52 = .ok (.iload_n 1, 1) := by decide +kernel
theorem dX5_seek_53 : decode cX5_seek 53 = .ok (.aload_n 0, 1) := by decide +kernel
theorem dX5_seek_54 : decode cX5_seek 54 = .ok (.getfield 21, 3) := by decide +kernel
theorem dX5_seek_57 : decode cX5_seek 57 = .ok (.getfield 36, 3) := by decide +kernel
theorem dX5_seek_60 : decode cX5_seek 60 = .ok (.if_icmp .ge 33, 3) := by decide +kernel
theorem dX5_seek_63 : decode cX5_seek 63 = .ok (.aload_n 0, 1) := by decide +kernel
theorem dX5_seek_64 : decode cX5_seek 64 = .ok (.getfield 15, 3) := by decide +kernel
theorem dX5_seek_67 : decode cX5_seek 67 = .ok (.iconst 0, 1) := by decide +kernel
theorem dX5_seek_68 : decode cX5_seek 68 = .ok (.iload_n 1, 1) := by decide +kernel
theorem dX5_seek_69 : decode cX5_seek 69 = .ok (.iastore, 1) := by decide +kernel
theorem dX5_seek_70 : decode cX5_seek 70 = .ok (.aload_n 0, 1) := by decide +kernel
theorem dX5_seek_71 : decode cX5_seek 71 = .ok (.iconst 1, 1) := by decide +kernel
theorem dX5_seek_72 : decode cX5_seek 72 = .ok (.iconst 1, 1) := by decide +kernel
theorem dX5_seek_73 : decode cX5_seek 73 = .ok (.aload_n 0, 1) := by decide +kernel
theorem dX5_seek_74 : decode cX5_seek 74 = .ok (.getfield 21, 3) := by decide +kernel
theorem dX5_seek_77 : decode cX5_seek 77 = .ok (.getfield 49, 3) := by decide +kernel
theorem dX5_seek_80 : decode cX5_seek 80 = .ok (.iload_n 1, 1) := by decide +kernel
theorem dX5_seek_81 : decode cX5_seek 81 = .ok (.iaload, 1) := by decide +kernel
theorem dX5_seek_82 : decode cX5_seek 82 = .ok (.ishl, 1) := by decide +kernel
theorem dX5_seek_83 : decode cX5_seek 83 = .ok (.iconst 0, 1) := by decide +kernel
theorem dX5_seek_84 : decode cX5_seek 84 = .ok (.invokevirtual 52, 3) := by decide +kernel
theorem dX5_seek_87 : decode cX5_seek 87 = .ok (.iinc 1 1, 3) := by decide +kernel
theorem dX5_seek_90 : decode cX5_seek 90 = .ok (.goto (-38), 3) := by decide +kernel
theorem dX5_seek_93 : decode cX5_seek 93 = .ok (.return_, 1) := by decide +kernel
theorem dX5_extend_0 : decode cX5_extend 0 = .ok (.aload_n 0, 1) := by decide +kernel
theorem dX5_extend_1 : decode cX5_extend 1 = .ok (.getfield 29, 3) := by decide +kernel
theorem dX5_extend_4 : decode cX5_extend 4 = .ok (.ifCond .le 12, 3) := by decide +kernel
theorem dX5_extend_7 : decode cX5_extend 7 = .ok (.iload_n 3, 1) := by decide +kernel
theorem dX5_extend_8 : decode cX5_extend 8 = .ok (.aload_n 0, 1) := by decide +kernel
theorem dX5_extend_9 : decode cX5_extend 9 = .ok (.getfield 33, 3) := by decide +kernel
theorem dX5_extend_12 : decode cX5_extend 12 = .ok (.if_icmp .lt 4, 3) := by decide +kernel
theorem dX5_extend_15 : decode cX5_extend 15 = .ok (.return_, 1) := by decide +kernel
theorem dX5_extend_16 : decode cX5_extend 16 = .ok (.aload_n 0, 1) := by decide +kernel
theorem dX5_extend_17 : decode cX5_extend 17 = .ok (.getfield 15, 3) := by decide +kernel
theorem dX5_extend_20 : decode cX5_extend 20 = .ok (.iload_n 1, 1) := by decide +kernel
theorem dX5_extend_21 : decode cX5_extend 21 = .ok (.iconst 1, 1) := by decide +kernel
theorem dX5_extend_22 : decode cX5_extend 22 = .ok (.isub, 1) := by decide +kernel
theorem dX5_extend_23 : decode cX5_extend 23 = .ok (.iaload, 1) := by decide +kernel
theorem dX5_extend_24 : decode cX5_extend 24 = .ok (.istore 4, 2) := by decide +kernel
theorem dX5_extend_26 : decode cX5_extend 26 = .ok (.iload_n 1, 1) := by decide +kernel
theorem dX5_extend_27 : decode cX5_extend 27 = .ok (.iconst 1, 1) := by decide +kernel
theorem dX5_extend_28 : decode cX5_extend 28 = .ok (.if_icmp .le 45, 3) := by decide +kernel
theorem dX5_extend_31 : decode cX5_extend 31 = .ok (.aload_n 0, 1) := by decide +kernel
theorem dX5_extend_32 : decode cX5_extend 32 = .ok (.iload 4, 2) := by decide +kernel
theorem dX5_extend_34 : decode cX5_extend 34 = .ok (.aload_n 0, 1) := by decide +kernel
theorem dX5_extend_35 : decode cX5_extend 35 = .ok (.getfield 21, 3) := by decide +kernel
theorem dX5_extend_38 : decode cX5_extend 38 = .ok (.getfield 49, 3) := by decide +kernel
theorem dX5_extend_41 : decode cX5_extend 41 = .ok (.aload_n 0, 1) := by decide +kernel
theorem dX5_extend_42 : decode cX5_extend 42 = .ok (.getfield 15, 3) := by decide +kernel
theorem dX5_extend_45 : decode cX5_extend 45 = .ok (.iconst 0, 1) := by decide +kernel
theorem dX5_extend_46 : decode cX5_extend 46 = .ok (.iaload, 1) := by decide +kernel
theorem dX5_extend_47 : decode cX5_extend 47 = .ok (.iaload, 1) := by decide +kernel
theorem dX5_extend_48 : decode cX5_extend 48 = .ok (.invokevirtual 56, 3) := by decide +kernel
theorem dX5_extend_51 : decode cX5_extend 51 = .ok (.ifCond .eq 22, 3) := by decide +kernel
theorem dX5_extend_54 : decode cX5_extend 54 = .ok (.aload_n 0, 1) := by decide +kernel
theorem dX5_extend_55 : decode cX5_extend 55 = .ok (.iload_n 1, 1) := by decide +kernel
theorem dX5_extend_56 : decode cX5_extend 56 = .ok (.iload_n 3, 1) := by decide +kernel
theorem dX5_extend_57 : decode cX5_extend 57 = .ok (.aload_n 0, 1) := by decide +kernel
theorem dX5_extend_58 : decode cX5_extend 58 = .ok (.iload 4, 2) := by decide +kernel
theorem dX5_extend_60 : decode cX5_extend 60 = .ok (.aload_n 0, 1) := by decide +kernel
theorem dX5_extend_61 : decode cX5_extend 61 = .ok (.getfield 15, 3) := by decide +kernel
theorem dX5_extend_64 : decode cX5_extend 64 = .ok (.iconst 0, 1) := by decide +kernel
theorem dX5_extend_65 : decode cX5_extend 65 = .ok (.iaload, 1) := by decide +kernel
theorem dX5_extend_66 : decode cX5_extend 66 = .ok (.invokevirtual 60, 3) := by decide +kernel
theorem dX5_extend_69 : decode cX5_extend 69 = .ok (.iadd, 1) := by decide +kernel
theorem dX5_extend_70 : decode cX5_extend 70 = .ok (.invokevirtual 64, 3) := by decide +kernel
theorem dX5_extend_73 : decode cX5_extend 73 = .ok (.iload_n 1, 1) := by decide +kernel
theorem dX5_extend_74 : decode cX5_extend 74 = .ok (.bipush 6, 2) := by decide +kernel
theorem dX5_extend_76 : decode cX5_extend 76 = .ok (.if_icmp .lt 4, 3) := by decide +kernel
theorem dX5_extend_79 : decode cX5_extend 79 = .ok (.return_, 1) := by decide +kernel
theorem dX5_extend_80 : decode cX5_extend 80 = .ok (.iconst 0, 1) := by decide +kernel
theorem dX5_extend_81 : decode cX5_extend 81 = .ok (.istore 5, 2) := by decide +kernel
theorem dX5_extend_83 : decode cX5_extend 83 = .ok (.iload 5, 2) := by decide +kernel
theorem dX5_extend_85 : decode cX5_extend 85 = .ok (.aload_n 0, 1) := by decide +kernel
theorem dX5_extend_86 : decode cX5_extend 86 = .ok (.getfield 21, 3) := by decide +kernel
theorem dX5_extend_89 : decode cX5_extend 89 = .ok (.getfield 36, 3) := by decide +kernel
theorem dX5_extend_92 : decode cX5_extend 92 = .ok (.if_icmp .ge 91, 3) := by decide +kernel
theorem dX5_extend_95 : decode cX5_extend 95 = .ok (.aload_n 0, 1) := by decide +kernel
theorem dX5_extend_96 : decode cX5_extend 96 = .ok (.getfield 21, 3) := by decide +kernel
theorem dX5_extend_99 : decode cX5_extend 99 = .ok (.getfield 49, 3) := by decide +kernel
theorem dX5_extend_102 : decode cX5_extend 102 = .ok (.iload 5, 2) := by decide +kernel
theorem dX5_extend_104 : decode cX5_extend 104 = .ok (.iaload, 1) := by decide +kernel
theorem dX5_extend_105 : decode cX5_extend 105 = .ok (.istore 6, 2) := by decide +kernel
theorem dX5_extend_107 : decode cX5_extend 107 = .ok (.iload 6, 2) := by decide +kernel
theorem dX5_extend_109 : decode cX5_extend 109 = .ok (.aload_n 0, 1) := by decide +kernel
theorem dX5_extend_110 : decode cX5_extend 110 = .ok (.getfield 21, 3) := by decide +kernel
theorem dX5_extend_113 : decode cX5_extend 113 = .ok (.getfield 49, 3) := by decide +kernel
theorem dX5_extend_116 : decode cX5_extend 116 = .ok (.aload_n 0, 1) := by decide +kernel
theorem dX5_extend_117 : decode cX5_extend 117 = .ok (.getfield 15, 3) := by decide +kernel
theorem dX5_extend_120 : decode cX5_extend 120 = .ok (.iconst 0, 1) := by decide +kernel
theorem dX5_extend_121 : decode cX5_extend 121 = .ok (.iaload, 1) := by decide +kernel
theorem dX5_extend_122 : decode cX5_extend 122 = .ok (.iaload, 1) := by decide +kernel
theorem dX5_extend_123 : decode cX5_extend 123 = .ok (.if_icmp .le 54, 3) := by decide +kernel
theorem dX5_extend_126 : decode cX5_extend 126 = .ok (.iload_n 2, 1) := by decide +kernel
theorem dX5_extend_127 : decode cX5_extend 127 = .ok (.iload 6, 2) := by decide +kernel
theorem dX5_extend_129 : decode cX5_extend 129 = .ok (.ishr, 1) := by decide +kernel
theorem dX5_extend_130 : decode cX5_extend 130 = .ok (.iconst 1, 1) := by decide +kernel
theorem dX5_extend_131 : decode cX5_extend 131 = .ok (.iand, 1) := by decide +kernel
theorem dX5_extend_132 : decode cX5_extend 132 = .ok (.ifCond .ne 45, 3) := by decide +kernel
theorem dX5_extend_135 : decode cX5_extend 135 = .ok (.aload_n 0, 1) := by decide +kernel
theorem dX5_extend_136 : decode cX5_extend 136 = .ok (.iload 4, 2) := by decide +kernel
theorem dX5_extend_138 : decode cX5_extend 138 = .ok (.iload 6, 2) := by decide +kernel
theorem dX5_extend_140 : decode cX5_extend 140 = .ok (.invokevirtual 56, 3) := by decide +kernel
theorem dX5_extend_143 : decode cX5_extend 143 = .ok (.ifCond .eq 34, 3) := by decide +kernel
theorem dX5_extend_146 : decode cX5_extend 146 = .ok (.aload_n 0, 1) := by decide +kernel
theorem dX5_extend_147 : decode cX5_extend 147 = .ok (.getfield 15, 3) := by decide +kernel
theorem dX5_extend_150 : decode cX5_extend 150 = .ok (.iload_n 1, 1) := by decide +kernel
theorem dX5_extend_151 : decode cX5_extend 151 = .ok (.iload 5, 2) := by decide +kernel
theorem dX5_extend_153 : decode cX5_extend 153 = .ok (.iastore, 1) := by decide +kernel
theorem dX5_extend_154 : decode cX5_extend 154 = .ok (.aload_n 0, 1) := by decide +kernel
theorem dX5_extend_155 : decode cX5_extend 155 = .ok (.iload_n 1, 1) := by decide +kernel
theorem dX5_extend_156 : decode cX5_extend 156 = .ok (.iconst 1, 1) := by decide +kernel
theorem dX5_extend_157 : decode cX5_extend 157 = .ok (.iadd, 1) := by decide +kernel
theorem dX5_extend_158 : decode cX5_extend 158 = .ok (.iload_n 2, 1) := by decide +kernel
theorem dX5_extend_159 : decode cX5_extend 159 = .ok (.iconst 1, 1) := by decide +kernel
theorem dX5_extend_160 : decode cX5_extend 160 = .ok (.iload 6, 2) := by decide +kernel
theorem dX5_extend_162 : decode cX5_extend 162 = .ok (.ishl, 1) := by decide +kernel
theorem dX5_extend_163 : decode cX5_extend 163 = .ok (.ior, 1) := by decide +kernel
theorem dX5_extend_164 : decode cX5_extend 164 = .ok (.iload_n 3, 1) := by decide +kernel
theorem dX5_extend_165 : decode cX5_extend 165 = .ok (.aload_n 0, 1) := by decide +kernel
theorem dX5_extend_166 : decode cX5_extend 166 = .ok (.iload 4, 2) := by decide +kernel
theorem dX5_extend_168 : decode cX5_extend 168 = .ok (.iload 5, 2) := by decide +kernel
theorem dX5_extend_170 : decode cX5_extend 170 = .ok (.invokevirtual 60, 3) := by decide +kernel
theorem dX5_extend_173 : decode cX5_extend 173 = .ok (.iadd, 1) := by decide +kernel
theorem dX5_extend_174 : decode cX5_extend 174 = .ok (.invokevirtual 52, 3) := by decide +kernel
theorem dX5_extend_177 : decode cX5_extend 177 = .ok (.iinc 5 1, 3) := by decide +kernel
theorem dX5_extend_180 : decode cX5_extend 180 = .ok (.goto (-97), 3) := by decide +kernel
theorem dX5_extend_183 : decode cX5_extend 183 = .ok (.return_, 1) := by decide +kernel
theorem dX5_isWanted_0 : decode cX5_isWanted 0 = .ok (.aload_n 0, 1) := by decide +kernel
theorem dX5_isWanted_1 : decode cX5_isWanted 1 = .ok (.getfield 21, 3) := by decide +kernel
theorem dX5_isWanted_4 : decode cX5_isWanted 4 = .ok (.getfield 68, 3) := by decide +kernel
theorem dX5_isWanted_7 : decode cX5_isWanted 7 = .ok (.iload_n 1, 1) := by decide +kernel
theorem dX5_isWanted_8 : decode cX5_isWanted 8 = .ok (.iaload, 1) := by decide +kernel
theorem dX5_isWanted_9 : decode cX5_isWanted 9 = .ok (.aload_n 0, 1) := by decide +kernel
theorem dX5_isWanted_10 : decode cX5_isWanted 10 = .ok (.getfield 25, 3) := by decide +kernel
theorem dX5_isWanted_13 : decode cX5_isWanted 13 = .ok (.getfield 71, 3) := by decide +kernel
theorem dX5_isWanted_16 : decode cX5_isWanted 16 = .ok (.iload_n 2, 1) := by decide +kernel
theorem dX5_isWanted_17 : decode cX5_isWanted 17 = .ok (.iaload, 1) := by decide +kernel
theorem dX5_isWanted_18 : decode cX5_isWanted 18 = .ok (.if_icmp .ne 7, 3) := by decide +kernel
theorem dX5_isWanted_21 : decode cX5_isWanted 21 = .ok (.iconst 1, 1) := by decide +kernel
theorem dX5_isWanted_22 : decode cX5_isWanted 22 = .ok (.goto 4, 3) := by decide +kernel
theorem dX5_isWanted_25 : decode cX5_isWanted 25 = .ok (.iconst 0, 1) := by decide +kernel
theorem dX5_isWanted_26 : decode cX5_isWanted 26 = .ok (.ireturn, 1) := by decide +kernel
theorem dX5_owedFor_0 : decode cX5_owedFor 0 = .ok (.iconst 0, 1) := by decide +kernel
theorem dX5_owedFor_1 : decode cX5_owedFor 1 = .ok (.aload_n 0, 1) := by decide +kernel
theorem dX5_owedFor_2 : decode cX5_owedFor 2 = .ok (.getfield 18, 3) := by decide +kernel
theorem dX5_owedFor_5 : decode cX5_owedFor 5 = .ok (.iload_n 1, 1) := by decide +kernel
theorem dX5_owedFor_6 : decode cX5_owedFor 6 = .ok (.iaload, 1) := by decide +kernel
theorem dX5_owedFor_7 : decode cX5_owedFor 7 = .ok (.aload_n 0, 1) := by decide +kernel
theorem dX5_owedFor_8 : decode cX5_owedFor 8 = .ok (.getfield 18, 3) := by decide +kernel
theorem dX5_owedFor_11 : decode cX5_owedFor 11 = .ok (.iload_n 2, 1) := by decide +kernel
theorem dX5_owedFor_12 : decode cX5_owedFor 12 = .ok (.iaload, 1) := by decide +kernel
theorem dX5_owedFor_13 : decode cX5_owedFor 13 = .ok (.isub, 1) := by decide +kernel
theorem dX5_owedFor_14 : decode cX5_owedFor 14 = .ok (.invokestatic 74, 3) := by decide +kernel
theorem dX5_owedFor_17 : decode cX5_owedFor 17 = .ok (.ireturn, 1) := by decide +kernel
theorem dX5_takeIfBetter_0 : decode cX5_takeIfBetter 0 = .ok (.aload_n 0, 1) := by decide +kernel
theorem dX5_takeIfBetter_1 : decode cX5_takeIfBetter 1 = .ok (.getfield 29, 3) := by decide +kernel
theorem dX5_takeIfBetter_4 : decode cX5_takeIfBetter 4 = .ok (.ifCond .eq 11, 3) := by decide +kernel
theorem dX5_takeIfBetter_7 : decode cX5_takeIfBetter 7 = .ok (.iload_n 2, 1) := by decide +kernel
theorem dX5_takeIfBetter_8 : decode cX5_takeIfBetter 8 = .ok (.aload_n 0, 1) := by decide +kernel
theorem dX5_takeIfBetter_9 : decode cX5_takeIfBetter 9 = .ok (.getfield 33, 3) := by decide +kernel
theorem dX5_takeIfBetter_12 : decode cX5_takeIfBetter 12 = .ok (.if_icmp .ge 27, 3) := by decide +kernel
theorem dX5_takeIfBetter_15 : decode cX5_takeIfBetter 15 = .ok (.aload_n 0, 1) := by decide +kernel
theorem dX5_takeIfBetter_16 : decode cX5_takeIfBetter 16 = .ok (.iload_n 1, 1) := by decide +kernel
theorem dX5_takeIfBetter_17 : decode cX5_takeIfBetter 17 = .ok (.putfield 29, 3) := by decide +kernel
theorem dX5_takeIfBetter_20 : decode cX5_takeIfBetter 20 = .ok (.aload_n 0, 1) := by decide +kernel
theorem dX5_takeIfBetter_21 : decode cX5_takeIfBetter 21 = .ok (.iload_n 2, 1) := by decide +kernel
theorem dX5_takeIfBetter_22 : decode cX5_takeIfBetter 22 = .ok (.putfield 33, 3) := by decide +kernel
theorem dX5_takeIfBetter_25 : decode cX5_takeIfBetter 25 = .ok (.aload_n 0, 1) := by decide +kernel
theorem dX5_takeIfBetter_26 : decode cX5_takeIfBetter 26 = .ok (.getfield 15, 3) := by decide +kernel
theorem dX5_takeIfBetter_29 : decode cX5_takeIfBetter 29 = .ok (.iconst 0, 1) := by decide +kernel
theorem dX5_takeIfBetter_30 : decode cX5_takeIfBetter 30 = .ok (.aload_n 0, 1) := by decide +kernel
theorem dX5_takeIfBetter_31 : decode cX5_takeIfBetter 31 = .ok (.getfield 9, 3) := by decide +kernel
theorem dX5_takeIfBetter_34 : decode cX5_takeIfBetter 34 = .ok (.iconst 0, 1) := by decide +kernel
theorem dX5_takeIfBetter_35 : decode cX5_takeIfBetter 35 = .ok (.iload_n 1, 1) := by decide +kernel
theorem dX5_takeIfBetter_36 : decode cX5_takeIfBetter 36 = .ok (.invokestatic 79, 3) := by decide +kernel
theorem dX5_takeIfBetter_39 : decode cX5_takeIfBetter 39 = .ok (.return_, 1) := by decide +kernel
theorem dX6_init_0 : decode cX6_init 0 = .ok (.aload_n 0, 1) := by decide +kernel
theorem dX6_init_1 : decode cX6_init 1 = .ok (.invokespecial 3, 3) := by decide +kernel
theorem dX6_init_4 : decode cX6_init 4 = .ok (.aload_n 0, 1) := by decide +kernel
theorem dX6_init_5 : decode cX6_init 5 = .ok (.bipush 6, 2) := by decide +kernel
theorem dX6_init_7 : decode cX6_init 7 = .ok (.newarray .int, 2) := by decide +kernel
theorem dX6_init_9 : decode cX6_init 9 = .ok (.putfield 9, 3) := by decide +kernel
theorem dX6_init_12 : decode cX6_init 12 = .ok (.aload_n 0, 1) := by decide +kernel
theorem dX6_init_13 : decode cX6_init 13 = .ok (.bipush 6, 2) := by decide +kernel
theorem dX6_init_15 : decode cX6_init 15 = .ok (.newarray .int, 2) := by decide +kernel
theorem dX6_init_17 : decode cX6_init 17 = .ok (.putfield 15, 3) := by decide +kernel
theorem dX6_init_20 : decode cX6_init 20 = .ok (.aload_n 0, 1) := by decide +kernel
theorem dX6_init_21 : decode cX6_init 21 = .ok (.bipush 6, 2) := by decide +kernel
theorem dX6_init_23 : decode cX6_init 23 = .ok (.newarray .int, 2) := by decide +kernel
theorem dX6_init_25 : decode cX6_init 25 = .ok (.putfield 18, 3) := by decide +kernel
theorem dX6_init_28 : decode cX6_init 28 = .ok (.aload_n 0, 1) := by decide +kernel
theorem dX6_init_29 : decode cX6_init 29 = .ok (.sipush 1024, 3) := by decide +kernel
theorem dX6_init_32 : decode cX6_init 32 = .ok (.newarray .int, 2) := by decide +kernel
theorem dX6_init_34 : decode cX6_init 34 = .ok (.putfield 21, 3) := by decide +kernel
theorem dX6_init_37 : decode cX6_init 37 = .ok (.return_, 1) := by decide +kernel
theorem dX6_add_0 : decode cX6_add 0 = .ok (.aload_n 0, 1) := by decide +kernel
theorem dX6_add_1 : decode cX6_add 1 = .ok (.getfield 24, 3) := by decide +kernel
theorem dX6_add_4 : decode cX6_add 4 = .ok (.bipush 6, 2) := by decide +kernel
theorem dX6_add_6 : decode cX6_add 6 = .ok (.if_icmp .ge 33, 3) := by decide +kernel
theorem dX6_add_9 : decode cX6_add 9 = .ok (.aload_n 0, 1) := by decide +kernel
theorem dX6_add_10 : decode cX6_add 10 = .ok (.getfield 9, 3) := by decide +kernel
theorem dX6_add_13 : decode cX6_add 13 = .ok (.aload_n 0, 1) := by decide +kernel
theorem dX6_add_14 : decode cX6_add 14 = .ok (.getfield 24, 3) := by decide +kernel
theorem dX6_add_17 : decode cX6_add 17 = .ok (.iload_n 1, 1) := by decide +kernel
theorem dX6_add_18 : decode cX6_add 18 = .ok (.iastore, 1) := by decide +kernel
theorem dX6_add_19 : decode cX6_add 19 = .ok (.aload_n 0, 1) := by decide +kernel
theorem dX6_add_20 : decode cX6_add 20 = .ok (.getfield 15, 3) := by decide +kernel
theorem dX6_add_23 : decode cX6_add 23 = .ok (.aload_n 0, 1) := by decide +kernel
theorem dX6_add_24 : decode cX6_add 24 = .ok (.getfield 24, 3) := by decide +kernel
theorem dX6_add_27 : decode cX6_add 27 = .ok (.iload_n 2, 1) := by decide +kernel
theorem dX6_add_28 : decode cX6_add 28 = .ok (.iastore, 1) := by decide +kernel
theorem dX6_add_29 : decode cX6_add 29 = .ok (.aload_n 0, 1) := by decide +kernel
theorem dX6_add_30 : decode cX6_add 30 = .ok (.dup, 1) := by decide +kernel
theorem dX6_add_31 : decode cX6_add 31 = .ok (.getfield 24, 3) := by decide +kernel
theorem dX6_add_34 : decode cX6_add 34 = .ok (.iconst 1, 1) := by decide +kernel
theorem dX6_add_35 : decode cX6_add 35 = .ok (.iadd, 1) := by decide +kernel
theorem dX6_add_36 : decode cX6_add 36 = .ok (.putfield 24, 3) := by decide +kernel
theorem dX6_add_39 : decode cX6_add 39 = .ok (.return_, 1) := by decide +kernel
theorem dX6_countRows_0 : decode cX6_countRows 0 = .ok (.aload_n 0, 1) := by decide +kernel
theorem dX6_countRows_1 : decode cX6_countRows 1 = .ok (.aload_n 1, 1) := by decide +kernel
theorem dX6_countRows_2 : decode cX6_countRows 2 = .ok (.aload_n 0, 1) := by decide +kernel
theorem dX6_countRows_3 : decode cX6_countRows 3 = .ok (.getfield 24, 3) := by decide +kernel
theorem dX6_countRows_6 : decode cX6_countRows 6 = .ok (.iconst 1, 1) := by decide +kernel
theorem dX6_countRows_7 : decode cX6_countRows 7 = .ok (.isub, 1) := by decide +kernel
theorem dX6_countRows_8 : decode cX6_countRows 8 = .ok (.invokevirtual 28, 3) := by decide +kernel
theorem dX6_countRows_11 : decode cX6_countRows 11 = .ok (.iconst 0, 1) := by decide +kernel
theorem dX6_countRows_12 : decode cX6_countRows 12 = .ok (.istore_n 2, 1) := by decide +kernel
theorem dX6_countRows_13 : decode cX6_countRows 13 = .ok (.iconst 0, 1) := by decide +kernel
theorem dX6_countRows_14 : decode cX6_countRows 14 = .ok (.istore_n 3, 1) := by decide +kernel
theorem dX6_countRows_15 : decode cX6_countRows 15 = .ok (.iload_n 3, 1) := by decide +kernel
theorem dX6_countRows_16 : decode cX6_countRows 16 = .ok (.iconst 1, 1) := by decide +kernel
theorem dX6_countRows_17 : decode cX6_countRows 17 = .ok (.aload_n 1, 1) := by decide +kernel
theorem dX6_countRows_18 : decode cX6_countRows 18 = .ok (.getfield 32, 3) := by decide +kernel
theorem dX6_countRows_21 : decode cX6_countRows 21 = .ok (.ishl, 1) := by decide +kernel
theorem dX6_countRows_22 : decode cX6_countRows 22 = .ok (.if_icmp .ge 29, 3) := by decide +kernel
theorem dX6_countRows_25 : decode cX6_countRows 25 = .ok (.iload_n 3, 1) := by decide +kernel
theorem dX6_countRows_26 : decode cX6_countRows 26 = .ok (.invokestatic 37, 3) := by decide +kernel
theorem dX6_countRows_29 : decode cX6_countRows 29 = .ok (.aload_n 0, 1) := by decide +kernel
theorem dX6_countRows_30 : decode cX6_countRows 30 = .ok (.getfield 24, 3) := by decide +kernel
theorem dX6_countRows_33 : decode cX6_countRows 33 = .ok (.if_icmp .ne 12, 3) := by decide +kernel
theorem dX6_countRows_36 : decode cX6_countRows 36 = .ok (.iload_n 2, 1) := by decide +kernel
theorem dX6_countRows_37 : decode cX6_countRows 37 = .ok (.aload_n 0, 1) := by decide +kernel
theorem dX6_countRows_38 : decode cX6_countRows 38 = .ok (.getfield 21, 3) := by decide +kernel
theorem dX6_countRows_41 : decode cX6_countRows 41 = .ok (.iload_n 3, 1) := by decide +kernel
theorem dX6_countRows_42 : decode cX6_countRows 42 = .ok (.iaload, 1) := by decide +kernel
theorem dX6_countRows_43 : decode cX6_countRows 43 = .ok (.iadd, 1) := by decide +kernel
theorem dX6_countRows_44 : decode cX6_countRows 44 = .ok (.istore_n 2, 1) := by decide +kernel
theorem dX6_countRows_45 : decode cX6_countRows 45 = .ok (.iinc 3 1, 3) := by decide +kernel
theorem dX6_countRows_48 : decode cX6_countRows 48 = .ok (.goto (-33), 3) := by decide +kernel
theorem dX6_countRows_51 : decode cX6_countRows 51 = .ok (.iload_n 2, 1) := by decide +kernel
theorem dX6_countRows_52 : decode cX6_countRows 52 = .ok (.ireturn, 1) := by decide +kernel
theorem dX6_whoCanBe_0 : decode cX6_whoCanBe 0 = .ok (.aload_n 0, 1) := by decide +kernel
theorem dX6_whoCanBe_1 : decode cX6_whoCanBe 1 = .ok (.aload_n 2, 1) := by decide +kernel
theorem dX6_whoCanBe_2 : decode cX6_whoCanBe 2 = .ok (.iload_n 1, 1) := by decide +kernel
theorem dX6_whoCanBe_3 : decode cX6_whoCanBe 3 = .ok (.invokevirtual 28, 3) := by decide +kernel
theorem dX6_whoCanBe_6 : decode cX6_whoCanBe 6 = .ok (.iconst 0, 1) := by decide +kernel
theorem dX6_whoCanBe_7 : decode cX6_whoCanBe 7 = .ok (.istore_n 3, 1) := by decide +kernel
theorem dX6_whoCanBe_8 : decode cX6_whoCanBe 8 = .ok (.iconst 0, 1) := by decide +kernel
theorem dX6_whoCanBe_9 : decode cX6_whoCanBe 9 = .ok (.istore 4, 2) := by decide +kernel
theorem dX6_whoCanBe_11 : decode cX6_whoCanBe 11 = .ok (.iload 4, 2) := by decide +kernel
theorem dX6_whoCanBe_13 : decode cX6_whoCanBe 13 = .ok (.iconst 1, 1) := by decide +kernel
theorem dX6_whoCanBe_14 : decode cX6_whoCanBe 14 = .ok (.aload_n 2, 1) := by decide +kernel
theorem dX6_whoCanBe_15 : decode cX6_whoCanBe 15 = .ok (.getfield 32, 3) := by decide +kernel
theorem dX6_whoCanBe_18 : decode cX6_whoCanBe 18 = .ok (.ishl, 1) := by decide +kernel
theorem dX6_whoCanBe_19 : decode cX6_whoCanBe 19 = .ok (.if_icmp .ge 52, 3) := by decide +kernel
theorem dX6_whoCanBe_22 : decode cX6_whoCanBe 22 = .ok (.iload 4, 2) := by decide +kernel
theorem dX6_whoCanBe_24 : decode cX6_whoCanBe 24 = .ok (.invokestatic 37, 3) := by decide +kernel
theorem dX6_whoCanBe_27 : decode cX6_whoCanBe 27 = .ok (.aload_n 0, 1) := by decide +kernel
theorem dX6_whoCanBe_28 : decode cX6_whoCanBe 28 = .ok (.getfield 24, 3) := by decide +kernel
theorem dX6_whoCanBe_31 : decode cX6_whoCanBe 31 = .ok (.iconst 1, 1) := by decide +kernel
theorem dX6_whoCanBe_32 : decode cX6_whoCanBe 32 = .ok (.isub, 1) := by decide +kernel
theorem dX6_whoCanBe_33 : decode cX6_whoCanBe 33 = .ok (.if_icmp .ne 32, 3) := by decide +kernel
theorem dX6_whoCanBe_36 : decode cX6_whoCanBe 36 = .ok (.aload_n 0, 1) := by decide +kernel
theorem dX6_whoCanBe_37 : decode cX6_whoCanBe 37 = .ok (.getfield 21, 3) := by decide +kernel
theorem dX6_whoCanBe_40 : decode cX6_whoCanBe 40 = .ok (.iload 4, 2) := by decide +kernel
theorem dX6_whoCanBe_42 : decode cX6_whoCanBe 42 = .ok (.iaload, 1) := by decide +kernel
theorem dX6_whoCanBe_43 : decode cX6_whoCanBe 43 = .ok (.ifCond .le 22, 3) := by decide +kernel
theorem dX6_whoCanBe_46 : decode cX6_whoCanBe 46 = .ok (.iload_n 3, 1) := by decide +kernel
theorem dX6_whoCanBe_47 : decode cX6_whoCanBe 47 = .ok (.aload_n 0, 1) := by decide +kernel
theorem dX6_whoCanBe_48 : decode cX6_whoCanBe 48 = .ok (.getfield 18, 3) := by decide +kernel
theorem dX6_whoCanBe_51 : decode cX6_whoCanBe 51 = .ok (.aload_n 0, 1) := by decide +kernel
theorem dX6_whoCanBe_52 : decode cX6_whoCanBe 52 = .ok (.getfield 24, 3) := by decide +kernel
theorem dX6_whoCanBe_55 : decode cX6_whoCanBe 55 = .ok (.iconst 1, 1) := by decide +kernel
theorem dX6_whoCanBe_56 : decode cX6_whoCanBe 56 = .ok (.isub, 1) := by decide +kernel
theorem dX6_whoCanBe_57 : decode cX6_whoCanBe 57 = .ok (.iaload, 1) := by decide +kernel
theorem dX6_whoCanBe_58 : decode cX6_whoCanBe 58 = .ok (.iload 4, 2) := by decide +kernel
theorem dX6_whoCanBe_60 : decode cX6_whoCanBe 60 = .ok (.iconst (-1), 1) := by decide +kernel
theorem dX6_whoCanBe_61 : decode cX6_whoCanBe 61 = .ok (.ixor, 1) := by decide +kernel
theorem dX6_whoCanBe_62 : decode cX6_whoCanBe 62 = .ok (.iand, 1) := by decide +kernel
theorem dX6_whoCanBe_63 : decode cX6_whoCanBe 63 = .ok (.ior, 1) := by decide +kernel
theorem dX6_whoCanBe_64 : decode cX6_whoCanBe 64 = .ok (.istore_n 3, 1) := by decide +kernel
theorem dX6_whoCanBe_65 : decode cX6_whoCanBe 65 = .ok (.iinc 4 1, 3) := by decide +kernel
theorem dX6_whoCanBe_68 : decode cX6_whoCanBe 68 = .ok (.goto (-57), 3) := by decide +kernel
theorem dX6_whoCanBe_71 : decode cX6_whoCanBe 71 = .ok (.iload_n 3, 1) := by decide +kernel
theorem dX6_whoCanBe_72 : decode cX6_whoCanBe 72 = .ok (.ireturn, 1) := by decide +kernel
theorem dX6_fillRows_0 : decode cX6_fillRows 0 = .ok (.iconst 0, 1) := by decide +kernel
theorem dX6_fillRows_1 : decode cX6_fillRows 1 = .ok (.istore_n 3, 1) := by decide +kernel
theorem dX6_fillRows_2 : decode cX6_fillRows 2 = .ok (.iload_n 3, 1) := by decide +kernel
theorem dX6_fillRows_3 : decode cX6_fillRows 3 = .ok (.aload_n 0, 1) := by decide +kernel
theorem dX6_fillRows_4 : decode cX6_fillRows 4 = .ok (.getfield 24, 3) := by decide +kernel
theorem dX6_fillRows_7 : decode cX6_fillRows 7 = .ok (.if_icmp .ge 49, 3) := by decide +kernel
theorem dX6_fillRows_10 : decode cX6_fillRows 10 = .ok (.aload_n 0, 1) := by decide +kernel
theorem dX6_fillRows_11 : decode cX6_fillRows 11 = .ok (.getfield 18, 3) := by decide +kernel
theorem dX6_fillRows_14 : decode cX6_fillRows 14 = .ok (.iload_n 3, 1) := by decide +kernel
theorem dX6_fillRows_15 : decode cX6_fillRows 15 = .ok (.aload_n 0, 1) := by decide +kernel
theorem dX6_fillRows_16 : decode cX6_fillRows 16 = .ok (.iload_n 3, 1) := by decide +kernel
theorem dX6_fillRows_17 : decode cX6_fillRows 17 = .ok (.aload_n 0, 1) := by decide +kernel
theorem dX6_fillRows_18 : decode cX6_fillRows 18 = .ok (.getfield 24, 3) := by decide +kernel
theorem dX6_fillRows_21 : decode cX6_fillRows 21 = .ok (.iconst 1, 1) := by decide +kernel
theorem dX6_fillRows_22 : decode cX6_fillRows 22 = .ok (.isub, 1) := by decide +kernel
theorem dX6_fillRows_23 : decode cX6_fillRows 23 = .ok (.if_icmp .ne 7, 3) := by decide +kernel
theorem dX6_fillRows_26 : decode cX6_fillRows 26 = .ok (.iload_n 2, 1) := by decide +kernel
theorem dX6_fillRows_27 : decode cX6_fillRows 27 = .ok (.goto 18, 3) := by decide +kernel
theorem dX6_fillRows_30 : decode cX6_fillRows 30 = .ok (.iload_n 3, 1) := by decide +kernel
theorem dX6_fillRows_31 : decode cX6_fillRows 31 = .ok (.iload_n 2, 1) := by decide +kernel
theorem dX6_fillRows_32 : decode cX6_fillRows 32 = .ok (.if_icmp .ne 12, 3) := by decide +kernel
theorem dX6_fillRows_35 : decode cX6_fillRows 35 = .ok (.aload_n 0, 1) := by decide +kernel
theorem dX6_fillRows_36 : decode cX6_fillRows 36 = .ok (.getfield 24, 3) := by decide +kernel
theorem dX6_fillRows_39 : decode cX6_fillRows 39 = .ok (.iconst 1, 1) := by decide +kernel
theorem dX6_fillRows_40 : decode cX6_fillRows 40 = .ok (.isub, 1) := by decide +kernel
theorem dX6_fillRows_41 : decode cX6_fillRows 41 = .ok (.goto 4, 3) := by decide +kernel
theorem dX6_fillRows_44 : decode cX6_fillRows 44 = .ok (.iload_n 3, 1) := by decide +kernel
theorem dX6_fillRows_45 : decode cX6_fillRows 45 = .ok (.aload_n 1, 1) := by decide +kernel
theorem dX6_fillRows_46 : decode cX6_fillRows 46 = .ok (.invokevirtual 43, 3) := by decide +kernel
theorem dX6_fillRows_49 : decode cX6_fillRows 49 = .ok (.iastore, 1) := by decide +kernel
theorem dX6_fillRows_50 : decode cX6_fillRows 50 = .ok (.iinc 3 1, 3) := by decide +kernel
theorem dX6_fillRows_53 : decode cX6_fillRows 53 = .ok (.goto (-51), 3) := by decide +kernel
theorem dX6_fillRows_56 : decode cX6_fillRows 56 = .ok (.aload_n 0, 1) := by decide +kernel
theorem dX6_fillRows_57 : decode cX6_fillRows 57 = .ok (.getfield 21, 3) := by decide +kernel
theorem dX6_fillRows_60 : decode cX6_fillRows 60 = .ok (.iconst 0, 1) := by decide +kernel
theorem dX6_fillRows_61 : decode cX6_fillRows 61 = .ok (.iconst 1, 1) := by decide +kernel
theorem dX6_fillRows_62 : decode cX6_fillRows 62 = .ok (.iastore, 1) := by decide +kernel
theorem dX6_fillRows_63 : decode cX6_fillRows 63 = .ok (.iconst 1, 1) := by decide +kernel
theorem dX6_fillRows_64 : decode cX6_fillRows 64 = .ok (.istore_n 3, 1) := by decide +kernel
theorem dX6_fillRows_65 : decode cX6_fillRows 65 = .ok (.iload_n 3, 1) := by decide +kernel
theorem dX6_fillRows_66 : decode cX6_fillRows 66 = .ok (.iconst 1, 1) := by decide +kernel
theorem dX6_fillRows_67 : decode cX6_fillRows 67 = .ok (.aload_n 1, 1) := by decide +kernel
theorem dX6_fillRows_68 : decode cX6_fillRows 68 = .ok (.getfield 32, 3) := by decide +kernel
theorem dX6_fillRows_71 : decode cX6_fillRows 71 = .ok (.ishl, 1) := by decide +kernel
theorem dX6_fillRows_72 : decode cX6_fillRows 72 = .ok (.if_icmp .ge 39, 3) := by decide +kernel
theorem dX6_fillRows_75 : decode cX6_fillRows 75 = .ok (.aload_n 0, 1) := by decide +kernel
theorem dX6_fillRows_76 : decode cX6_fillRows 76 = .ok (.getfield 21, 3) := by decide +kernel
theorem dX6_fillRows_79 : decode cX6_fillRows 79 = .ok (.iload_n 3, 1) := by decide +kernel
theorem dX6_fillRows_80 : decode cX6_fillRows 80 = .ok (.iload_n 3, 1) := by decide +kernel
theorem dX6_fillRows_81 : decode cX6_fillRows 81 = .ok (.invokestatic 37, 3) := by decide +kernel
theorem dX6_fillRows_84 : decode cX6_fillRows 84 = .ok (.aload_n 0, 1) := by decide +kernel
theorem dX6_fillRows_85 : decode cX6_fillRows 85 = .ok (.getfield 24, 3) := by decide +kernel
theorem dX6_fillRows_88 : decode cX6_fillRows 88 = .ok (.if_icmp .le 7, 3) := by decide +kernel
theorem dX6_fillRows_91 : decode cX6_fillRows 91 = .ok (.iconst 0, 1) := by decide +kernel
theorem dX6_fillRows_92 : decode cX6_fillRows 92 = .ok (.goto 12, 3) := by decide +kernel
theorem dX6_fillRows_95 : decode cX6_fillRows 95 = .ok (.aload_n 0, 1) := by decide +kernel
theorem dX6_fillRows_96 : decode cX6_fillRows 96 = .ok (.iload_n 3, 1) := by decide +kernel
theorem dX6_fillRows_97 : decode cX6_fillRows 97 = .ok (.aload_n 1, 1) := by decide +kernel
theorem dX6_fillRows_98 : decode cX6_fillRows 98 = .ok (.getfield 32, 3) := by decide +kernel
theorem dX6_fillRows_101 : decode cX6_fillRows 101 = .ok (.invokevirtual 47, 3) := by decide +kernel
theorem dX6_fillRows_104 : decode cX6_fillRows 104 = .ok (.iastore, 1) := by decide +kernel
theorem dX6_fillRows_105 : decode cX6_fillRows 105 = .ok (.iinc 3 1, 3) := by decide +kernel
theorem dX6_fillRows_108 : decode cX6_fillRows 108 = .ok (.goto (-43), 3) := by decide +kernel
theorem dX6_fillRows_111 : decode cX6_fillRows 111 = .ok (.return_, 1) := by decide +kernel
theorem dX6_rowsOf_0 : decode cX6_rowsOf 0 = .ok (.iload_n 1, 1) := by decide +kernel
theorem dX6_rowsOf_1 : decode cX6_rowsOf 1 = .ok (.aload_n 0, 1) := by decide +kernel
theorem dX6_rowsOf_2 : decode cX6_rowsOf 2 = .ok (.getfield 18, 3) := by decide +kernel
theorem dX6_rowsOf_5 : decode cX6_rowsOf 5 = .ok (.iload_n 1, 1) := by decide +kernel
theorem dX6_rowsOf_6 : decode cX6_rowsOf 6 = .ok (.invokestatic 37, 3) := by decide +kernel
theorem dX6_rowsOf_9 : decode cX6_rowsOf 9 = .ok (.iconst 1, 1) := by decide +kernel
theorem dX6_rowsOf_10 : decode cX6_rowsOf 10 = .ok (.isub, 1) := by decide +kernel
theorem dX6_rowsOf_11 : decode cX6_rowsOf 11 = .ok (.iaload, 1) := by decide +kernel
theorem dX6_rowsOf_12 : decode cX6_rowsOf 12 = .ok (.iand, 1) := by decide +kernel
theorem dX6_rowsOf_13 : decode cX6_rowsOf 13 = .ok (.istore_n 3, 1) := by decide +kernel
theorem dX6_rowsOf_14 : decode cX6_rowsOf 14 = .ok (.iconst 0, 1) := by decide +kernel
theorem dX6_rowsOf_15 : decode cX6_rowsOf 15 = .ok (.istore 4, 2) := by decide +kernel
theorem dX6_rowsOf_17 : decode cX6_rowsOf 17 = .ok (.iconst 0, 1) := by decide +kernel
theorem dX6_rowsOf_18 : decode cX6_rowsOf 18 = .ok (.istore 5, 2) := by decide +kernel
theorem dX6_rowsOf_20 : decode cX6_rowsOf 20 = .ok (.iload 5, 2) := by decide +kernel
theorem dX6_rowsOf_22 : decode cX6_rowsOf 22 = .ok (.iload_n 2, 1) := by decide +kernel
theorem dX6_rowsOf_23 : decode cX6_rowsOf 23 = .ok (.if_icmp .ge 35, 3) := by decide +kernel
theorem dX6_rowsOf_26 : decode cX6_rowsOf 26 = .ok (.iload_n 3, 1) := by decide +kernel
theorem dX6_rowsOf_27 : decode cX6_rowsOf 27 = .ok (.iload 5, 2) := by decide +kernel
theorem dX6_rowsOf_29 : decode cX6_rowsOf 29 = .ok (.ishr, 1) := by decide +kernel
theorem dX6_rowsOf_30 : decode cX6_rowsOf 30 = .ok (.iconst 1, 1) := by decide +kernel
theorem dX6_rowsOf_31 : decode cX6_rowsOf 31 = .ok (.iand, 1) := by decide +kernel
theorem dX6_rowsOf_32 : decode cX6_rowsOf 32 = .ok (.iconst 1, 1) := by decide +kernel
theorem dX6_rowsOf_33 : decode cX6_rowsOf 33 = .ok (.if_icmp .ne 19, 3) := by decide +kernel
theorem dX6_rowsOf_36 : decode cX6_rowsOf 36 = .ok (.iload 4, 2) := by decide +kernel
theorem dX6_rowsOf_38 : decode cX6_rowsOf 38 = .ok (.aload_n 0, 1) := by decide +kernel
theorem dX6_rowsOf_39 : decode cX6_rowsOf 39 = .ok (.getfield 21, 3) := by decide +kernel
theorem dX6_rowsOf_42 : decode cX6_rowsOf 42 = .ok (.iload_n 1, 1) := by decide +kernel
theorem dX6_rowsOf_43 : decode cX6_rowsOf 43 = .ok (.iconst 1, 1) := by decide +kernel
theorem dX6_rowsOf_44 : decode cX6_rowsOf 44 = .ok (.iload 5, 2) := by decide +kernel
theorem dX6_rowsOf_46 : decode cX6_rowsOf 46 = .ok (.ishl, 1) := by decide +kernel
theorem dX6_rowsOf_47 : decode cX6_rowsOf 47 = .ok (.ixor, 1) := by decide +kernel
theorem dX6_rowsOf_48 : decode cX6_rowsOf 48 = .ok (.iaload, 1) := by decide +kernel
theorem dX6_rowsOf_49 : decode cX6_rowsOf 49 = .ok (.iadd, 1) := by decide +kernel
theorem dX6_rowsOf_50 : decode cX6_rowsOf 50 = .ok (.istore 4, 2) := by decide +kernel
theorem dX6_rowsOf_52 : decode cX6_rowsOf 52 = .ok (.iinc 5 1, 3) := by decide +kernel
theorem dX6_rowsOf_55 : decode cX6_rowsOf 55 = .ok (.goto (-35), 3) := by decide +kernel
theorem dX6_rowsOf_58 : decode cX6_rowsOf 58 = .ok (.iload 4, 2) := by decide +kernel
theorem dX6_rowsOf_60 : decode cX6_rowsOf 60 = .ok (.ireturn, 1) := by decide +kernel
theorem dX6_fittingBoys_0 : decode cX6_fittingBoys 0 = .ok (.iconst 0, 1) := by decide +kernel
theorem dX6_fittingBoys_1 : decode cX6_fittingBoys 1 = .ok (.istore_n 3, 1) := by decide +kernel
theorem dX6_fittingBoys_2 : decode cX6_fittingBoys 2 = .ok (.iconst 0, 1) := by decide +kernel
theorem dX6_fittingBoys_3 : decode cX6_fittingBoys 3 = .ok (.istore 4, 2) := by decide +kernel
theorem dX6_fittingBoys_5 : decode cX6_fittingBoys 5 = .ok (.iload 4, 2) := by decide +kernel
theorem dX6_fittingBoys_7 : decode cX6_fittingBoys 7 = .ok (.aload_n 2, 1) := by decide +kernel
theorem dX6_fittingBoys_8 : decode cX6_fittingBoys 8 = .ok (.getfield 32, 3) := by decide +kernel
theorem dX6_fittingBoys_11 : decode cX6_fittingBoys 11 = .ok (.if_icmp .ge 53, 3) := by decide +kernel
theorem dX6_fittingBoys_14 : decode cX6_fittingBoys 14 = .ok (.aload_n 2, 1) := by decide +kernel
theorem dX6_fittingBoys_15 : decode cX6_fittingBoys 15 = .ok (.getfield 51, 3) := by decide +kernel
theorem dX6_fittingBoys_18 : decode cX6_fittingBoys 18 = .ok (.iload 4, 2) := by decide +kernel
theorem dX6_fittingBoys_20 : decode cX6_fittingBoys 20 = .ok (.iaload, 1) := by decide +kernel
theorem dX6_fittingBoys_21 : decode cX6_fittingBoys 21 = .ok (.aload_n 0, 1) := by decide +kernel
theorem dX6_fittingBoys_22 : decode cX6_fittingBoys 22 = .ok (.getfield 15, 3) := by decide +kernel
theorem dX6_fittingBoys_25 : decode cX6_fittingBoys 25 = .ok (.iload_n 1, 1) := by decide +kernel
theorem dX6_fittingBoys_26 : decode cX6_fittingBoys 26 = .ok (.iaload, 1) := by decide +kernel
theorem dX6_fittingBoys_27 : decode cX6_fittingBoys 27 = .ok (.if_icmp .ne 31, 3) := by decide +kernel
theorem dX6_fittingBoys_30 : decode cX6_fittingBoys 30 = .ok (.aload_n 2, 1) := by decide +kernel
theorem dX6_fittingBoys_31 : decode cX6_fittingBoys 31 = .ok (.getfield 52, 3) := by decide +kernel
theorem dX6_fittingBoys_34 : decode cX6_fittingBoys 34 = .ok (.iload 4, 2) := by decide +kernel
theorem dX6_fittingBoys_36 : decode cX6_fittingBoys 36 = .ok (.iaload, 1) := by decide +kernel
theorem dX6_fittingBoys_37 : decode cX6_fittingBoys 37 = .ok (.aload_n 0, 1) := by decide +kernel
theorem dX6_fittingBoys_38 : decode cX6_fittingBoys 38 = .ok (.getfield 9, 3) := by decide +kernel
theorem dX6_fittingBoys_41 : decode cX6_fittingBoys 41 = .ok (.iload_n 1, 1) := by decide +kernel
theorem dX6_fittingBoys_42 : decode cX6_fittingBoys 42 = .ok (.iaload, 1) := by decide +kernel
theorem dX6_fittingBoys_43 : decode cX6_fittingBoys 43 = .ok (.isub, 1) := by decide +kernel
theorem dX6_fittingBoys_44 : decode cX6_fittingBoys 44 = .ok (.invokestatic 53, 3) := by decide +kernel
theorem dX6_fittingBoys_47 : decode cX6_fittingBoys 47 = .ok (.iconst 1, 1) := by decide +kernel
theorem dX6_fittingBoys_48 : decode cX6_fittingBoys 48 = .ok (.if_icmp .gt 10, 3) := by decide +kernel
theorem dX6_fittingBoys_51 : decode cX6_fittingBoys 51 = .ok (.iload_n 3, 1) := by decide +kernel
theorem dX6_fittingBoys_52 : decode cX6_fittingBoys 52 = .ok (.iconst 1, 1) := by decide +kernel
theorem dX6_fittingBoys_53 : decode cX6_fittingBoys 53 = .ok (.iload 4, 2) := by decide +kernel
theorem dX6_fittingBoys_55 : decode cX6_fittingBoys 55 = .ok (.ishl, 1) := by decide +kernel
theorem dX6_fittingBoys_56 : decode cX6_fittingBoys 56 = .ok (.ior, 1) := by decide +kernel
theorem dX6_fittingBoys_57 : decode cX6_fittingBoys 57 = .ok (.istore_n 3, 1) := by decide +kernel
theorem dX6_fittingBoys_58 : decode cX6_fittingBoys 58 = .ok (.iinc 4 1, 3) := by decide +kernel
theorem dX6_fittingBoys_61 : decode cX6_fittingBoys 61 = .ok (.goto (-56), 3) := by decide +kernel
theorem dX6_fittingBoys_64 : decode cX6_fittingBoys 64 = .ok (.iload_n 3, 1) := by decide +kernel
theorem dX6_fittingBoys_65 : decode cX6_fittingBoys 65 = .ok (.ireturn, 1) := by decide +kernel
theorem dX7_init_0 : decode cX7_init 0 = .ok (.aload_n 0, 1) := by decide +kernel
theorem dX7_init_1 : decode cX7_init 1 = .ok (.invokespecial 3, 3) := by decide +kernel
theorem dX7_init_4 : decode cX7_init 4 = .ok (.aload_n 0, 1) := by decide +kernel
theorem dX7_init_5 : decode cX7_init 5 = .ok (.bipush 12, 2) := by decide +kernel
theorem dX7_init_7 : decode cX7_init 7 = .ok (.newarray .int, 2) := by decide +kernel
theorem dX7_init_9 : decode cX7_init 9 = .ok (.putfield 9, 3) := by decide +kernel
theorem dX7_init_12 : decode cX7_init 12 = .ok (.aload_n 0, 1) := by decide +kernel
theorem dX7_init_13 : decode cX7_init 13 = .ok (.bipush 12, 2) := by decide +kernel
theorem dX7_init_15 : decode cX7_init 15 = .ok (.newarray .int, 2) := by decide +kernel
theorem dX7_init_17 : decode cX7_init 17 = .ok (.putfield 15, 3) := by decide +kernel
theorem dX7_init_20 : decode cX7_init 20 = .ok (.aload_n 0, 1) := by decide +kernel
theorem dX7_init_21 : decode cX7_init 21 = .ok (.bipush 12, 2) := by decide +kernel
theorem dX7_init_23 : decode cX7_init 23 = .ok (.newarray .int, 2) := by decide +kernel
theorem dX7_init_25 : decode cX7_init 25 = .ok (.putfield 18, 3) := by decide +kernel
theorem dX7_init_28 : decode cX7_init 28 = .ok (.return_, 1) := by decide +kernel
theorem dX7_add_0 : decode cX7_add 0 = .ok (.aload_n 0, 1) := by decide +kernel
theorem dX7_add_1 : decode cX7_add 1 = .ok (.getfield 21, 3) := by decide +kernel
theorem dX7_add_4 : decode cX7_add 4 = .ok (.bipush 12, 2) := by decide +kernel
theorem dX7_add_6 : decode cX7_add 6 = .ok (.if_icmp .ge 43, 3) := by decide +kernel
theorem dX7_add_9 : decode cX7_add 9 = .ok (.aload_n 0, 1) := by decide +kernel
theorem dX7_add_10 : decode cX7_add 10 = .ok (.getfield 9, 3) := by decide +kernel
theorem dX7_add_13 : decode cX7_add 13 = .ok (.aload_n 0, 1) := by decide +kernel
theorem dX7_add_14 : decode cX7_add 14 = .ok (.getfield 21, 3) := by decide +kernel
theorem dX7_add_17 : decode cX7_add 17 = .ok (.iload_n 1, 1) := by decide +kernel
theorem dX7_add_18 : decode cX7_add 18 = .ok (.iastore, 1) := by decide +kernel
theorem dX7_add_19 : decode cX7_add 19 = .ok (.aload_n 0, 1) := by decide +kernel
theorem dX7_add_20 : decode cX7_add 20 = .ok (.getfield 15, 3) := by decide +kernel
theorem dX7_add_23 : decode cX7_add 23 = .ok (.aload_n 0, 1) := by decide +kernel
theorem dX7_add_24 : decode cX7_add 24 = .ok (.getfield 21, 3) := by decide +kernel
theorem dX7_add_27 : decode cX7_add 27 = .ok (.iload_n 2, 1) := by decide +kernel
theorem dX7_add_28 : decode cX7_add 28 = .ok (.iastore, 1) := by decide +kernel
theorem dX7_add_29 : decode cX7_add 29 = .ok (.aload_n 0, 1) := by decide +kernel
theorem dX7_add_30 : decode cX7_add 30 = .ok (.getfield 18, 3) := by decide +kernel
theorem dX7_add_33 : decode cX7_add 33 = .ok (.aload_n 0, 1) := by decide +kernel
theorem dX7_add_34 : decode cX7_add 34 = .ok (.getfield 21, 3) := by decide +kernel
theorem dX7_add_37 : decode cX7_add 37 = .ok (.iload_n 3, 1) := by decide +kernel
theorem dX7_add_38 : decode cX7_add 38 = .ok (.iastore, 1) := by decide +kernel
theorem dX7_add_39 : decode cX7_add 39 = .ok (.aload_n 0, 1) := by decide +kernel
theorem dX7_add_40 : decode cX7_add 40 = .ok (.dup, 1) := by decide +kernel
theorem dX7_add_41 : decode cX7_add 41 = .ok (.getfield 21, 3) := by decide +kernel
theorem dX7_add_44 : decode cX7_add 44 = .ok (.iconst 1, 1) := by decide +kernel
theorem dX7_add_45 : decode cX7_add 45 = .ok (.iadd, 1) := by decide +kernel
theorem dX7_add_46 : decode cX7_add 46 = .ok (.putfield 21, 3) := by decide +kernel
theorem dX7_add_49 : decode cX7_add 49 = .ok (.return_, 1) := by decide +kernel
theorem dX7_canBeWith_0 : decode cX7_canBeWith 0 = .ok (.iconst 0, 1) := by decide +kernel
theorem dX7_canBeWith_1 : decode cX7_canBeWith 1 = .ok (.istore_n 2, 1) := by decide +kernel
theorem dX7_canBeWith_2 : decode cX7_canBeWith 2 = .ok (.iconst 0, 1) := by decide +kernel
theorem dX7_canBeWith_3 : decode cX7_canBeWith 3 = .ok (.istore_n 3, 1) := by decide +kernel
theorem dX7_canBeWith_4 : decode cX7_canBeWith 4 = .ok (.iload_n 3, 1) := by decide +kernel
theorem dX7_canBeWith_5 : decode cX7_canBeWith 5 = .ok (.aload_n 0, 1) := by decide +kernel
theorem dX7_canBeWith_6 : decode cX7_canBeWith 6 = .ok (.getfield 21, 3) := by decide +kernel
theorem dX7_canBeWith_9 : decode cX7_canBeWith 9 = .ok (.if_icmp .ge 133, 3) := by decide +kernel
theorem dX7_canBeWith_12 : decode cX7_canBeWith 12 = .ok (.iconst 0, 1) := by decide +kernel
theorem dX7_canBeWith_13 : decode cX7_canBeWith 13 = .ok (.istore 4, 2) := by decide +kernel
theorem dX7_canBeWith_15 : decode cX7_canBeWith 15 = .ok (.iload 4, 2) := by decide +kernel
theorem dX7_canBeWith_17 : decode cX7_canBeWith 17 = .ok (.aload_n 0, 1) := by decide +kernel
theorem dX7_canBeWith_18 : decode cX7_canBeWith 18 = .ok (.getfield 21, 3) := by decide +kernel
theorem dX7_canBeWith_21 : decode cX7_canBeWith 21 = .ok (.if_icmp .ge 115, 3) := by decide +kernel
theorem dX7_canBeWith_24 : decode cX7_canBeWith 24 = .ok (.aload_n 0, 1) := by decide +kernel
theorem dX7_canBeWith_25 : decode cX7_canBeWith 25 = .ok (.getfield 15, 3) := by decide +kernel
theorem dX7_canBeWith_28 : decode cX7_canBeWith 28 = .ok (.iload_n 3, 1) := by decide +kernel
theorem dX7_canBeWith_29 : decode cX7_canBeWith 29 = .ok (.iaload, 1) := by decide +kernel
theorem dX7_canBeWith_30 : decode cX7_canBeWith 30 = .ok (.aload_n 0, 1) := by decide +kernel
theorem dX7_canBeWith_31 : decode cX7_canBeWith 31 = .ok (.getfield 15, 3) := by decide +kernel
theorem dX7_canBeWith_34 : decode cX7_canBeWith 34 = .ok (.iload 4, 2) := by decide +kernel
theorem dX7_canBeWith_36 : decode cX7_canBeWith 36 = .ok (.iaload, 1) := by decide +kernel
theorem dX7_canBeWith_37 : decode cX7_canBeWith 37 = .ok (.if_icmp .eq 6, 3) := by decide +kernel
theorem dX7_canBeWith_40 : decode cX7_canBeWith 40 = .ok (.goto 90, 3) := by decide +kernel
theorem dX7_canBeWith_43 : decode cX7_canBeWith 43 = .ok (.aload_n 0, 1) := by decide +kernel
theorem dX7_canBeWith_44 : decode cX7_canBeWith 44 = .ok (.getfield 18, 3) := by decide +kernel
theorem dX7_canBeWith_47 : decode cX7_canBeWith 47 = .ok (.iload_n 3, 1) := by decide +kernel
theorem dX7_canBeWith_48 : decode cX7_canBeWith 48 = .ok (.iaload, 1) := by decide +kernel
theorem dX7_canBeWith_49 : decode cX7_canBeWith 49 = .ok (.aload_n 0, 1) := by decide +kernel
theorem dX7_canBeWith_50 : decode cX7_canBeWith 50 = .ok (.getfield 18, 3) := by decide +kernel
theorem dX7_canBeWith_53 : decode cX7_canBeWith 53 = .ok (.iload 4, 2) := by decide +kernel
theorem dX7_canBeWith_55 : decode cX7_canBeWith 55 = .ok (.iaload, 1) := by decide +kernel
theorem dX7_canBeWith_56 : decode cX7_canBeWith 56 = .ok (.isub, 1) := by decide +kernel
theorem dX7_canBeWith_57 : decode cX7_canBeWith 57 = .ok (.istore 5, 2) := by decide +kernel
theorem dX7_canBeWith_59 : decode cX7_canBeWith 59 = .ok (.aload_n 0, 1) := by decide +kernel
theorem dX7_canBeWith_60 : decode cX7_canBeWith 60 = .ok (.getfield 9, 3) := by decide +kernel
theorem dX7_canBeWith_63 : decode cX7_canBeWith 63 = .ok (.iload_n 3, 1) := by decide +kernel
theorem dX7_canBeWith_64 : decode cX7_canBeWith 64 = .ok (.iaload, 1) := by decide +kernel
theorem dX7_canBeWith_65 : decode cX7_canBeWith 65 = .ok (.iload_n 1, 1) := by decide +kernel
theorem dX7_canBeWith_66 : decode cX7_canBeWith 66 = .ok (.if_icmp .ne 7, 3) := by decide +kernel
theorem dX7_canBeWith_69 : decode cX7_canBeWith 69 = .ok (.iconst 1, 1) := by decide +kernel
theorem dX7_canBeWith_70 : decode cX7_canBeWith 70 = .ok (.goto 4, 3) := by decide +kernel
theorem dX7_canBeWith_73 : decode cX7_canBeWith 73 = .ok (.iconst 0, 1) := by decide +kernel
theorem dX7_canBeWith_74 : decode cX7_canBeWith 74 = .ok (.aload_n 0, 1) := by decide +kernel
theorem dX7_canBeWith_75 : decode cX7_canBeWith 75 = .ok (.getfield 9, 3) := by decide +kernel
theorem dX7_canBeWith_78 : decode cX7_canBeWith 78 = .ok (.iload 4, 2) := by decide +kernel
theorem dX7_canBeWith_80 : decode cX7_canBeWith 80 = .ok (.iaload, 1) := by decide +kernel
theorem dX7_canBeWith_81 : decode cX7_canBeWith 81 = .ok (.iload_n 1, 1) := by decide +kernel
theorem dX7_canBeWith_82 : decode cX7_canBeWith 82 = .ok (.if_icmp .ne 7, 3) := by decide +kernel
theorem dX7_canBeWith_85 : decode cX7_canBeWith 85 = .ok (.iconst 1, 1) := by decide +kernel
theorem dX7_canBeWith_86 : decode cX7_canBeWith 86 = .ok (.goto 4, 3) := by decide +kernel
theorem dX7_canBeWith_89 : decode cX7_canBeWith 89 = .ok (.iconst 0, 1) := by decide +kernel
theorem dX7_canBeWith_90 : decode cX7_canBeWith 90 = .ok (.if_icmp .ne 10, 3) := by decide +kernel
theorem dX7_canBeWith_93 : decode cX7_canBeWith 93 = .ok (.iload 5, 2) := by decide +kernel
theorem dX7_canBeWith_95 : decode cX7_canBeWith 95 = .ok (.ifCond .eq 35, 3) := by decide +kernel
theorem dX7_canBeWith_98 : decode cX7_canBeWith 98 = .ok (.iconst 0, 1) := by decide +kernel
theorem dX7_canBeWith_99 : decode cX7_canBeWith 99 = .ok (.ireturn, 1) := by decide +kernel
theorem dX7_canBeWith_100 : decode cX7_canBeWith 100 = .ok (.aload_n 0, 1) := by decide +kernel
theorem dX7_canBeWith_101 : decode cX7_canBeWith 101 = .ok (.getfield 9, 3) := by decide +kernel
theorem dX7_canBeWith_104 : decode cX7_canBeWith 104 = .ok (.iload_n 3, 1) := by decide +kernel
theorem dX7_canBeWith_105 : decode cX7_canBeWith 105 = .ok (.iaload, 1) := by decide +kernel
theorem dX7_canBeWith_106 : decode cX7_canBeWith 106 = .ok (.iload_n 1, 1) := by decide +kernel
theorem dX7_canBeWith_107 : decode cX7_canBeWith 107 = .ok (.if_icmp .ne 23, 3) := by decide +kernel
theorem dX7_canBeWith_110 : decode cX7_canBeWith 110 = .ok (.iload 5, 2) := by decide +kernel
theorem dX7_canBeWith_112 : decode cX7_canBeWith 112 = .ok (.ifCond .eq 13, 3) := by decide +kernel
theorem dX7_canBeWith_115 : decode cX7_canBeWith 115 = .ok (.iload_n 2, 1) := by decide +kernel
theorem dX7_canBeWith_116 : decode cX7_canBeWith 116 = .ok (.ifCond .eq 11, 3) := by decide +kernel
theorem dX7_canBeWith_119 : decode cX7_canBeWith 119 = .ok (.iload 5, 2) := by decide +kernel
theorem dX7_canBeWith_121 : decode cX7_canBeWith 121 = .ok (.iload_n 2, 1) := by decide +kernel
theorem dX7_canBeWith_122 : decode cX7_canBeWith 122 = .ok (.if_icmp .eq 5, 3) := by decide +kernel
theorem dX7_canBeWith_125 : decode cX7_canBeWith 125 = .ok (.iconst 0, 1) := by decide +kernel
theorem dX7_canBeWith_126 : decode cX7_canBeWith 126 = .ok (.ireturn, 1) := by decide +kernel
theorem dX7_canBeWith_127 : decode cX7_canBeWith 127 = .ok (.iload 5, 2) := by decide +kernel
theorem dX7_canBeWith_129 : decode cX7_canBeWith 129 = .ok (.istore_n 2, 1) := by decide +kernel
theorem dX7_canBeWith_130 : decode cX7_canBeWith 130 = .ok (.iinc 4 1, 3) := by decide +kernel
theorem dX7_canBeWith_133 : decode cX7_canBeWith 133 = .ok (.goto (-118), 3) := by decide +kernel
theorem dX7_canBeWith_136 : decode cX7_canBeWith 136 = .ok (.iinc 3 1, 3) := by decide +kernel
theorem dX7_canBeWith_139 : decode cX7_canBeWith 139 = .ok (.goto (-135), 3) := by decide +kernel
theorem dX7_canBeWith_142 : decode cX7_canBeWith 142 = .ok (.iconst 1, 1) := by decide +kernel
theorem dX7_canBeWith_143 : decode cX7_canBeWith 143 = .ok (.ireturn, 1) := by decide +kernel
theorem dX8_init_0 : decode cX8_init 0 = .ok (.aload_n 0, 1) := by decide +kernel
theorem dX8_init_1 : decode cX8_init 1 = .ok (.invokespecial 3, 3) := by decide +kernel
theorem dX8_init_4 : decode cX8_init 4 = .ok (.aload_n 0, 1) := by decide +kernel
theorem dX8_init_5 : decode cX8_init 5 = .ok (.sipush 200, 3) := by decide +kernel
theorem dX8_init_8 : decode cX8_init 8 = .ok (.newarray .byte, 2) := by decide +kernel
theorem dX8_init_10 : decode cX8_init 10 = .ok (.putfield 9, 3) := by decide +kernel
theorem dX8_init_13 : decode cX8_init 13 = .ok (.return_, 1) := by decide +kernel
theorem dX8_append_0 : decode cX8_append 0 = .ok (.aload_n 0, 1) := by decide +kernel
theorem dX8_append_1 : decode cX8_append 1 = .ok (.getfield 15, 3) := by decide +kernel
theorem dX8_append_4 : decode cX8_append 4 = .ok (.sipush 200, 3) := by decide +kernel
theorem dX8_append_7 : decode cX8_append 7 = .ok (.if_icmp .ge 24, 3) := by decide +kernel
theorem dX8_append_10 : decode cX8_append 10 = .ok (.aload_n 0, 1) := by decide +kernel
theorem dX8_append_11 : decode cX8_append 11 = .ok (.getfield 9, 3) := by decide +kernel
theorem dX8_append_14 : decode cX8_append 14 = .ok (.aload_n 0, 1) := by decide +kernel
theorem dX8_append_15 : decode cX8_append 15 = .ok (.getfield 15, 3) := by decide +kernel
theorem dX8_append_18 : decode cX8_append 18 = .ok (.iload_n 1, 1) := by decide +kernel
theorem dX8_append_19 : decode cX8_append 19 = .ok (.i2b, 1) := by decide +kernel
theorem dX8_append_20 : decode cX8_append 20 = .ok (.bastore, 1) := by decide +kernel
theorem dX8_append_21 : decode cX8_append 21 = .ok (.aload_n 0, 1) := by decide +kernel
theorem dX8_append_22 : decode cX8_append 22 = .ok (.dup, 1) := by decide +kernel
theorem dX8_append_23 : decode cX8_append 23 = .ok (.getfield 15, 3) := by decide +kernel
theorem dX8_append_26 : decode cX8_append 26 = .ok (.iconst 1, 1) := by decide +kernel
theorem dX8_append_27 : decode cX8_append 27 = .ok (.iadd, 1) := by decide +kernel
theorem dX8_append_28 : decode cX8_append 28 = .ok (.putfield 15, 3) := by decide +kernel
theorem dX8_append_31 : decode cX8_append 31 = .ok (.return_, 1) := by decide +kernel
theorem dX8_signAt_0 : decode cX8_signAt 0 = .ok (.iload_n 1, 1) := by decide +kernel
theorem dX8_signAt_1 : decode cX8_signAt 1 = .ok (.ifCond .lt 11, 3) := by decide +kernel
theorem dX8_signAt_4 : decode cX8_signAt 4 = .ok (.iload_n 1, 1) := by decide +kernel
theorem dX8_signAt_5 : decode cX8_signAt 5 = .ok (.aload_n 0, 1) := by decide +kernel
theorem dX8_signAt_6 : decode cX8_signAt 6 = .ok (.getfield 15, 3) := by decide +kernel
theorem dX8_signAt_9 : decode cX8_signAt 9 = .ok (.if_icmp .lt 7, 3) := by decide +kernel
theorem dX8_signAt_12 : decode cX8_signAt 12 = .ok (.iconst (-1), 1) := by decide +kernel
theorem dX8_signAt_13 : decode cX8_signAt 13 = .ok (.goto 13, 3) := by decide +kernel
theorem dX8_signAt_16 : decode cX8_signAt 16 = .ok (.aload_n 0, 1) := by decide +kernel
theorem dX8_signAt_17 : decode cX8_signAt 17 = .ok (.getfield 9, 3) := by decide +kernel
theorem dX8_signAt_20 : decode cX8_signAt 20 = .ok (.iload_n 1, 1) := by decide +kernel
theorem dX8_signAt_21 : decode cX8_signAt 21 = .ok (.baload, 1) := by decide +kernel
theorem dX8_signAt_22 : decode cX8_signAt 22 = .ok (.sipush 255, 3) := by decide +kernel
theorem dX8_signAt_25 : decode cX8_signAt 25 = .ok (.iand, 1) := by decide +kernel
theorem dX8_signAt_26 : decode cX8_signAt 26 = .ok (.ireturn, 1) := by decide +kernel
