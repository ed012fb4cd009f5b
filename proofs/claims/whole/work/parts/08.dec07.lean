theorem dX10_isOnce_0 : decode cX10_isOnce 0 = .ok (.aload_n 0, 1) := by decide +kernel
theorem dX10_isOnce_1 : decode cX10_isOnce 1 = .ok (.getfield 29, 3) := by decide +kernel
theorem dX10_isOnce_4 : decode cX10_isOnce 4 = .ok (.aload_n 0, 1) := by decide +kernel
theorem dX10_isOnce_5 : decode cX10_isOnce 5 = .ok (.getfield 51, 3) := by decide +kernel
theorem dX10_isOnce_8 : decode cX10_isOnce 8 = .ok (.iload_n 1, 1) := by decide +kernel
theorem dX10_isOnce_9 : decode cX10_isOnce 9 = .ok (.iaload, 1) := by decide +kernel
theorem dX10_isOnce_10 : decode cX10_isOnce 10 = .ok (.iaload, 1) := by decide +kernel
theorem dX10_isOnce_11 : decode cX10_isOnce 11 = .ok (.aload_n 0, 1) := by decide +kernel
theorem dX10_isOnce_12 : decode cX10_isOnce 12 = .ok (.getfield 29, 3) := by decide +kernel
theorem dX10_isOnce_15 : decode cX10_isOnce 15 = .ok (.aload_n 0, 1) := by decide +kernel
theorem dX10_isOnce_16 : decode cX10_isOnce 16 = .ok (.getfield 51, 3) := by decide +kernel
theorem dX10_isOnce_19 : decode cX10_isOnce 19 = .ok (.iconst 0, 1) := by decide +kernel
theorem dX10_isOnce_20 : decode cX10_isOnce 20 = .ok (.iaload, 1) := by decide +kernel
theorem dX10_isOnce_21 : decode cX10_isOnce 21 = .ok (.iaload, 1) := by decide +kernel
theorem dX10_isOnce_22 : decode cX10_isOnce 22 = .ok (.if_icmp .le 7, 3) := by decide +kernel
theorem dX10_isOnce_25 : decode cX10_isOnce 25 = .ok (.iconst 1, 1) := by decide +kernel
theorem dX10_isOnce_26 : decode cX10_isOnce 26 = .ok (.goto 4, 3) := by decide +kernel
theorem dX10_isOnce_29 : decode cX10_isOnce 29 = .ok (.iconst 0, 1) := by decide +kernel
theorem dX10_isOnce_30 : decode cX10_isOnce 30 = .ok (.istore_n 2, 1) := by decide +kernel
theorem dX10_isOnce_31 : decode cX10_isOnce 31 = .ok (.iconst 1, 1) := by decide +kernel
theorem dX10_isOnce_32 : decode cX10_isOnce 32 = .ok (.istore_n 3, 1) := by decide +kernel
theorem dX10_isOnce_33 : decode cX10_isOnce 33 = .ok (.iload_n 3, 1) := by decide +kernel
theorem dX10_isOnce_34 : decode cX10_isOnce 34 = .ok (.iload_n 1, 1) := by decide +kernel
theorem dX10_isOnce_35 : decode cX10_isOnce 35 = .ok (.if_icmp .ge 44, 3) := by decide +kernel
theorem dX10_isOnce_38 : decode cX10_isOnce 38 = .ok (.iload_n 2, 1) := by decide +kernel
theorem dX10_isOnce_39 : decode cX10_isOnce 39 = .ok (.ifCond .eq 32, 3) := by decide +kernel
theorem dX10_isOnce_42 : decode cX10_isOnce 42 = .ok (.aload_n 0, 1) := by decide +kernel
theorem dX10_isOnce_43 : decode cX10_isOnce 43 = .ok (.getfield 29, 3) := by decide +kernel
theorem dX10_isOnce_46 : decode cX10_isOnce 46 = .ok (.aload_n 0, 1) := by decide +kernel
theorem dX10_isOnce_47 : decode cX10_isOnce 47 = .ok (.getfield 51, 3) := by decide +kernel
theorem dX10_isOnce_50 : decode cX10_isOnce 50 = .ok (.iload_n 3, 1) := by decide +kernel
theorem dX10_isOnce_51 : decode cX10_isOnce 51 = .ok (.iaload, 1) := by decide +kernel
theorem dX10_isOnce_52 : decode cX10_isOnce 52 = .ok (.iaload, 1) := by decide +kernel
theorem dX10_isOnce_53 : decode cX10_isOnce 53 = .ok (.aload_n 0, 1) := by decide +kernel
theorem dX10_isOnce_54 : decode cX10_isOnce 54 = .ok (.getfield 29, 3) := by decide +kernel
theorem dX10_isOnce_57 : decode cX10_isOnce 57 = .ok (.aload_n 0, 1) := by decide +kernel
theorem dX10_isOnce_58 : decode cX10_isOnce 58 = .ok (.getfield 51, 3) := by decide +kernel
theorem dX10_isOnce_61 : decode cX10_isOnce 61 = .ok (.iload_n 1, 1) := by decide +kernel
theorem dX10_isOnce_62 : decode cX10_isOnce 62 = .ok (.iaload, 1) := by decide +kernel
theorem dX10_isOnce_63 : decode cX10_isOnce 63 = .ok (.iaload, 1) := by decide +kernel
theorem dX10_isOnce_64 : decode cX10_isOnce 64 = .ok (.if_icmp .eq 7, 3) := by decide +kernel
theorem dX10_isOnce_67 : decode cX10_isOnce 67 = .ok (.iconst 1, 1) := by decide +kernel
theorem dX10_isOnce_68 : decode cX10_isOnce 68 = .ok (.goto 4, 3) := by decide +kernel
theorem dX10_isOnce_71 : decode cX10_isOnce 71 = .ok (.iconst 0, 1) := by decide +kernel
theorem dX10_isOnce_72 : decode cX10_isOnce 72 = .ok (.istore_n 2, 1) := by decide +kernel
theorem dX10_isOnce_73 : decode cX10_isOnce 73 = .ok (.iinc 3 1, 3) := by decide +kernel
theorem dX10_isOnce_76 : decode cX10_isOnce 76 = .ok (.goto (-43), 3) := by decide +kernel
theorem dX10_isOnce_79 : decode cX10_isOnce 79 = .ok (.iload_n 2, 1) := by decide +kernel
theorem dX10_isOnce_80 : decode cX10_isOnce 80 = .ok (.ireturn, 1) := by decide +kernel
theorem dX10_cheeseOf_0 : decode cX10_cheeseOf 0 = .ok (.iconst 0, 1) := by decide +kernel
theorem dX10_cheeseOf_1 : decode cX10_cheeseOf 1 = .ok (.istore_n 2, 1) := by decide +kernel
theorem dX10_cheeseOf_2 : decode cX10_cheeseOf 2 = .ok (.iconst 0, 1) := by decide +kernel
theorem dX10_cheeseOf_3 : decode cX10_cheeseOf 3 = .ok (.istore_n 3, 1) := by decide +kernel
theorem dX10_cheeseOf_4 : decode cX10_cheeseOf 4 = .ok (.iload_n 3, 1) := by decide +kernel
theorem dX10_cheeseOf_5 : decode cX10_cheeseOf 5 = .ok (.iload_n 1, 1) := by decide +kernel
theorem dX10_cheeseOf_6 : decode cX10_cheeseOf 6 = .ok (.if_icmp .ge 52, 3) := by decide +kernel
theorem dX10_cheeseOf_9 : decode cX10_cheeseOf 9 = .ok (.aload_n 0, 1) := by decide +kernel
theorem dX10_cheeseOf_10 : decode cX10_cheeseOf 10 = .ok (.aload_n 0, 1) := by decide +kernel
theorem dX10_cheeseOf_11 : decode cX10_cheeseOf 11 = .ok (.getfield 51, 3) := by decide +kernel
theorem dX10_cheeseOf_14 : decode cX10_cheeseOf 14 = .ok (.iload_n 3, 1) := by decide +kernel
theorem dX10_cheeseOf_15 : decode cX10_cheeseOf 15 = .ok (.iload_n 1, 1) := by decide +kernel
theorem dX10_cheeseOf_16 : decode cX10_cheeseOf 16 = .ok (.iadd, 1) := by decide +kernel
theorem dX10_cheeseOf_17 : decode cX10_cheeseOf 17 = .ok (.iconst 1, 1) := by decide +kernel
theorem dX10_cheeseOf_18 : decode cX10_cheeseOf 18 = .ok (.isub, 1) := by decide +kernel
theorem dX10_cheeseOf_19 : decode cX10_cheeseOf 19 = .ok (.iload_n 1, 1) := by decide +kernel
theorem dX10_cheeseOf_20 : decode cX10_cheeseOf 20 = .ok (.irem, 1) := by decide +kernel
theorem dX10_cheeseOf_21 : decode cX10_cheeseOf 21 = .ok (.iaload, 1) := by decide +kernel
theorem dX10_cheeseOf_22 : decode cX10_cheeseOf 22 = .ok (.invokevirtual 214, 3) := by decide +kernel
theorem dX10_cheeseOf_25 : decode cX10_cheeseOf 25 = .ok (.aload_n 0, 1) := by decide +kernel
theorem dX10_cheeseOf_26 : decode cX10_cheeseOf 26 = .ok (.aload_n 0, 1) := by decide +kernel
theorem dX10_cheeseOf_27 : decode cX10_cheeseOf 27 = .ok (.getfield 51, 3) := by decide +kernel
theorem dX10_cheeseOf_30 : decode cX10_cheeseOf 30 = .ok (.iload_n 3, 1) := by decide +kernel
theorem dX10_cheeseOf_31 : decode cX10_cheeseOf 31 = .ok (.iaload, 1) := by decide +kernel
theorem dX10_cheeseOf_32 : decode cX10_cheeseOf 32 = .ok (.invokevirtual 214, 3) := by decide +kernel
theorem dX10_cheeseOf_35 : decode cX10_cheeseOf 35 = .ok (.isub, 1) := by decide +kernel
theorem dX10_cheeseOf_36 : decode cX10_cheeseOf 36 = .ok (.istore 4, 2) := by decide +kernel
theorem dX10_cheeseOf_38 : decode cX10_cheeseOf 38 = .ok (.iload_n 2, 1) := by decide +kernel
theorem dX10_cheeseOf_39 : decode cX10_cheeseOf 39 = .ok (.iload 4, 2) := by decide +kernel
theorem dX10_cheeseOf_41 : decode cX10_cheeseOf 41 = .ok (.ifCond .le 8, 3) := by decide +kernel
theorem dX10_cheeseOf_44 : decode cX10_cheeseOf 44 = .ok (.iload 4, 2) := by decide +kernel
theorem dX10_cheeseOf_46 : decode cX10_cheeseOf 46 = .ok (.goto 4, 3) := by decide +kernel
theorem dX10_cheeseOf_49 : decode cX10_cheeseOf 49 = .ok (.iconst 0, 1) := by decide +kernel
theorem dX10_cheeseOf_50 : decode cX10_cheeseOf 50 = .ok (.iadd, 1) := by decide +kernel
theorem dX10_cheeseOf_51 : decode cX10_cheeseOf 51 = .ok (.istore_n 2, 1) := by decide +kernel
theorem dX10_cheeseOf_52 : decode cX10_cheeseOf 52 = .ok (.iinc 3 1, 3) := by decide +kernel
theorem dX10_cheeseOf_55 : decode cX10_cheeseOf 55 = .ok (.goto (-51), 3) := by decide +kernel
theorem dX10_cheeseOf_58 : decode cX10_cheeseOf 58 = .ok (.iload_n 2, 1) := by decide +kernel
theorem dX10_cheeseOf_59 : decode cX10_cheeseOf 59 = .ok (.ireturn, 1) := by decide +kernel
theorem dX10_findRing_0 : decode cX10_findRing 0 = .ok (.iconst (-1), 1) := by decide +kernel
theorem dX10_findRing_1 : decode cX10_findRing 1 = .ok (.istore_n 1, 1) := by decide +kernel
theorem dX10_findRing_2 : decode cX10_findRing 2 = .ok (.iconst 0, 1) := by decide +kernel
theorem dX10_findRing_3 : decode cX10_findRing 3 = .ok (.istore_n 2, 1) := by decide +kernel
theorem dX10_findRing_4 : decode cX10_findRing 4 = .ok (.iconst 0, 1) := by decide +kernel
theorem dX10_findRing_5 : decode cX10_findRing 5 = .ok (.istore_n 3, 1) := by decide +kernel
theorem dX10_findRing_6 : decode cX10_findRing 6 = .ok (.aload_n 0, 1) := by decide +kernel
theorem dX10_findRing_7 : decode cX10_findRing 7 = .ok (.getfield 51, 3) := by decide +kernel
theorem dX10_findRing_10 : decode cX10_findRing 10 = .ok (.iconst 0, 1) := by decide +kernel
theorem dX10_findRing_11 : decode cX10_findRing 11 = .ok (.iconst (-1), 1) := by decide +kernel
theorem dX10_findRing_12 : decode cX10_findRing 12 = .ok (.iastore, 1) := by decide +kernel
theorem dX10_findRing_13 : decode cX10_findRing 13 = .ok (.iload_n 3, 1) := by decide +kernel
theorem dX10_findRing_14 : decode cX10_findRing 14 = .ok (.ifCond .lt 188, 3) := by decide +kernel
theorem dX10_findRing_17 : decode cX10_findRing 17 = .ok (.aload_n 0, 1) := by decide +kernel
theorem dX10_findRing_18 : decode cX10_findRing 18 = .ok (.getfield 51, 3) := by decide +kernel
theorem dX10_findRing_21 : decode cX10_findRing 21 = .ok (.iload_n 3, 1) := by decide +kernel
theorem dX10_findRing_22 : decode cX10_findRing 22 = .ok (.dup2, 1) := by decide +kernel
theorem dX10_findRing_23 : decode cX10_findRing 23 = .ok (.iaload, 1) := by decide +kernel
theorem dX10_findRing_24 : decode cX10_findRing 24 = .ok (.iconst 1, 1) := by decide +kernel
theorem dX10_findRing_25 : decode cX10_findRing 25 = .ok (.iadd, 1) := by decide +kernel
theorem dX10_findRing_26 : decode cX10_findRing 26 = .ok (.iastore, 1) := by decide +kernel
theorem dX10_findRing_27 : decode cX10_findRing 27 = .ok (.aload_n 0, 1) := by decide +kernel
theorem dX10_findRing_28 : decode cX10_findRing 28 = .ok (.getfield 51, 3) := by decide +kernel
theorem dX10_findRing_31 : decode cX10_findRing 31 = .ok (.iload_n 3, 1) := by decide +kernel
theorem dX10_findRing_32 : decode cX10_findRing 32 = .ok (.iaload, 1) := by decide +kernel
theorem dX10_findRing_33 : decode cX10_findRing 33 = .ok (.aload_n 0, 1) := by decide +kernel
theorem dX10_findRing_34 : decode cX10_findRing 34 = .ok (.getfield 77, 3) := by decide +kernel
theorem dX10_findRing_37 : decode cX10_findRing 37 = .ok (.if_icmp .lt 9, 3) := by decide +kernel
theorem dX10_findRing_40 : decode cX10_findRing 40 = .ok (.iinc 3 (-1), 3) := by decide +kernel
theorem dX10_findRing_43 : decode cX10_findRing 43 = .ok (.goto (-30), 3) := by decide +kernel
theorem dX10_findRing_46 : decode cX10_findRing 46 = .ok (.iload_n 3, 1) := by decide +kernel
theorem dX10_findRing_47 : decode cX10_findRing 47 = .ok (.ifCond .eq 32, 3) := by decide +kernel
theorem dX10_findRing_50 : decode cX10_findRing 50 = .ok (.aload_n 0, 1) := by decide +kernel
theorem dX10_findRing_51 : decode cX10_findRing 51 = .ok (.iload_n 3, 1) := by decide +kernel
theorem dX10_findRing_52 : decode cX10_findRing 52 = .ok (.invokevirtual 228, 3) := by decide +kernel
theorem dX10_findRing_55 : decode cX10_findRing 55 = .ok (.ifCond .eq (-42), 3) := by decide +kernel
theorem dX10_findRing_58 : decode cX10_findRing 58 = .ok (.aload_n 0, 1) := by decide +kernel
theorem dX10_findRing_59 : decode cX10_findRing 59 = .ok (.aload_n 0, 1) := by decide +kernel
theorem dX10_findRing_60 : decode cX10_findRing 60 = .ok (.getfield 51, 3) := by decide +kernel
theorem dX10_findRing_63 : decode cX10_findRing 63 = .ok (.iload_n 3, 1) := by decide +kernel
theorem dX10_findRing_64 : decode cX10_findRing 64 = .ok (.iconst 1, 1) := by decide +kernel
theorem dX10_findRing_65 : decode cX10_findRing 65 = .ok (.isub, 1) := by decide +kernel
theorem dX10_findRing_66 : decode cX10_findRing 66 = .ok (.iaload, 1) := by decide +kernel
theorem dX10_findRing_67 : decode cX10_findRing 67 = .ok (.aload_n 0, 1) := by decide +kernel
theorem dX10_findRing_68 : decode cX10_findRing 68 = .ok (.getfield 51, 3) := by decide +kernel
theorem dX10_findRing_71 : decode cX10_findRing 71 = .ok (.iload_n 3, 1) := by decide +kernel
theorem dX10_findRing_72 : decode cX10_findRing 72 = .ok (.iaload, 1) := by decide +kernel
theorem dX10_findRing_73 : decode cX10_findRing 73 = .ok (.invokevirtual 231, 3) := by decide +kernel
theorem dX10_findRing_76 : decode cX10_findRing 76 = .ok (.ifCond .eq (-63), 3) := by decide +kernel
theorem dX10_findRing_79 : decode cX10_findRing 79 = .ok (.iload_n 3, 1) := by decide +kernel
theorem dX10_findRing_80 : decode cX10_findRing 80 = .ok (.ifCond .le 26, 3) := by decide +kernel
theorem dX10_findRing_83 : decode cX10_findRing 83 = .ok (.aload_n 0, 1) := by decide +kernel
theorem dX10_findRing_84 : decode cX10_findRing 84 = .ok (.aload_n 0, 1) := by decide +kernel
theorem dX10_findRing_85 : decode cX10_findRing 85 = .ok (.getfield 51, 3) := by decide +kernel
theorem dX10_findRing_88 : decode cX10_findRing 88 = .ok (.iload_n 3, 1) := by decide +kernel
theorem dX10_findRing_89 : decode cX10_findRing 89 = .ok (.iaload, 1) := by decide +kernel
theorem dX10_findRing_90 : decode cX10_findRing 90 = .ok (.aload_n 0, 1) := by decide +kernel
theorem dX10_findRing_91 : decode cX10_findRing 91 = .ok (.getfield 51, 3) := by decide +kernel
theorem dX10_findRing_94 : decode cX10_findRing 94 = .ok (.iconst 0, 1) := by decide +kernel
theorem dX10_findRing_95 : decode cX10_findRing 95 = .ok (.iaload, 1) := by decide +kernel
theorem dX10_findRing_96 : decode cX10_findRing 96 = .ok (.invokevirtual 231, 3) := by decide +kernel
theorem dX10_findRing_99 : decode cX10_findRing 99 = .ok (.ifCond .eq 7, 3) := by decide +kernel
theorem dX10_findRing_102 : decode cX10_findRing 102 = .ok (.iconst 1, 1) := by decide +kernel
theorem dX10_findRing_103 : decode cX10_findRing 103 = .ok (.goto 4, 3) := by decide +kernel
theorem dX10_findRing_106 : decode cX10_findRing 106 = .ok (.iconst 0, 1) := by decide +kernel
theorem dX10_findRing_107 : decode cX10_findRing 107 = .ok (.istore 4, 2) := by decide +kernel
theorem dX10_findRing_109 : decode cX10_findRing 109 = .ok (.iload 4, 2) := by decide +kernel
theorem dX10_findRing_111 : decode cX10_findRing 111 = .ok (.ifCond .eq 13, 3) := by decide +kernel
theorem dX10_findRing_114 : decode cX10_findRing 114 = .ok (.aload_n 0, 1) := by decide +kernel
theorem dX10_findRing_115 : decode cX10_findRing 115 = .ok (.iload_n 3, 1) := by decide +kernel
theorem dX10_findRing_116 : decode cX10_findRing 116 = .ok (.iconst 1, 1) := by decide +kernel
theorem dX10_findRing_117 : decode cX10_findRing 117 = .ok (.iadd, 1) := by decide +kernel
theorem dX10_findRing_118 : decode cX10_findRing 118 = .ok (.invokevirtual 235, 3) := by decide +kernel
theorem dX10_findRing_121 : decode cX10_findRing 121 = .ok (.goto 4, 3) := by decide +kernel
theorem dX10_findRing_124 : decode cX10_findRing 124 = .ok (.iconst 0, 1) := by decide +kernel
theorem dX10_findRing_125 : decode cX10_findRing 125 = .ok (.istore 5, 2) := by decide +kernel
theorem dX10_findRing_127 : decode cX10_findRing 127 = .ok (.iload 4, 2) := by decide +kernel
theorem dX10_findRing_129 : decode cX10_findRing 129 = .ok (.ifCond .eq 50, 3) := by decide +kernel
theorem dX10_findRing_132 : decode cX10_findRing 132 = .ok (.iload_n 1, 1) := by decide +kernel
theorem dX10_findRing_133 : decode cX10_findRing 133 = .ok (.iconst (-1), 1) := by decide +kernel
theorem dX10_findRing_134 : decode cX10_findRing 134 = .ok (.if_icmp .eq 9, 3) := by decide +kernel
theorem dX10_findRing_137 : decode cX10_findRing 137 = .ok (.iload 5, 2) := by decide +kernel
theorem dX10_findRing_139 : decode cX10_findRing 139 = .ok (.iload_n 2, 1) := by decide +kernel
theorem dX10_findRing_140 : decode cX10_findRing 140 = .ok (.if_icmp .ge 39, 3) := by decide +kernel
theorem dX10_findRing_143 : decode cX10_findRing 143 = .ok (.iload_n 3, 1) := by decide +kernel
theorem dX10_findRing_144 : decode cX10_findRing 144 = .ok (.iconst 1, 1) := by decide +kernel
theorem dX10_findRing_145 : decode cX10_findRing 145 = .ok (.iadd, 1) := by decide +kernel
theorem dX10_findRing_146 : decode cX10_findRing 146 = .ok (.istore_n 1, 1) := by decide +kernel
theorem dX10_findRing_147 : decode cX10_findRing 147 = .ok (.iload 5, 2) := by decide +kernel
theorem dX10_findRing_149 : decode cX10_findRing 149 = .ok (.istore_n 2, 1) := by decide +kernel
theorem dX10_findRing_150 : decode cX10_findRing 150 = .ok (.iconst 0, 1) := by decide +kernel
theorem dX10_findRing_151 : decode cX10_findRing 151 = .ok (.istore 6, 2) := by decide +kernel
theorem dX10_findRing_153 : decode cX10_findRing 153 = .ok (.iload 6, 2) := by decide +kernel
theorem dX10_findRing_155 : decode cX10_findRing 155 = .ok (.iload_n 1, 1) := by decide +kernel
theorem dX10_findRing_156 : decode cX10_findRing 156 = .ok (.if_icmp .ge 23, 3) := by decide +kernel
theorem dX10_findRing_159 : decode cX10_findRing 159 = .ok (.aload_n 0, 1) := by decide +kernel
theorem dX10_findRing_160 : decode cX10_findRing 160 = .ok (.getfield 54, 3) := by decide +kernel
theorem dX10_findRing_163 : decode cX10_findRing 163 = .ok (.iload 6, 2) := by decide +kernel
theorem dX10_findRing_165 : decode cX10_findRing 165 = .ok (.aload_n 0, 1) := by decide +kernel
theorem dX10_findRing_166 : decode cX10_findRing 166 = .ok (.getfield 51, 3) := by decide +kernel
theorem dX10_findRing_169 : decode cX10_findRing 169 = .ok (.iload 6, 2) := by decide +kernel
theorem dX10_findRing_171 : decode cX10_findRing 171 = .ok (.iaload, 1) := by decide +kernel
theorem dX10_findRing_172 : decode cX10_findRing 172 = .ok (.iastore, 1) := by decide +kernel
theorem dX10_findRing_173 : decode cX10_findRing 173 = .ok (.iinc 6 1, 3) := by decide +kernel
theorem dX10_findRing_176 : decode cX10_findRing 176 = .ok (.goto (-23), 3) := by decide +kernel
theorem dX10_findRing_179 : decode cX10_findRing 179 = .ok (.iload_n 3, 1) := by decide +kernel
theorem dX10_findRing_180 : decode cX10_findRing 180 = .ok (.iconst 1, 1) := by decide +kernel
theorem dX10_findRing_181 : decode cX10_findRing 181 = .ok (.iadd, 1) := by decide +kernel
theorem dX10_findRing_182 : decode cX10_findRing 182 = .ok (.aload_n 0, 1) := by decide +kernel
theorem dX10_findRing_183 : decode cX10_findRing 183 = .ok (.getfield 7, 3) := by decide +kernel
theorem dX10_findRing_186 : decode cX10_findRing 186 = .ok (.if_icmp .ge 13, 3) := by decide +kernel
theorem dX10_findRing_189 : decode cX10_findRing 189 = .ok (.iinc 3 1, 3) := by decide +kernel
theorem dX10_findRing_192 : decode cX10_findRing 192 = .ok (.aload_n 0, 1) := by decide +kernel
theorem dX10_findRing_193 : decode cX10_findRing 193 = .ok (.getfield 51, 3) := by decide +kernel
theorem dX10_findRing_196 : decode cX10_findRing 196 = .ok (.iload_n 3, 1) := by decide +kernel
theorem dX10_findRing_197 : decode cX10_findRing 197 = .ok (.iconst (-1), 1) := by decide +kernel
theorem dX10_findRing_198 : decode cX10_findRing 198 = .ok (.iastore, 1) := by decide +kernel
theorem dX10_findRing_199 : decode cX10_findRing 199 = .ok (.goto (-186), 3) := by decide +kernel
theorem dX10_findRing_202 : decode cX10_findRing 202 = .ok (.aload_n 0, 1) := by decide +kernel
theorem dX10_findRing_203 : decode cX10_findRing 203 = .ok (.getfield 54, 3) := by decide +kernel
theorem dX10_findRing_206 : decode cX10_findRing 206 = .ok (.bipush 6, 2) := by decide +kernel
theorem dX10_findRing_208 : decode cX10_findRing 208 = .ok (.iload_n 2, 1) := by decide +kernel
theorem dX10_findRing_209 : decode cX10_findRing 209 = .ok (.iastore, 1) := by decide +kernel
theorem dX10_findRing_210 : decode cX10_findRing 210 = .ok (.iload_n 1, 1) := by decide +kernel
theorem dX10_findRing_211 : decode cX10_findRing 211 = .ok (.ireturn, 1) := by decide +kernel
theorem dX10_ring_0 : decode cX10_ring 0 = .ok (.iload_n 1, 1) := by decide +kernel
theorem dX10_ring_1 : decode cX10_ring 1 = .ok (.iconst 0, 1) := by decide +kernel
theorem dX10_ring_2 : decode cX10_ring 2 = .ok (.iconst 1, 1) := by decide +kernel
theorem dX10_ring_3 : decode cX10_ring 3 = .ok (.invokestatic 73, 3) := by decide +kernel
theorem dX10_ring_6 : decode cX10_ring 6 = .ok (.ifCond .ne 17, 3) := by decide +kernel
theorem dX10_ring_9 : decode cX10_ring 9 = .ok (.iload_n 1, 1) := by decide +kernel
theorem dX10_ring_10 : decode cX10_ring 10 = .ok (.bipush 10, 2) := by decide +kernel
theorem dX10_ring_12 : decode cX10_ring 12 = .ok (.bipush 15, 2) := by decide +kernel
theorem dX10_ring_14 : decode cX10_ring 14 = .ok (.invokestatic 73, 3) := by decide +kernel
theorem dX10_ring_17 : decode cX10_ring 17 = .ok (.ifCond .ne 6, 3) := by decide +kernel
theorem dX10_ring_20 : decode cX10_ring 20 = .ok (.bipush (-3), 2) := by decide +kernel
theorem dX10_ring_22 : decode cX10_ring 22 = .ok (.ireturn, 1) := by decide +kernel
theorem dX10_ring_23 : decode cX10_ring 23 = .ok (.aload_n 0, 1) := by decide +kernel
theorem dX10_ring_24 : decode cX10_ring 24 = .ok (.invokevirtual 238, 3) := by decide +kernel
theorem dX10_ring_27 : decode cX10_ring 27 = .ok (.istore_n 2, 1) := by decide +kernel
theorem dX10_ring_28 : decode cX10_ring 28 = .ok (.iload_n 2, 1) := by decide +kernel
theorem dX10_ring_29 : decode cX10_ring 29 = .ok (.iconst (-1), 1) := by decide +kernel
theorem dX10_ring_30 : decode cX10_ring 30 = .ok (.if_icmp .ne 5, 3) := by decide +kernel
theorem dX10_ring_33 : decode cX10_ring 33 = .ok (.iconst (-1), 1) := by decide +kernel
theorem dX10_ring_34 : decode cX10_ring 34 = .ok (.ireturn, 1) := by decide +kernel
theorem dX10_ring_35 : decode cX10_ring 35 = .ok (.iload_n 1, 1) := by decide +kernel
theorem dX10_ring_36 : decode cX10_ring 36 = .ok (.ifCond .ne 13, 3) := by decide +kernel
theorem dX10_ring_39 : decode cX10_ring 39 = .ok (.aload_n 0, 1) := by decide +kernel
theorem dX10_ring_40 : decode cX10_ring 40 = .ok (.getfield 54, 3) := by decide +kernel
theorem dX10_ring_43 : decode cX10_ring 43 = .ok (.bipush 6, 2) := by decide +kernel
theorem dX10_ring_45 : decode cX10_ring 45 = .ok (.iaload, 1) := by decide +kernel
theorem dX10_ring_46 : decode cX10_ring 46 = .ok (.goto 33, 3) := by decide +kernel
theorem dX10_ring_49 : decode cX10_ring 49 = .ok (.iload_n 1, 1) := by decide +kernel
theorem dX10_ring_50 : decode cX10_ring 50 = .ok (.iconst 1, 1) := by decide +kernel
theorem dX10_ring_51 : decode cX10_ring 51 = .ok (.if_icmp .ne 7, 3) := by decide +kernel
theorem dX10_ring_54 : decode cX10_ring 54 = .ok (.iload_n 2, 1) := by decide +kernel
theorem dX10_ring_55 : decode cX10_ring 55 = .ok (.goto 24, 3) := by decide +kernel
theorem dX10_ring_58 : decode cX10_ring 58 = .ok (.iload_n 1, 1) := by decide +kernel
theorem dX10_ring_59 : decode cX10_ring 59 = .ok (.bipush 10, 2) := by decide +kernel
theorem dX10_ring_61 : decode cX10_ring 61 = .ok (.isub, 1) := by decide +kernel
theorem dX10_ring_62 : decode cX10_ring 62 = .ok (.iload_n 2, 1) := by decide +kernel
theorem dX10_ring_63 : decode cX10_ring 63 = .ok (.if_icmp .ge 15, 3) := by decide +kernel
theorem dX10_ring_66 : decode cX10_ring 66 = .ok (.aload_n 0, 1) := by decide +kernel
theorem dX10_ring_67 : decode cX10_ring 67 = .ok (.getfield 54, 3) := by decide +kernel
theorem dX10_ring_70 : decode cX10_ring 70 = .ok (.iload_n 1, 1) := by decide +kernel
theorem dX10_ring_71 : decode cX10_ring 71 = .ok (.bipush 10, 2) := by decide +kernel
theorem dX10_ring_73 : decode cX10_ring 73 = .ok (.isub, 1) := by decide +kernel
theorem dX10_ring_74 : decode cX10_ring 74 = .ok (.iaload, 1) := by decide +kernel
theorem dX10_ring_75 : decode cX10_ring 75 = .ok (.goto 4, 3) := by decide +kernel
theorem dX10_ring_78 : decode cX10_ring 78 = .ok (.iconst (-1), 1) := by decide +kernel
theorem dX10_ring_79 : decode cX10_ring 79 = .ok (.ireturn, 1) := by decide +kernel
theorem dX10_sent_0 : decode cX10_sent 0 = .ok (.iconst (-1), 1) := by decide +kernel
theorem dX10_sent_1 : decode cX10_sent 1 = .ok (.istore_n 2, 1) := by decide +kernel
theorem dX10_sent_2 : decode cX10_sent 2 = .ok (.iconst 0, 1) := by decide +kernel
theorem dX10_sent_3 : decode cX10_sent 3 = .ok (.istore_n 3, 1) := by decide +kernel
theorem dX10_sent_4 : decode cX10_sent 4 = .ok (.iload_n 3, 1) := by decide +kernel
theorem dX10_sent_5 : decode cX10_sent 5 = .ok (.aload_n 0, 1) := by decide +kernel
theorem dX10_sent_6 : decode cX10_sent 6 = .ok (.getfield 77, 3) := by decide +kernel
theorem dX10_sent_9 : decode cX10_sent 9 = .ok (.if_icmp .ge 137, 3) := by decide +kernel
theorem dX10_sent_12 : decode cX10_sent 12 = .ok (.aload_n 0, 1) := by decide +kernel
theorem dX10_sent_13 : decode cX10_sent 13 = .ok (.getfield 80, 3) := by decide +kernel
theorem dX10_sent_16 : decode cX10_sent 16 = .ok (.iconst 3, 1) := by decide +kernel
theorem dX10_sent_17 : decode cX10_sent 17 = .ok (.if_icmp .ge 129, 3) := by decide +kernel
theorem dX10_sent_20 : decode cX10_sent 20 = .ok (.aload_n 0, 1) := by decide +kernel
theorem dX10_sent_21 : decode cX10_sent 21 = .ok (.getfield 29, 3) := by decide +kernel
theorem dX10_sent_24 : decode cX10_sent 24 = .ok (.iload_n 3, 1) := by decide +kernel
theorem dX10_sent_25 : decode cX10_sent 25 = .ok (.iaload, 1) := by decide +kernel
theorem dX10_sent_26 : decode cX10_sent 26 = .ok (.iload_n 1, 1) := by decide +kernel
theorem dX10_sent_27 : decode cX10_sent 27 = .ok (.if_icmp .ne 113, 3) := by decide +kernel
theorem dX10_sent_30 : decode cX10_sent 30 = .ok (.aload_n 0, 1) := by decide +kernel
theorem dX10_sent_31 : decode cX10_sent 31 = .ok (.getfield 17, 3) := by decide +kernel
theorem dX10_sent_34 : decode cX10_sent 34 = .ok (.iload_n 3, 1) := by decide +kernel
theorem dX10_sent_35 : decode cX10_sent 35 = .ok (.iaload, 1) := by decide +kernel
theorem dX10_sent_36 : decode cX10_sent 36 = .ok (.iconst 3, 1) := by decide +kernel
theorem dX10_sent_37 : decode cX10_sent 37 = .ok (.if_icmp .eq 103, 3) := by decide +kernel
theorem dX10_sent_40 : decode cX10_sent 40 = .ok (.iload_n 2, 1) := by decide +kernel
theorem dX10_sent_41 : decode cX10_sent 41 = .ok (.iconst (-1), 1) := by decide +kernel
theorem dX10_sent_42 : decode cX10_sent 42 = .ok (.if_icmp .ne 7, 3) := by decide +kernel
theorem dX10_sent_45 : decode cX10_sent 45 = .ok (.iconst 1, 1) := by decide +kernel
theorem dX10_sent_46 : decode cX10_sent 46 = .ok (.goto 81, 3) := by decide +kernel
theorem dX10_sent_49 : decode cX10_sent 49 = .ok (.aload_n 0, 1) := by decide +kernel
theorem dX10_sent_50 : decode cX10_sent 50 = .ok (.getfield 80, 3) := by decide +kernel
theorem dX10_sent_53 : decode cX10_sent 53 = .ok (.ifCond .ne 25, 3) := by decide +kernel
theorem dX10_sent_56 : decode cX10_sent 56 = .ok (.aload_n 0, 1) := by decide +kernel
theorem dX10_sent_57 : decode cX10_sent 57 = .ok (.getfield 29, 3) := by decide +kernel
theorem dX10_sent_60 : decode cX10_sent 60 = .ok (.bipush 10, 2) := by decide +kernel
theorem dX10_sent_62 : decode cX10_sent 62 = .ok (.iload_n 3, 1) := by decide +kernel
theorem dX10_sent_63 : decode cX10_sent 63 = .ok (.iadd, 1) := by decide +kernel
theorem dX10_sent_64 : decode cX10_sent 64 = .ok (.iaload, 1) := by decide +kernel
theorem dX10_sent_65 : decode cX10_sent 65 = .ok (.aload_n 0, 1) := by decide +kernel
theorem dX10_sent_66 : decode cX10_sent 66 = .ok (.getfield 29, 3) := by decide +kernel
theorem dX10_sent_69 : decode cX10_sent 69 = .ok (.bipush 10, 2) := by decide +kernel
theorem dX10_sent_71 : decode cX10_sent 71 = .ok (.iload_n 2, 1) := by decide +kernel
theorem dX10_sent_72 : decode cX10_sent 72 = .ok (.iadd, 1) := by decide +kernel
theorem dX10_sent_73 : decode cX10_sent 73 = .ok (.iaload, 1) := by decide +kernel
theorem dX10_sent_74 : decode cX10_sent 74 = .ok (.isub, 1) := by decide +kernel
theorem dX10_sent_75 : decode cX10_sent 75 = .ok (.goto 52, 3) := by decide +kernel
theorem dX10_sent_78 : decode cX10_sent 78 = .ok (.aload_n 0, 1) := by decide +kernel
theorem dX10_sent_79 : decode cX10_sent 79 = .ok (.getfield 80, 3) := by decide +kernel
theorem dX10_sent_82 : decode cX10_sent 82 = .ok (.iconst 1, 1) := by decide +kernel
theorem dX10_sent_83 : decode cX10_sent 83 = .ok (.if_icmp .ne 25, 3) := by decide +kernel
theorem dX10_sent_86 : decode cX10_sent 86 = .ok (.aload_n 0, 1) := by decide +kernel
theorem dX10_sent_87 : decode cX10_sent 87 = .ok (.getfield 29, 3) := by decide +kernel
theorem dX10_sent_90 : decode cX10_sent 90 = .ok (.bipush 10, 2) := by decide +kernel
theorem dX10_sent_92 : decode cX10_sent 92 = .ok (.iload_n 2, 1) := by decide +kernel
theorem dX10_sent_93 : decode cX10_sent 93 = .ok (.iadd, 1) := by decide +kernel
theorem dX10_sent_94 : decode cX10_sent 94 = .ok (.iaload, 1) := by decide +kernel
theorem dX10_sent_95 : decode cX10_sent 95 = .ok (.aload_n 0, 1) := by decide +kernel
theorem dX10_sent_96 : decode cX10_sent 96 = .ok (.getfield 29, 3) := by decide +kernel
theorem dX10_sent_99 : decode cX10_sent 99 = .ok (.bipush 10, 2) := by decide +kernel
theorem dX10_sent_101 : decode cX10_sent 101 = .ok (.iload_n 3, 1) := by decide +kernel
theorem dX10_sent_102 : decode cX10_sent 102 = .ok (.iadd, 1) := by decide +kernel
theorem dX10_sent_103 : decode cX10_sent 103 = .ok (.iaload, 1) := by decide +kernel
theorem dX10_sent_104 : decode cX10_sent 104 = .ok (.isub, 1) := by decide +kernel
theorem dX10_sent_105 : decode cX10_sent 105 = .ok (.goto 22, 3) := by decide +kernel
theorem dX10_sent_108 : decode cX10_sent 108 = .ok (.aload_n 0, 1) := by decide +kernel
theorem dX10_sent_109 : decode cX10_sent 109 = .ok (.getfield 29, 3) := by decide +kernel
theorem dX10_sent_112 : decode cX10_sent 112 = .ok (.bipush 30, 2) := by decide +kernel
theorem dX10_sent_114 : decode cX10_sent 114 = .ok (.iload_n 2, 1) := by decide +kernel
theorem dX10_sent_115 : decode cX10_sent 115 = .ok (.iadd, 1) := by decide +kernel
theorem dX10_sent_116 : decode cX10_sent 116 = .ok (.iaload, 1) := by decide +kernel
theorem dX10_sent_117 : decode cX10_sent 117 = .ok (.aload_n 0, 1) := by decide +kernel
theorem dX10_sent_118 : decode cX10_sent 118 = .ok (.getfield 29, 3) := by decide +kernel
theorem dX10_sent_121 : decode cX10_sent 121 = .ok (.bipush 30, 2) := by decide +kernel
theorem dX10_sent_123 : decode cX10_sent 123 = .ok (.iload_n 3, 1) := by decide +kernel
theorem dX10_sent_124 : decode cX10_sent 124 = .ok (.iadd, 1) := by decide +kernel
theorem dX10_sent_125 : decode cX10_sent 125 = .ok (.iaload, 1) := by decide +kernel
theorem dX10_sent_126 : decode cX10_sent 126 = .ok (.isub, 1) := by decide +kernel
theorem dX10_sent_127 : decode cX10_sent 127 = .ok (.istore 4, 2) := by decide +kernel
theorem dX10_sent_129 : decode cX10_sent 129 = .ok (.iload 4, 2) := by decide +kernel
theorem dX10_sent_131 : decode cX10_sent 131 = .ok (.ifCond .le 7, 3) := by decide +kernel
theorem dX10_sent_134 : decode cX10_sent 134 = .ok (.iload_n 3, 1) := by decide +kernel
theorem dX10_sent_135 : decode cX10_sent 135 = .ok (.goto 4, 3) := by decide +kernel
theorem dX10_sent_138 : decode cX10_sent 138 = .ok (.iload_n 2, 1) := by decide +kernel
theorem dX10_sent_139 : decode cX10_sent 139 = .ok (.istore_n 2, 1) := by decide +kernel
theorem dX10_sent_140 : decode cX10_sent 140 = .ok (.iinc 3 1, 3) := by decide +kernel
theorem dX10_sent_143 : decode cX10_sent 143 = .ok (.goto (-139), 3) := by decide +kernel
theorem dX10_sent_146 : decode cX10_sent 146 = .ok (.iload_n 2, 1) := by decide +kernel
theorem dX10_sent_147 : decode cX10_sent 147 = .ok (.ireturn, 1) := by decide +kernel
theorem dX10_weightThen_0 : decode cX10_weightThen 0 = .ok (.iload_n 0, 1) := by decide +kernel
theorem dX10_weightThen_1 : decode cX10_weightThen 1 = .ok (.iconst 1, 1) := by decide +kernel
theorem dX10_weightThen_2 : decode cX10_weightThen 2 = .ok (.isub, 1) := by decide +kernel
theorem dX10_weightThen_3 : decode cX10_weightThen 3 = .ok (.iload_n 1, 1) := by decide +kernel
theorem dX10_weightThen_4 : decode cX10_weightThen 4 = .ok (.iadd, 1) := by decide +kernel
theorem dX10_weightThen_5 : decode cX10_weightThen 5 = .ok (.istore_n 2, 1) := by decide +kernel
theorem dX10_weightThen_6 : decode cX10_weightThen 6 = .ok (.iload_n 2, 1) := by decide +kernel
theorem dX10_weightThen_7 : decode cX10_weightThen 7 = .ok (.iconst 1, 1) := by decide +kernel
theorem dX10_weightThen_8 : decode cX10_weightThen 8 = .ok (.if_icmp .ge 7, 3) := by decide +kernel
theorem dX10_weightThen_11 : decode cX10_weightThen 11 = .ok (.iconst 1, 1) := by decide +kernel
theorem dX10_weightThen_12 : decode cX10_weightThen 12 = .ok (.goto 15, 3) := by decide +kernel
theorem dX10_weightThen_15 : decode cX10_weightThen 15 = .ok (.iload_n 2, 1) := by decide +kernel
theorem dX10_weightThen_16 : decode cX10_weightThen 16 = .ok (.bipush 99, 2) := by decide +kernel
theorem dX10_weightThen_18 : decode cX10_weightThen 18 = .ok (.if_icmp .le 8, 3) := by decide +kernel
theorem dX10_weightThen_21 : decode cX10_weightThen 21 = .ok (.bipush 99, 2) := by decide +kernel
theorem dX10_weightThen_23 : decode cX10_weightThen 23 = .ok (.goto 4, 3) := by decide +kernel
theorem dX10_weightThen_26 : decode cX10_weightThen 26 = .ok (.iload_n 2, 1) := by decide +kernel
theorem dX10_weightThen_27 : decode cX10_weightThen 27 = .ok (.ireturn, 1) := by decide +kernel
theorem dX10_growUp_0 : decode cX10_growUp 0 = .ok (.aload_n 0, 1) := by decide +kernel
theorem dX10_growUp_1 : decode cX10_growUp 1 = .ok (.getfield 29, 3) := by decide +kernel
theorem dX10_growUp_4 : decode cX10_growUp 4 = .ok (.iload_n 1, 1) := by decide +kernel
theorem dX10_growUp_5 : decode cX10_growUp 5 = .ok (.iaload, 1) := by decide +kernel
theorem dX10_growUp_6 : decode cX10_growUp 6 = .ok (.istore_n 2, 1) := by decide +kernel
theorem dX10_growUp_7 : decode cX10_growUp 7 = .ok (.aload_n 0, 1) := by decide +kernel
theorem dX10_growUp_8 : decode cX10_growUp 8 = .ok (.getfield 29, 3) := by decide +kernel
theorem dX10_growUp_11 : decode cX10_growUp 11 = .ok (.bipush 10, 2) := by decide +kernel
theorem dX10_growUp_13 : decode cX10_growUp 13 = .ok (.iload_n 1, 1) := by decide +kernel
theorem dX10_growUp_14 : decode cX10_growUp 14 = .ok (.iadd, 1) := by decide +kernel
theorem dX10_growUp_15 : decode cX10_growUp 15 = .ok (.aload_n 0, 1) := by decide +kernel
theorem dX10_growUp_16 : decode cX10_growUp 16 = .ok (.getfield 29, 3) := by decide +kernel
theorem dX10_growUp_19 : decode cX10_growUp 19 = .ok (.bipush 10, 2) := by decide +kernel
theorem dX10_growUp_21 : decode cX10_growUp 21 = .ok (.iload_n 1, 1) := by decide +kernel
theorem dX10_growUp_22 : decode cX10_growUp 22 = .ok (.iadd, 1) := by decide +kernel
theorem dX10_growUp_23 : decode cX10_growUp 23 = .ok (.iaload, 1) := by decide +kernel
theorem dX10_growUp_24 : decode cX10_growUp 24 = .ok (.aload_n 0, 1) := by decide +kernel
theorem dX10_growUp_25 : decode cX10_growUp 25 = .ok (.getfield 13, 3) := by decide +kernel
theorem dX10_growUp_28 : decode cX10_growUp 28 = .ok (.iconst 5, 1) := by decide +kernel
theorem dX10_growUp_29 : decode cX10_growUp 29 = .ok (.iload_n 2, 1) := by decide +kernel
theorem dX10_growUp_30 : decode cX10_growUp 30 = .ok (.imul, 1) := by decide +kernel
theorem dX10_growUp_31 : decode cX10_growUp 31 = .ok (.iconst 2, 1) := by decide +kernel
theorem dX10_growUp_32 : decode cX10_growUp 32 = .ok (.iadd, 1) := by decide +kernel
theorem dX10_growUp_33 : decode cX10_growUp 33 = .ok (.iaload, 1) := by decide +kernel
theorem dX10_growUp_34 : decode cX10_growUp 34 = .ok (.invokestatic 241, 3) := by decide +kernel
theorem dX10_growUp_37 : decode cX10_growUp 37 = .ok (.iastore, 1) := by decide +kernel
theorem dX10_growUp_38 : decode cX10_growUp 38 = .ok (.aload_n 0, 1) := by decide +kernel
theorem dX10_growUp_39 : decode cX10_growUp 39 = .ok (.getfield 29, 3) := by decide +kernel
theorem dX10_growUp_42 : decode cX10_growUp 42 = .ok (.bipush 20, 2) := by decide +kernel
theorem dX10_growUp_44 : decode cX10_growUp 44 = .ok (.iload_n 1, 1) := by decide +kernel
theorem dX10_growUp_45 : decode cX10_growUp 45 = .ok (.iadd, 1) := by decide +kernel
theorem dX10_growUp_46 : decode cX10_growUp 46 = .ok (.iaload, 1) := by decide +kernel
theorem dX10_growUp_47 : decode cX10_growUp 47 = .ok (.aload_n 0, 1) := by decide +kernel
theorem dX10_growUp_48 : decode cX10_growUp 48 = .ok (.getfield 13, 3) := by decide +kernel
theorem dX10_growUp_51 : decode cX10_growUp 51 = .ok (.iconst 5, 1) := by decide +kernel
theorem dX10_growUp_52 : decode cX10_growUp 52 = .ok (.iload_n 2, 1) := by decide +kernel
theorem dX10_growUp_53 : decode cX10_growUp 53 = .ok (.imul, 1) := by decide +kernel
theorem dX10_growUp_54 : decode cX10_growUp 54 = .ok (.iaload, 1) := by decide +kernel
theorem dX10_growUp_55 : decode cX10_growUp 55 = .ok (.if_icmp .ne 67, 3) := by decide +kernel
theorem dX10_growUp_58 : decode cX10_growUp 58 = .ok (.aload_n 0, 1) := by decide +kernel
theorem dX10_growUp_59 : decode cX10_growUp 59 = .ok (.getfield 29, 3) := by decide +kernel
theorem dX10_growUp_62 : decode cX10_growUp 62 = .ok (.bipush 30, 2) := by decide +kernel
theorem dX10_growUp_64 : decode cX10_growUp 64 = .ok (.iload_n 1, 1) := by decide +kernel
theorem dX10_growUp_65 : decode cX10_growUp 65 = .ok (.iadd, 1) := by decide +kernel
theorem dX10_growUp_66 : decode cX10_growUp 66 = .ok (.iaload, 1) := by decide +kernel
theorem dX10_growUp_67 : decode cX10_growUp 67 = .ok (.aload_n 0, 1) := by decide +kernel
theorem dX10_growUp_68 : decode cX10_growUp 68 = .ok (.getfield 17, 3) := by decide +kernel
theorem dX10_growUp_71 : decode cX10_growUp 71 = .ok (.iload_n 1, 1) := by decide +kernel
theorem dX10_growUp_72 : decode cX10_growUp 72 = .ok (.iaload, 1) := by decide +kernel
theorem dX10_growUp_73 : decode cX10_growUp 73 = .ok (.iconst 1, 1) := by decide +kernel
theorem dX10_growUp_74 : decode cX10_growUp 74 = .ok (.if_icmp .ne 7, 3) := by decide +kernel
theorem dX10_growUp_77 : decode cX10_growUp 77 = .ok (.iconst 0, 1) := by decide +kernel
theorem dX10_growUp_78 : decode cX10_growUp 78 = .ok (.goto 18, 3) := by decide +kernel
theorem dX10_growUp_81 : decode cX10_growUp 81 = .ok (.aload_n 0, 1) := by decide +kernel
theorem dX10_growUp_82 : decode cX10_growUp 82 = .ok (.getfield 17, 3) := by decide +kernel
theorem dX10_growUp_85 : decode cX10_growUp 85 = .ok (.iload_n 1, 1) := by decide +kernel
theorem dX10_growUp_86 : decode cX10_growUp 86 = .ok (.iaload, 1) := by decide +kernel
theorem dX10_growUp_87 : decode cX10_growUp 87 = .ok (.iconst 3, 1) := by decide +kernel
theorem dX10_growUp_88 : decode cX10_growUp 88 = .ok (.if_icmp .ne 7, 3) := by decide +kernel
theorem dX10_growUp_91 : decode cX10_growUp 91 = .ok (.iconst 2, 1) := by decide +kernel
theorem dX10_growUp_92 : decode cX10_growUp 92 = .ok (.goto 4, 3) := by decide +kernel
theorem dX10_growUp_95 : decode cX10_growUp 95 = .ok (.iconst 1, 1) := by decide +kernel
theorem dX10_growUp_96 : decode cX10_growUp 96 = .ok (.iadd, 1) := by decide +kernel
theorem dX10_growUp_97 : decode cX10_growUp 97 = .ok (.istore_n 3, 1) := by decide +kernel
theorem dX10_growUp_98 : decode cX10_growUp 98 = .ok (.aload_n 0, 1) := by decide +kernel
theorem dX10_growUp_99 : decode cX10_growUp 99 = .ok (.getfield 29, 3) := by decide +kernel
theorem dX10_growUp_102 : decode cX10_growUp 102 = .ok (.bipush 30, 2) := by decide +kernel
theorem dX10_growUp_104 : decode cX10_growUp 104 = .ok (.iload_n 1, 1) := by decide +kernel
theorem dX10_growUp_105 : decode cX10_growUp 105 = .ok (.iadd, 1) := by decide +kernel
theorem dX10_growUp_106 : decode cX10_growUp 106 = .ok (.iload_n 3, 1) := by decide +kernel
theorem dX10_growUp_107 : decode cX10_growUp 107 = .ok (.bipush 9, 2) := by decide +kernel
theorem dX10_growUp_109 : decode cX10_growUp 109 = .ok (.if_icmp .le 8, 3) := by decide +kernel
theorem dX10_growUp_112 : decode cX10_growUp 112 = .ok (.bipush 9, 2) := by decide +kernel
theorem dX10_growUp_114 : decode cX10_growUp 114 = .ok (.goto 4, 3) := by decide +kernel
theorem dX10_growUp_117 : decode cX10_growUp 117 = .ok (.iload_n 3, 1) := by decide +kernel
theorem dX10_growUp_118 : decode cX10_growUp 118 = .ok (.iastore, 1) := by decide +kernel
theorem dX10_growUp_119 : decode cX10_growUp 119 = .ok (.goto 73, 3) := by decide +kernel
theorem dX10_growUp_122 : decode cX10_growUp 122 = .ok (.aload_n 0, 1) := by decide +kernel
theorem dX10_growUp_123 : decode cX10_growUp 123 = .ok (.getfield 29, 3) := by decide +kernel
theorem dX10_growUp_126 : decode cX10_growUp 126 = .ok (.bipush 30, 2) := by decide +kernel
theorem dX10_growUp_128 : decode cX10_growUp 128 = .ok (.iload_n 1, 1) := by decide +kernel
theorem dX10_growUp_129 : decode cX10_growUp 129 = .ok (.iadd, 1) := by decide +kernel
theorem dX10_growUp_130 : decode cX10_growUp 130 = .ok (.dup2, 1) := by decide +kernel
theorem dX10_growUp_131 : decode cX10_growUp 131 = .ok (.iaload, 1) := by decide +kernel
theorem dX10_growUp_132 : decode cX10_growUp 132 = .ok (.aload_n 0, 1) := by decide +kernel
theorem dX10_growUp_133 : decode cX10_growUp 133 = .ok (.getfield 29, 3) := by decide +kernel
theorem dX10_growUp_136 : decode cX10_growUp 136 = .ok (.bipush 30, 2) := by decide +kernel
theorem dX10_growUp_138 : decode cX10_growUp 138 = .ok (.iload_n 1, 1) := by decide +kernel
theorem dX10_growUp_139 : decode cX10_growUp 139 = .ok (.iadd, 1) := by decide +kernel
theorem dX10_growUp_140 : decode cX10_growUp 140 = .ok (.iaload, 1) := by decide +kernel
theorem dX10_growUp_141 : decode cX10_growUp 141 = .ok (.ifCond .le 7, 3) := by decide +kernel
theorem dX10_growUp_144 : decode cX10_growUp 144 = .ok (.iconst 1, 1) := by decide +kernel
theorem dX10_growUp_145 : decode cX10_growUp 145 = .ok (.goto 4, 3) := by decide +kernel
theorem dX10_growUp_148 : decode cX10_growUp 148 = .ok (.iconst 0, 1) := by decide +kernel
theorem dX10_growUp_149 : decode cX10_growUp 149 = .ok (.isub, 1) := by decide +kernel
theorem dX10_growUp_150 : decode cX10_growUp 150 = .ok (.iastore, 1) := by decide +kernel
theorem dX10_growUp_151 : decode cX10_growUp 151 = .ok (.aload_n 0, 1) := by decide +kernel
theorem dX10_growUp_152 : decode cX10_growUp 152 = .ok (.getfield 29, 3) := by decide +kernel
theorem dX10_growUp_155 : decode cX10_growUp 155 = .ok (.bipush 20, 2) := by decide +kernel
theorem dX10_growUp_157 : decode cX10_growUp 157 = .ok (.iload_n 1, 1) := by decide +kernel
theorem dX10_growUp_158 : decode cX10_growUp 158 = .ok (.iadd, 1) := by decide +kernel
theorem dX10_growUp_159 : decode cX10_growUp 159 = .ok (.aload_n 0, 1) := by decide +kernel
theorem dX10_growUp_160 : decode cX10_growUp 160 = .ok (.getfield 29, 3) := by decide +kernel
theorem dX10_growUp_163 : decode cX10_growUp 163 = .ok (.bipush 30, 2) := by decide +kernel
theorem dX10_growUp_165 : decode cX10_growUp 165 = .ok (.iload_n 1, 1) := by decide +kernel
theorem dX10_growUp_166 : decode cX10_growUp 166 = .ok (.iadd, 1) := by decide +kernel
theorem dX10_growUp_167 : decode cX10_growUp 167 = .ok (.iaload, 1) := by decide +kernel
theorem dX10_growUp_168 : decode cX10_growUp 168 = .ok (.ifCond .ne 14, 3) := by decide +kernel
theorem dX10_growUp_171 : decode cX10_growUp 171 = .ok (.aload_n 0, 1) := by decide +kernel
theorem dX10_growUp_172 : decode cX10_growUp 172 = .ok (.getfield 13, 3) := by decide +kernel
theorem dX10_growUp_175 : decode cX10_growUp 175 = .ok (.iconst 5, 1) := by decide +kernel
theorem dX10_growUp_176 : decode cX10_growUp 176 = .ok (.iload_n 2, 1) := by decide +kernel
theorem dX10_growUp_177 : decode cX10_growUp 177 = .ok (.imul, 1) := by decide +kernel
theorem dX10_growUp_178 : decode cX10_growUp 178 = .ok (.iaload, 1) := by decide +kernel
theorem dX10_growUp_179 : decode cX10_growUp 179 = .ok (.goto 12, 3) := by decide +kernel
theorem dX10_growUp_182 : decode cX10_growUp 182 = .ok (.aload_n 0, 1) := by decide +kernel
theorem dX10_growUp_183 : decode cX10_growUp 183 = .ok (.getfield 29, 3) := by decide +kernel
theorem dX10_growUp_186 : decode cX10_growUp 186 = .ok (.bipush 20, 2) := by decide +kernel
theorem dX10_growUp_188 : decode cX10_growUp 188 = .ok (.iload_n 1, 1) := by decide +kernel
theorem dX10_growUp_189 : decode cX10_growUp 189 = .ok (.iadd, 1) := by decide +kernel
theorem dX10_growUp_190 : decode cX10_growUp 190 = .ok (.iaload, 1) := by decide +kernel
theorem dX10_growUp_191 : decode cX10_growUp 191 = .ok (.iastore, 1) := by decide +kernel
theorem dX10_growUp_192 : decode cX10_growUp 192 = .ok (.return_, 1) := by decide +kernel
theorem dX10_goYear_0 : decode cX10_goYear 0 = .ok (.iconst 0, 1) := by decide +kernel
theorem dX10_goYear_1 : decode cX10_goYear 1 = .ok (.istore_n 1, 1) := by decide +kernel
theorem dX10_goYear_2 : decode cX10_goYear 2 = .ok (.iload_n 1, 1) := by decide +kernel
theorem dX10_goYear_3 : decode cX10_goYear 3 = .ok (.aload_n 0, 1) := by decide +kernel
theorem dX10_goYear_4 : decode cX10_goYear 4 = .ok (.getfield 77, 3) := by decide +kernel
theorem dX10_goYear_7 : decode cX10_goYear 7 = .ok (.if_icmp .ge 14, 3) := by decide +kernel
theorem dX10_goYear_10 : decode cX10_goYear 10 = .ok (.aload_n 0, 1) := by decide +kernel
theorem dX10_goYear_11 : decode cX10_goYear 11 = .ok (.iload_n 1, 1) := by decide +kernel
theorem dX10_goYear_12 : decode cX10_goYear 12 = .ok (.invokevirtual 244, 3) := by decide +kernel
theorem dX10_goYear_15 : decode cX10_goYear 15 = .ok (.iinc 1 1, 3) := by decide +kernel
theorem dX10_goYear_18 : decode cX10_goYear 18 = .ok (.goto (-16), 3) := by decide +kernel
theorem dX10_goYear_21 : decode cX10_goYear 21 = .ok (.aload_n 0, 1) := by decide +kernel
theorem dX10_goYear_22 : decode cX10_goYear 22 = .ok (.invokevirtual 89, 3) := by decide +kernel
theorem dX10_goYear_25 : decode cX10_goYear 25 = .ok (.iconst 0, 1) := by decide +kernel
theorem dX10_goYear_26 : decode cX10_goYear 26 = .ok (.istore_n 1, 1) := by decide +kernel
theorem dX10_goYear_27 : decode cX10_goYear 27 = .ok (.iload_n 1, 1) := by decide +kernel
theorem dX10_goYear_28 : decode cX10_goYear 28 = .ok (.aload_n 0, 1) := by decide +kernel
theorem dX10_goYear_29 : decode cX10_goYear 29 = .ok (.getfield 7, 3) := by decide +kernel
theorem dX10_goYear_32 : decode cX10_goYear 32 = .ok (.if_icmp .ge 36, 3) := by decide +kernel
theorem dX10_goYear_35 : decode cX10_goYear 35 = .ok (.aload_n 0, 1) := by decide +kernel
theorem dX10_goYear_36 : decode cX10_goYear 36 = .ok (.iload_n 1, 1) := by decide +kernel
theorem dX10_goYear_37 : decode cX10_goYear 37 = .ok (.invokevirtual 247, 3) := by decide +kernel
theorem dX10_goYear_40 : decode cX10_goYear 40 = .ok (.istore_n 2, 1) := by decide +kernel
theorem dX10_goYear_41 : decode cX10_goYear 41 = .ok (.iload_n 2, 1) := by decide +kernel
theorem dX10_goYear_42 : decode cX10_goYear 42 = .ok (.iconst (-1), 1) := by decide +kernel
theorem dX10_goYear_43 : decode cX10_goYear 43 = .ok (.if_icmp .eq 19, 3) := by decide +kernel
theorem dX10_goYear_46 : decode cX10_goYear 46 = .ok (.aload_n 0, 1) := by decide +kernel
theorem dX10_goYear_47 : decode cX10_goYear 47 = .ok (.getfield 42, 3) := by decide +kernel
theorem dX10_goYear_50 : decode cX10_goYear 50 = .ok (.iload_n 2, 1) := by decide +kernel
theorem dX10_goYear_51 : decode cX10_goYear 51 = .ok (.aload_n 0, 1) := by decide +kernel
theorem dX10_goYear_52 : decode cX10_goYear 52 = .ok (.getfield 13, 3) := by decide +kernel
theorem dX10_goYear_55 : decode cX10_goYear 55 = .ok (.iconst 5, 1) := by decide +kernel
theorem dX10_goYear_56 : decode cX10_goYear 56 = .ok (.iload_n 1, 1) := by decide +kernel
theorem dX10_goYear_57 : decode cX10_goYear 57 = .ok (.imul, 1) := by decide +kernel
theorem dX10_goYear_58 : decode cX10_goYear 58 = .ok (.iconst 4, 1) := by decide +kernel
theorem dX10_goYear_59 : decode cX10_goYear 59 = .ok (.iadd, 1) := by decide +kernel
theorem dX10_goYear_60 : decode cX10_goYear 60 = .ok (.iaload, 1) := by decide +kernel
theorem dX10_goYear_61 : decode cX10_goYear 61 = .ok (.iastore, 1) := by decide +kernel
theorem dX10_goYear_62 : decode cX10_goYear 62 = .ok (.iinc 1 1, 3) := by decide +kernel
theorem dX10_goYear_65 : decode cX10_goYear 65 = .ok (.goto (-38), 3) := by decide +kernel
theorem dX10_goYear_68 : decode cX10_goYear 68 = .ok (.aload_n 0, 1) := by decide +kernel
theorem dX10_goYear_69 : decode cX10_goYear 69 = .ok (.invokevirtual 225, 3) := by decide +kernel
theorem dX10_goYear_72 : decode cX10_goYear 72 = .ok (.aload_n 0, 1) := by decide +kernel
theorem dX10_goYear_73 : decode cX10_goYear 73 = .ok (.getfield 29, 3) := by decide +kernel
theorem dX10_goYear_76 : decode cX10_goYear 76 = .ok (.bipush 46, 2) := by decide +kernel
theorem dX10_goYear_78 : decode cX10_goYear 78 = .ok (.dup2, 1) := by decide +kernel
theorem dX10_goYear_79 : decode cX10_goYear 79 = .ok (.iaload, 1) := by decide +kernel
theorem dX10_goYear_80 : decode cX10_goYear 80 = .ok (.iconst 1, 1) := by decide +kernel
theorem dX10_goYear_81 : decode cX10_goYear 81 = .ok (.iadd, 1) := by decide +kernel
theorem dX10_goYear_82 : decode cX10_goYear 82 = .ok (.iastore, 1) := by decide +kernel
theorem dX10_goYear_83 : decode cX10_goYear 83 = .ok (.return_, 1) := by decide +kernel
theorem dX10_go_0 : decode cX10_go 0 = .ok (.iload_n 1, 1) := by decide +kernel
theorem dX10_go_1 : decode cX10_go 1 = .ok (.iconst 1, 1) := by decide +kernel
theorem dX10_go_2 : decode cX10_go 2 = .ok (.bipush 99, 2) := by decide +kernel
theorem dX10_go_4 : decode cX10_go 4 = .ok (.invokestatic 73, 3) := by decide +kernel
theorem dX10_go_7 : decode cX10_go 7 = .ok (.ifCond .ne 6, 3) := by decide +kernel
theorem dX10_go_10 : decode cX10_go 10 = .ok (.bipush (-3), 2) := by decide +kernel
theorem dX10_go_12 : decode cX10_go 12 = .ok (.ireturn, 1) := by decide +kernel
theorem dX10_go_13 : decode cX10_go 13 = .ok (.aload_n 0, 1) := by decide +kernel
theorem dX10_go_14 : decode cX10_go 14 = .ok (.getfield 29, 3) := by decide +kernel
theorem dX10_go_17 : decode cX10_go 17 = .ok (.bipush 46, 2) := by decide +kernel
theorem dX10_go_19 : decode cX10_go 19 = .ok (.iaload, 1) := by decide +kernel
theorem dX10_go_20 : decode cX10_go 20 = .ok (.iload_n 1, 1) := by decide +kernel
theorem dX10_go_21 : decode cX10_go 21 = .ok (.iadd, 1) := by decide +kernel
theorem dX10_go_22 : decode cX10_go 22 = .ok (.sipush 999, 3) := by decide +kernel
theorem dX10_go_25 : decode cX10_go 25 = .ok (.if_icmp .le 6, 3) := by decide +kernel
theorem dX10_go_28 : decode cX10_go 28 = .ok (.bipush (-5), 2) := by decide +kernel
theorem dX10_go_30 : decode cX10_go 30 = .ok (.ireturn, 1) := by decide +kernel
theorem dX10_go_31 : decode cX10_go 31 = .ok (.iconst 0, 1) := by decide +kernel
theorem dX10_go_32 : decode cX10_go 32 = .ok (.istore_n 2, 1) := by decide +kernel
theorem dX10_go_33 : decode cX10_go 33 = .ok (.iload_n 2, 1) := by decide +kernel
theorem dX10_go_34 : decode cX10_go 34 = .ok (.iload_n 1, 1) := by decide +kernel
theorem dX10_go_35 : decode cX10_go 35 = .ok (.if_icmp .ge 13, 3) := by decide +kernel
theorem dX10_go_38 : decode cX10_go 38 = .ok (.aload_n 0, 1) := by decide +kernel
theorem dX10_go_39 : decode cX10_go 39 = .ok (.invokevirtual 250, 3) := by decide +kernel
theorem dX10_go_42 : decode cX10_go 42 = .ok (.iinc 2 1, 3) := by decide +kernel
theorem dX10_go_45 : decode cX10_go 45 = .ok (.goto (-12), 3) := by decide +kernel
theorem dX10_go_48 : decode cX10_go 48 = .ok (.aload_n 0, 1) := by decide +kernel
theorem dX10_go_49 : decode cX10_go 49 = .ok (.getfield 29, 3) := by decide +kernel
theorem dX10_go_52 : decode cX10_go 52 = .ok (.bipush 46, 2) := by decide +kernel
theorem dX10_go_54 : decode cX10_go 54 = .ok (.iaload, 1) := by decide +kernel
theorem dX10_go_55 : decode cX10_go 55 = .ok (.ireturn, 1) := by decide +kernel
theorem dX10_copy_0 : decode cX10_copy 0 = .ok (.iconst 0, 1) := by decide +kernel
theorem dX10_copy_1 : decode cX10_copy 1 = .ok (.istore 4, 2) := by decide +kernel
theorem dX10_copy_3 : decode cX10_copy 3 = .ok (.iload 4, 2) := by decide +kernel
theorem dX10_copy_5 : decode cX10_copy 5 = .ok (.bipush 47, 2) := by decide +kernel
theorem dX10_copy_7 : decode cX10_copy 7 = .ok (.if_icmp .ge 21, 3) := by decide +kernel
theorem dX10_copy_10 : decode cX10_copy 10 = .ok (.aload_n 2, 1) := by decide +kernel
theorem dX10_copy_11 : decode cX10_copy 11 = .ok (.iload_n 3, 1) := by decide +kernel
theorem dX10_copy_12 : decode cX10_copy 12 = .ok (.iload 4, 2) := by decide +kernel
theorem dX10_copy_14 : decode cX10_copy 14 = .ok (.iadd, 1) := by decide +kernel
theorem dX10_copy_15 : decode cX10_copy 15 = .ok (.aload_n 0, 1) := by decide +kernel
theorem dX10_copy_16 : decode cX10_copy 16 = .ok (.iload_n 1, 1) := by decide +kernel
theorem dX10_copy_17 : decode cX10_copy 17 = .ok (.iload 4, 2) := by decide +kernel
theorem dX10_copy_19 : decode cX10_copy 19 = .ok (.iadd, 1) := by decide +kernel
theorem dX10_copy_20 : decode cX10_copy 20 = .ok (.iaload, 1) := by decide +kernel
theorem dX10_copy_21 : decode cX10_copy 21 = .ok (.iastore, 1) := by decide +kernel
theorem dX10_copy_22 : decode cX10_copy 22 = .ok (.iinc 4 1, 3) := by decide +kernel
theorem dX10_copy_25 : decode cX10_copy 25 = .ok (.goto (-22), 3) := by decide +kernel
theorem dX10_copy_28 : decode cX10_copy 28 = .ok (.return_, 1) := by decide +kernel
theorem dX10_keep_0 : decode cX10_keep 0 = .ok (.iload_n 1, 1) := by decide +kernel
theorem dX10_keep_1 : decode cX10_keep 1 = .ok (.iconst 0, 1) := by decide +kernel
theorem dX10_keep_2 : decode cX10_keep 2 = .ok (.iconst 1, 1) := by decide +kernel
theorem dX10_keep_3 : decode cX10_keep 3 = .ok (.invokestatic 73, 3) := by decide +kernel
theorem dX10_keep_6 : decode cX10_keep 6 = .ok (.ifCond .ne 6, 3) := by decide +kernel
theorem dX10_keep_9 : decode cX10_keep 9 = .ok (.bipush (-2), 2) := by decide +kernel
theorem dX10_keep_11 : decode cX10_keep 11 = .ok (.ireturn, 1) := by decide +kernel
theorem dX10_keep_12 : decode cX10_keep 12 = .ok (.aload_n 0, 1) := by decide +kernel
theorem dX10_keep_13 : decode cX10_keep 13 = .ok (.getfield 29, 3) := by decide +kernel
theorem dX10_keep_16 : decode cX10_keep 16 = .ok (.iconst 0, 1) := by decide +kernel
theorem dX10_keep_17 : decode cX10_keep 17 = .ok (.aload_n 0, 1) := by decide +kernel
theorem dX10_keep_18 : decode cX10_keep 18 = .ok (.getfield 35, 3) := by decide +kernel
theorem dX10_keep_21 : decode cX10_keep 21 = .ok (.bipush 47, 2) := by decide +kernel
theorem dX10_keep_23 : decode cX10_keep 23 = .ok (.iload_n 1, 1) := by decide +kernel
theorem dX10_keep_24 : decode cX10_keep 24 = .ok (.imul, 1) := by decide +kernel
theorem dX10_keep_25 : decode cX10_keep 25 = .ok (.invokestatic 253, 3) := by decide +kernel
theorem dX10_keep_28 : decode cX10_keep 28 = .ok (.aload_n 0, 1) := by decide +kernel
theorem dX10_keep_29 : decode cX10_keep 29 = .ok (.getfield 38, 3) := by decide +kernel
theorem dX10_keep_32 : decode cX10_keep 32 = .ok (.iload_n 1, 1) := by decide +kernel
theorem dX10_keep_33 : decode cX10_keep 33 = .ok (.iconst 1, 1) := by decide +kernel
theorem dX10_keep_34 : decode cX10_keep 34 = .ok (.bastore, 1) := by decide +kernel
theorem dX10_keep_35 : decode cX10_keep 35 = .ok (.aload_n 0, 1) := by decide +kernel
theorem dX10_keep_36 : decode cX10_keep 36 = .ok (.getfield 29, 3) := by decide +kernel
theorem dX10_keep_39 : decode cX10_keep 39 = .ok (.bipush 46, 2) := by decide +kernel
theorem dX10_keep_41 : decode cX10_keep 41 = .ok (.iaload, 1) := by decide +kernel
theorem dX10_keep_42 : decode cX10_keep 42 = .ok (.ireturn, 1) := by decide +kernel
theorem dX10_back_0 : decode cX10_back 0 = .ok (.iload_n 1, 1) := by decide +kernel
theorem dX10_back_1 : decode cX10_back 1 = .ok (.iconst 0, 1) := by decide +kernel
theorem dX10_back_2 : decode cX10_back 2 = .ok (.iconst 1, 1) := by decide +kernel
theorem dX10_back_3 : decode cX10_back 3 = .ok (.invokestatic 73, 3) := by decide +kernel
theorem dX10_back_6 : decode cX10_back 6 = .ok (.ifCond .ne 6, 3) := by decide +kernel
theorem dX10_back_9 : decode cX10_back 9 = .ok (.bipush (-2), 2) := by decide +kernel
theorem dX10_back_11 : decode cX10_back 11 = .ok (.ireturn, 1) := by decide +kernel
theorem dX10_back_12 : decode cX10_back 12 = .ok (.aload_n 0, 1) := by decide +kernel
theorem dX10_back_13 : decode cX10_back 13 = .ok (.getfield 38, 3) := by decide +kernel
theorem dX10_back_16 : decode cX10_back 16 = .ok (.iload_n 1, 1) := by decide +kernel
theorem dX10_back_17 : decode cX10_back 17 = .ok (.baload, 1) := by decide +kernel
theorem dX10_back_18 : decode cX10_back 18 = .ok (.ifCond .ne 6, 3) := by decide +kernel
theorem dX10_back_21 : decode cX10_back 21 = .ok (.bipush (-4), 2) := by decide +kernel
theorem dX10_back_23 : decode cX10_back 23 = .ok (.ireturn, 1) := by decide +kernel
theorem dX10_back_24 : decode cX10_back 24 = .ok (.aload_n 0, 1) := by decide +kernel
theorem dX10_back_25 : decode cX10_back 25 = .ok (.getfield 35, 3) := by decide +kernel
theorem dX10_back_28 : decode cX10_back 28 = .ok (.bipush 47, 2) := by decide +kernel
theorem dX10_back_30 : decode cX10_back 30 = .ok (.iload_n 1, 1) := by decide +kernel
theorem dX10_back_31 : decode cX10_back 31 = .ok (.imul, 1) := by decide +kernel
theorem dX10_back_32 : decode cX10_back 32 = .ok (.aload_n 0, 1) := by decide +kernel
theorem dX10_back_33 : decode cX10_back 33 = .ok (.getfield 29, 3) := by decide +kernel
theorem dX10_back_36 : decode cX10_back 36 = .ok (.iconst 0, 1) := by decide +kernel
theorem dX10_back_37 : decode cX10_back 37 = .ok (.invokestatic 253, 3) := by decide +kernel
theorem dX10_back_40 : decode cX10_back 40 = .ok (.aload_n 0, 1) := by decide +kernel
theorem dX10_back_41 : decode cX10_back 41 = .ok (.invokevirtual 89, 3) := by decide +kernel
theorem dX10_back_44 : decode cX10_back 44 = .ok (.aload_n 0, 1) := by decide +kernel
theorem dX10_back_45 : decode cX10_back 45 = .ok (.getfield 29, 3) := by decide +kernel
theorem dX10_back_48 : decode cX10_back 48 = .ok (.bipush 46, 2) := by decide +kernel
theorem dX10_back_50 : decode cX10_back 50 = .ok (.iaload, 1) := by decide +kernel
theorem dX10_back_51 : decode cX10_back 51 = .ok (.ireturn, 1) := by decide +kernel
theorem dX10_goAside_0 : decode cX10_goAside 0 = .ok (.aload_n 0, 1) := by decide +kernel
theorem dX10_goAside_1 : decode cX10_goAside 1 = .ok (.getfield 29, 3) := by decide +kernel
theorem dX10_goAside_4 : decode cX10_goAside 4 = .ok (.iconst 0, 1) := by decide +kernel
theorem dX10_goAside_5 : decode cX10_goAside 5 = .ok (.aload_n 0, 1) := by decide +kernel
theorem dX10_goAside_6 : decode cX10_goAside 6 = .ok (.getfield 32, 3) := by decide +kernel
theorem dX10_goAside_9 : decode cX10_goAside 9 = .ok (.iconst 0, 1) := by decide +kernel
theorem dX10_goAside_10 : decode cX10_goAside 10 = .ok (.invokestatic 253, 3) := by decide +kernel
theorem dX10_goAside_13 : decode cX10_goAside 13 = .ok (.aload_n 0, 1) := by decide +kernel
theorem dX10_goAside_14 : decode cX10_goAside 14 = .ok (.aload_n 0, 1) := by decide +kernel
theorem dX10_goAside_15 : decode cX10_goAside 15 = .ok (.getfield 86, 3) := by decide +kernel
theorem dX10_goAside_18 : decode cX10_goAside 18 = .ok (.putfield 257, 3) := by decide +kernel
theorem dX10_goAside_21 : decode cX10_goAside 21 = .ok (.iconst 0, 1) := by decide +kernel
theorem dX10_goAside_22 : decode cX10_goAside 22 = .ok (.istore_n 2, 1) := by decide +kernel
theorem dX10_goAside_23 : decode cX10_goAside 23 = .ok (.iload_n 2, 1) := by decide +kernel
theorem dX10_goAside_24 : decode cX10_goAside 24 = .ok (.bipush 10, 2) := by decide +kernel
theorem dX10_goAside_26 : decode cX10_goAside 26 = .ok (.if_icmp .ge 21, 3) := by decide +kernel
theorem dX10_goAside_29 : decode cX10_goAside 29 = .ok (.aload_n 0, 1) := by decide +kernel
theorem dX10_goAside_30 : decode cX10_goAside 30 = .ok (.getfield 57, 3) := by decide +kernel
theorem dX10_goAside_33 : decode cX10_goAside 33 = .ok (.iload_n 2, 1) := by decide +kernel
theorem dX10_goAside_34 : decode cX10_goAside 34 = .ok (.aload_n 0, 1) := by decide +kernel
theorem dX10_goAside_35 : decode cX10_goAside 35 = .ok (.getfield 42, 3) := by decide +kernel
theorem dX10_goAside_38 : decode cX10_goAside 38 = .ok (.iload_n 2, 1) := by decide +kernel
theorem dX10_goAside_39 : decode cX10_goAside 39 = .ok (.iaload, 1) := by decide +kernel
theorem dX10_goAside_40 : decode cX10_goAside 40 = .ok (.iastore, 1) := by decide +kernel
theorem dX10_goAside_41 : decode cX10_goAside 41 = .ok (.iinc 2 1, 3) := by decide +kernel
theorem dX10_goAside_44 : decode cX10_goAside 44 = .ok (.goto (-21), 3) := by decide +kernel
theorem dX10_goAside_47 : decode cX10_goAside 47 = .ok (.iconst 0, 1) := by decide +kernel
theorem dX10_goAside_48 : decode cX10_goAside 48 = .ok (.istore_n 2, 1) := by decide +kernel
theorem dX10_goAside_49 : decode cX10_goAside 49 = .ok (.iload_n 2, 1) := by decide +kernel
theorem dX10_goAside_50 : decode cX10_goAside 50 = .ok (.iload_n 1, 1) := by decide +kernel
theorem dX10_goAside_51 : decode cX10_goAside 51 = .ok (.if_icmp .ge 13, 3) := by decide +kernel
theorem dX10_goAside_54 : decode cX10_goAside 54 = .ok (.aload_n 0, 1) := by decide +kernel
theorem dX10_goAside_55 : decode cX10_goAside 55 = .ok (.invokevirtual 250, 3) := by decide +kernel
theorem dX10_goAside_58 : decode cX10_goAside 58 = .ok (.iinc 2 1, 3) := by decide +kernel
theorem dX10_goAside_61 : decode cX10_goAside 61 = .ok (.goto (-12), 3) := by decide +kernel
theorem dX10_goAside_64 : decode cX10_goAside 64 = .ok (.return_, 1) := by decide +kernel
