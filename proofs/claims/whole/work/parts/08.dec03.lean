theorem dX9_init_0 : decode cX9_init 0 = .ok (.aload_n 0, 1) := by decide +kernel
theorem dX9_init_1 : decode cX9_init 1 = .ok (.invokespecial 1, 3) := by decide +kernel
theorem dX9_init_4 : decode cX9_init 4 = .ok (.aload_n 0, 1) := by decide +kernel
theorem dX9_init_5 : decode cX9_init 5 = .ok (.new 7, 3) := by decide +kernel
theorem dX9_init_8 : decode cX9_init 8 = .ok (.dup, 1) := by decide +kernel
theorem dX9_init_9 : decode cX9_init 9 = .ok (.invokespecial 9, 3) := by decide +kernel
theorem dX9_init_12 : decode cX9_init 12 = .ok (.putfield 10, 3) := by decide +kernel
theorem dX9_init_15 : decode cX9_init 15 = .ok (.aload_n 0, 1) := by decide +kernel
theorem dX9_init_16 : decode cX9_init 16 = .ok (.new 16, 3) := by decide +kernel
theorem dX9_init_19 : decode cX9_init 19 = .ok (.dup, 1) := by decide +kernel
theorem dX9_init_20 : decode cX9_init 20 = .ok (.invokespecial 18, 3) := by decide +kernel
theorem dX9_init_23 : decode cX9_init 23 = .ok (.putfield 19, 3) := by decide +kernel
theorem dX9_init_26 : decode cX9_init 26 = .ok (.aload_n 0, 1) := by decide +kernel
theorem dX9_init_27 : decode cX9_init 27 = .ok (.new 23, 3) := by decide +kernel
theorem dX9_init_30 : decode cX9_init 30 = .ok (.dup, 1) := by decide +kernel
theorem dX9_init_31 : decode cX9_init 31 = .ok (.aload_n 0, 1) := by decide +kernel
theorem dX9_init_32 : decode cX9_init 32 = .ok (.getfield 10, 3) := by decide +kernel
theorem dX9_init_35 : decode cX9_init 35 = .ok (.invokespecial 25, 3) := by decide +kernel
theorem dX9_init_38 : decode cX9_init 38 = .ok (.putfield 28, 3) := by decide +kernel
theorem dX9_init_41 : decode cX9_init 41 = .ok (.aload_n 0, 1) := by decide +kernel
theorem dX9_init_42 : decode cX9_init 42 = .ok (.new 32, 3) := by decide +kernel
theorem dX9_init_45 : decode cX9_init 45 = .ok (.dup, 1) := by decide +kernel
theorem dX9_init_46 : decode cX9_init 46 = .ok (.invokespecial 34, 3) := by decide +kernel
theorem dX9_init_49 : decode cX9_init 49 = .ok (.putfield 35, 3) := by decide +kernel
theorem dX9_init_52 : decode cX9_init 52 = .ok (.aload_n 0, 1) := by decide +kernel
theorem dX9_init_53 : decode cX9_init 53 = .ok (.iconst 2, 1) := by decide +kernel
theorem dX9_init_54 : decode cX9_init 54 = .ok (.anewarray 32, 3) := by decide +kernel
theorem dX9_init_57 : decode cX9_init 57 = .ok (.dup, 1) := by decide +kernel
theorem dX9_init_58 : decode cX9_init 58 = .ok (.iconst 0, 1) := by decide +kernel
theorem dX9_init_59 : decode cX9_init 59 = .ok (.new 32, 3) := by decide +kernel
theorem dX9_init_62 : decode cX9_init 62 = .ok (.dup, 1) := by decide +kernel
theorem dX9_init_63 : decode cX9_init 63 = .ok (.invokespecial 34, 3) := by decide +kernel
theorem dX9_init_66 : decode cX9_init 66 = .ok (.aastore, 1) := by decide +kernel
theorem dX9_init_67 : decode cX9_init 67 = .ok (.dup, 1) := by decide +kernel
theorem dX9_init_68 : decode cX9_init 68 = .ok (.iconst 1, 1) := by decide +kernel
theorem dX9_init_69 : decode cX9_init 69 = .ok (.new 32, 3) := by decide +kernel
theorem dX9_init_72 : decode cX9_init 72 = .ok (.dup, 1) := by decide +kernel
theorem dX9_init_73 : decode cX9_init 73 = .ok (.invokespecial 34, 3) := by decide +kernel
theorem dX9_init_76 : decode cX9_init 76 = .ok (.aastore, 1) := by decide +kernel
theorem dX9_init_77 : decode cX9_init 77 = .ok (.putfield 39, 3) := by decide +kernel
theorem dX9_init_80 : decode cX9_init 80 = .ok (.aload_n 0, 1) := by decide +kernel
theorem dX9_init_81 : decode cX9_init 81 = .ok (.iconst 2, 1) := by decide +kernel
theorem dX9_init_82 : decode cX9_init 82 = .ok (.newarray .boolean, 2) := by decide +kernel
theorem dX9_init_84 : decode cX9_init 84 = .ok (.putfield 43, 3) := by decide +kernel
theorem dX9_init_87 : decode cX9_init 87 = .ok (.aload_n 0, 1) := by decide +kernel
theorem dX9_init_88 : decode cX9_init 88 = .ok (.new 47, 3) := by decide +kernel
theorem dX9_init_91 : decode cX9_init 91 = .ok (.dup, 1) := by decide +kernel
theorem dX9_init_92 : decode cX9_init 92 = .ok (.invokespecial 49, 3) := by decide +kernel
theorem dX9_init_95 : decode cX9_init 95 = .ok (.putfield 50, 3) := by decide +kernel
theorem dX9_init_98 : decode cX9_init 98 = .ok (.aload_n 0, 1) := by decide +kernel
theorem dX9_init_99 : decode cX9_init 99 = .ok (.new 54, 3) := by decide +kernel
theorem dX9_init_102 : decode cX9_init 102 = .ok (.dup, 1) := by decide +kernel
theorem dX9_init_103 : decode cX9_init 103 = .ok (.invokespecial 56, 3) := by decide +kernel
theorem dX9_init_106 : decode cX9_init 106 = .ok (.putfield 57, 3) := by decide +kernel
theorem dX9_init_109 : decode cX9_init 109 = .ok (.aload_n 0, 1) := by decide +kernel
theorem dX9_init_110 : decode cX9_init 110 = .ok (.new 61, 3) := by decide +kernel
theorem dX9_init_113 : decode cX9_init 113 = .ok (.dup, 1) := by decide +kernel
theorem dX9_init_114 : decode cX9_init 114 = .ok (.aload_n 0, 1) := by decide +kernel
theorem dX9_init_115 : decode cX9_init 115 = .ok (.getfield 35, 3) := by decide +kernel
theorem dX9_init_118 : decode cX9_init 118 = .ok (.aload_n 0, 1) := by decide +kernel
theorem dX9_init_119 : decode cX9_init 119 = .ok (.getfield 19, 3) := by decide +kernel
theorem dX9_init_122 : decode cX9_init 122 = .ok (.invokespecial 63, 3) := by decide +kernel
theorem dX9_init_125 : decode cX9_init 125 = .ok (.putfield 66, 3) := by decide +kernel
theorem dX9_init_128 : decode cX9_init 128 = .ok (.aload_n 0, 1) := by decide +kernel
theorem dX9_init_129 : decode cX9_init 129 = .ok (.new 32, 3) := by decide +kernel
theorem dX9_init_132 : decode cX9_init 132 = .ok (.dup, 1) := by decide +kernel
theorem dX9_init_133 : decode cX9_init 133 = .ok (.invokespecial 34, 3) := by decide +kernel
theorem dX9_init_136 : decode cX9_init 136 = .ok (.putfield 70, 3) := by decide +kernel
theorem dX9_init_139 : decode cX9_init 139 = .ok (.aload_n 0, 1) := by decide +kernel
theorem dX9_init_140 : decode cX9_init 140 = .ok (.new 32, 3) := by decide +kernel
theorem dX9_init_143 : decode cX9_init 143 = .ok (.dup, 1) := by decide +kernel
theorem dX9_init_144 : decode cX9_init 144 = .ok (.invokespecial 34, 3) := by decide +kernel
theorem dX9_init_147 : decode cX9_init 147 = .ok (.putfield 73, 3) := by decide +kernel
theorem dX9_init_150 : decode cX9_init 150 = .ok (.aload_n 0, 1) := by decide +kernel
theorem dX9_init_151 : decode cX9_init 151 = .ok (.bipush 6, 2) := by decide +kernel
theorem dX9_init_153 : decode cX9_init 153 = .ok (.newarray .int, 2) := by decide +kernel
theorem dX9_init_155 : decode cX9_init 155 = .ok (.putfield 76, 3) := by decide +kernel
theorem dX9_init_158 : decode cX9_init 158 = .ok (.aload_n 0, 1) := by decide +kernel
theorem dX9_init_159 : decode cX9_init 159 = .ok (.new 80, 3) := by decide +kernel
theorem dX9_init_162 : decode cX9_init 162 = .ok (.dup, 1) := by decide +kernel
theorem dX9_init_163 : decode cX9_init 163 = .ok (.invokespecial 82, 3) := by decide +kernel
theorem dX9_init_166 : decode cX9_init 166 = .ok (.putfield 83, 3) := by decide +kernel
theorem dX9_init_169 : decode cX9_init 169 = .ok (.aload_n 0, 1) := by decide +kernel
theorem dX9_init_170 : decode cX9_init 170 = .ok (.new 87, 3) := by decide +kernel
theorem dX9_init_173 : decode cX9_init 173 = .ok (.dup, 1) := by decide +kernel
theorem dX9_init_174 : decode cX9_init 174 = .ok (.invokespecial 89, 3) := by decide +kernel
theorem dX9_init_177 : decode cX9_init 177 = .ok (.putfield 90, 3) := by decide +kernel
theorem dX9_init_180 : decode cX9_init 180 = .ok (.aload_n 0, 1) := by decide +kernel
theorem dX9_init_181 : decode cX9_init 181 = .ok (.getfield 19, 3) := by decide +kernel
theorem dX9_init_184 : decode cX9_init 184 = .ok (.iconst 3, 1) := by decide +kernel
theorem dX9_init_185 : decode cX9_init 185 = .ok (.invokevirtual 94, 3) := by decide +kernel
theorem dX9_init_188 : decode cX9_init 188 = .ok (.return_, 1) := by decide +kernel
theorem dX9_write_0 : decode cX9_write 0 = .ok (.iload_n 3, 1) := by decide +kernel
theorem dX9_write_1 : decode cX9_write 1 = .ok (.iconst 1, 1) := by decide +kernel
theorem dX9_write_2 : decode cX9_write 2 = .ok (.if_icmp .lt 9, 3) := by decide +kernel
theorem dX9_write_5 : decode cX9_write 5 = .ok (.iload_n 3, 1) := by decide +kernel
theorem dX9_write_6 : decode cX9_write 6 = .ok (.bipush 8, 2) := by decide +kernel
theorem dX9_write_8 : decode cX9_write 8 = .ok (.if_icmp .le 6, 3) := by decide +kernel
theorem dX9_write_11 : decode cX9_write 11 = .ok (.bipush (-3), 2) := by decide +kernel
theorem dX9_write_13 : decode cX9_write 13 = .ok (.ireturn, 1) := by decide +kernel
theorem dX9_write_14 : decode cX9_write 14 = .ok (.aload_n 0, 1) := by decide +kernel
theorem dX9_write_15 : decode cX9_write 15 = .ok (.getfield 10, 3) := by decide +kernel
theorem dX9_write_18 : decode cX9_write 18 = .ok (.getfield 98, 3) := by decide +kernel
theorem dX9_write_21 : decode cX9_write 21 = .ok (.iload_n 3, 1) := by decide +kernel
theorem dX9_write_22 : decode cX9_write 22 = .ok (.iadd, 1) := by decide +kernel
theorem dX9_write_23 : decode cX9_write 23 = .ok (.sipush 200, 3) := by decide +kernel
theorem dX9_write_26 : decode cX9_write 26 = .ok (.if_icmp .le 6, 3) := by decide +kernel
theorem dX9_write_29 : decode cX9_write 29 = .ok (.bipush (-5), 2) := by decide +kernel
theorem dX9_write_31 : decode cX9_write 31 = .ok (.ireturn, 1) := by decide +kernel
theorem dX9_write_32 : decode cX9_write 32 = .ok (.iconst 0, 1) := by decide +kernel
theorem dX9_write_33 : decode cX9_write 33 = .ok (.istore 4, 2) := by decide +kernel
theorem dX9_write_35 : decode cX9_write 35 = .ok (.iload 4, 2) := by decide +kernel
theorem dX9_write_37 : decode cX9_write 37 = .ok (.iload_n 3, 1) := by decide +kernel
theorem dX9_write_38 : decode cX9_write 38 = .ok (.if_icmp .ge 28, 3) := by decide +kernel
theorem dX9_write_41 : decode cX9_write 41 = .ok (.aload_n 0, 1) := by decide +kernel
theorem dX9_write_42 : decode cX9_write 42 = .ok (.getfield 10, 3) := by decide +kernel
theorem dX9_write_45 : decode cX9_write 45 = .ok (.lload_n 1, 1) := by decide +kernel
theorem dX9_write_46 : decode cX9_write 46 = .ok (.bipush 8, 2) := by decide +kernel
theorem dX9_write_48 : decode cX9_write 48 = .ok (.iload 4, 2) := by decide +kernel
theorem dX9_write_50 : decode cX9_write 50 = .ok (.imul, 1) := by decide +kernel
theorem dX9_write_51 : decode cX9_write 51 = .ok (.lshr, 1) := by decide +kernel
theorem dX9_write_52 : decode cX9_write 52 = .ok (.ldc2_w 102, 3) := by decide +kernel
theorem dX9_write_55 : decode cX9_write 55 = .ok (.land, 1) := by decide +kernel
theorem dX9_write_56 : decode cX9_write 56 = .ok (.l2i, 1) := by decide +kernel
theorem dX9_write_57 : decode cX9_write 57 = .ok (.invokevirtual 104, 3) := by decide +kernel
theorem dX9_write_60 : decode cX9_write 60 = .ok (.iinc 4 1, 3) := by decide +kernel
theorem dX9_write_63 : decode cX9_write 63 = .ok (.goto (-28), 3) := by decide +kernel
theorem dX9_write_66 : decode cX9_write 66 = .ok (.aload_n 0, 1) := by decide +kernel
theorem dX9_write_67 : decode cX9_write 67 = .ok (.getfield 10, 3) := by decide +kernel
theorem dX9_write_70 : decode cX9_write 70 = .ok (.getfield 98, 3) := by decide +kernel
theorem dX9_write_73 : decode cX9_write 73 = .ok (.ireturn, 1) := by decide +kernel
theorem dX9_erase_0 : decode cX9_erase 0 = .ok (.aload_n 0, 1) := by decide +kernel
theorem dX9_erase_1 : decode cX9_erase 1 = .ok (.getfield 10, 3) := by decide +kernel
theorem dX9_erase_4 : decode cX9_erase 4 = .ok (.getfield 98, 3) := by decide +kernel
theorem dX9_erase_7 : decode cX9_erase 7 = .ok (.istore_n 1, 1) := by decide +kernel
theorem dX9_erase_8 : decode cX9_erase 8 = .ok (.aload_n 0, 1) := by decide +kernel
theorem dX9_erase_9 : decode cX9_erase 9 = .ok (.getfield 10, 3) := by decide +kernel
theorem dX9_erase_12 : decode cX9_erase 12 = .ok (.iconst 0, 1) := by decide +kernel
theorem dX9_erase_13 : decode cX9_erase 13 = .ok (.putfield 98, 3) := by decide +kernel
theorem dX9_erase_16 : decode cX9_erase 16 = .ok (.iload_n 1, 1) := by decide +kernel
theorem dX9_erase_17 : decode cX9_erase 17 = .ok (.ireturn, 1) := by decide +kernel
theorem dX9_fault_0 : decode cX9_fault 0 = .ok (.aload_n 0, 1) := by decide +kernel
theorem dX9_fault_1 : decode cX9_fault 1 = .ok (.getfield 28, 3) := by decide +kernel
theorem dX9_fault_4 : decode cX9_fault 4 = .ok (.aload_n 0, 1) := by decide +kernel
theorem dX9_fault_5 : decode cX9_fault 5 = .ok (.getfield 19, 3) := by decide +kernel
theorem dX9_fault_8 : decode cX9_fault 8 = .ok (.invokevirtual 107, 3) := by decide +kernel
theorem dX9_fault_11 : decode cX9_fault 11 = .ok (.ireturn, 1) := by decide +kernel
theorem dX9_league_0 : decode cX9_league 0 = .ok (.aload_n 0, 1) := by decide +kernel
theorem dX9_league_1 : decode cX9_league 1 = .ok (.getfield 28, 3) := by decide +kernel
theorem dX9_league_4 : decode cX9_league 4 = .ok (.aload_n 0, 1) := by decide +kernel
theorem dX9_league_5 : decode cX9_league 5 = .ok (.getfield 19, 3) := by decide +kernel
theorem dX9_league_8 : decode cX9_league 8 = .ok (.invokevirtual 107, 3) := by decide +kernel
theorem dX9_league_11 : decode cX9_league 11 = .ok (.iconst (-1), 1) := by decide +kernel
theorem dX9_league_12 : decode cX9_league 12 = .ok (.if_icmp .eq 6, 3) := by decide +kernel
theorem dX9_league_15 : decode cX9_league 15 = .ok (.bipush (-4), 2) := by decide +kernel
theorem dX9_league_17 : decode cX9_league 17 = .ok (.ireturn, 1) := by decide +kernel
theorem dX9_league_18 : decode cX9_league 18 = .ok (.aload_n 0, 1) := by decide +kernel
theorem dX9_league_19 : decode cX9_league 19 = .ok (.getfield 19, 3) := by decide +kernel
theorem dX9_league_22 : decode cX9_league 22 = .ok (.aload_n 0, 1) := by decide +kernel
theorem dX9_league_23 : decode cX9_league 23 = .ok (.getfield 28, 3) := by decide +kernel
theorem dX9_league_26 : decode cX9_league 26 = .ok (.getfield 111, 3) := by decide +kernel
theorem dX9_league_29 : decode cX9_league 29 = .ok (.invokevirtual 114, 3) := by decide +kernel
theorem dX9_league_32 : decode cX9_league 32 = .ok (.aload_n 0, 1) := by decide +kernel
theorem dX9_league_33 : decode cX9_league 33 = .ok (.invokevirtual 118, 3) := by decide +kernel
theorem dX9_league_36 : decode cX9_league 36 = .ok (.aload_n 0, 1) := by decide +kernel
theorem dX9_league_37 : decode cX9_league 37 = .ok (.getfield 10, 3) := by decide +kernel
theorem dX9_league_40 : decode cX9_league 40 = .ok (.iconst 0, 1) := by decide +kernel
theorem dX9_league_41 : decode cX9_league 41 = .ok (.putfield 98, 3) := by decide +kernel
theorem dX9_league_44 : decode cX9_league 44 = .ok (.aload_n 0, 1) := by decide +kernel
theorem dX9_league_45 : decode cX9_league 45 = .ok (.getfield 28, 3) := by decide +kernel
theorem dX9_league_48 : decode cX9_league 48 = .ok (.getfield 121, 3) := by decide +kernel
theorem dX9_league_51 : decode cX9_league 51 = .ok (.ireturn, 1) := by decide +kernel
theorem dX9_beginAsTold_0 : decode cX9_beginAsTold 0 = .ok (.aload_n 0, 1) := by decide +kernel
theorem dX9_beginAsTold_1 : decode cX9_beginAsTold 1 = .ok (.getfield 35, 3) := by decide +kernel
theorem dX9_beginAsTold_4 : decode cX9_beginAsTold 4 = .ok (.aload_n 0, 1) := by decide +kernel
theorem dX9_beginAsTold_5 : decode cX9_beginAsTold 5 = .ok (.getfield 19, 3) := by decide +kernel
theorem dX9_beginAsTold_8 : decode cX9_beginAsTold 8 = .ok (.getfield 124, 3) := by decide +kernel
theorem dX9_beginAsTold_11 : decode cX9_beginAsTold 11 = .ok (.invokevirtual 127, 3) := by decide +kernel
theorem dX9_beginAsTold_14 : decode cX9_beginAsTold 14 = .ok (.iconst 0, 1) := by decide +kernel
theorem dX9_beginAsTold_15 : decode cX9_beginAsTold 15 = .ok (.istore_n 1, 1) := by decide +kernel
theorem dX9_beginAsTold_16 : decode cX9_beginAsTold 16 = .ok (.iload_n 1, 1) := by decide +kernel
theorem dX9_beginAsTold_17 : decode cX9_beginAsTold 17 = .ok (.iconst 2, 1) := by decide +kernel
theorem dX9_beginAsTold_18 : decode cX9_beginAsTold 18 = .ok (.if_icmp .ge 16, 3) := by decide +kernel
theorem dX9_beginAsTold_21 : decode cX9_beginAsTold 21 = .ok (.aload_n 0, 1) := by decide +kernel
theorem dX9_beginAsTold_22 : decode cX9_beginAsTold 22 = .ok (.getfield 43, 3) := by decide +kernel
theorem dX9_beginAsTold_25 : decode cX9_beginAsTold 25 = .ok (.iload_n 1, 1) := by decide +kernel
theorem dX9_beginAsTold_26 : decode cX9_beginAsTold 26 = .ok (.iconst 0, 1) := by decide +kernel
theorem dX9_beginAsTold_27 : decode cX9_beginAsTold 27 = .ok (.bastore, 1) := by decide +kernel
theorem dX9_beginAsTold_28 : decode cX9_beginAsTold 28 = .ok (.iinc 1 1, 3) := by decide +kernel
theorem dX9_beginAsTold_31 : decode cX9_beginAsTold 31 = .ok (.goto (-15), 3) := by decide +kernel
theorem dX9_beginAsTold_34 : decode cX9_beginAsTold 34 = .ok (.aload_n 0, 1) := by decide +kernel
theorem dX9_beginAsTold_35 : decode cX9_beginAsTold 35 = .ok (.getfield 50, 3) := by decide +kernel
theorem dX9_beginAsTold_38 : decode cX9_beginAsTold 38 = .ok (.iconst 0, 1) := by decide +kernel
theorem dX9_beginAsTold_39 : decode cX9_beginAsTold 39 = .ok (.putfield 130, 3) := by decide +kernel
theorem dX9_beginAsTold_42 : decode cX9_beginAsTold 42 = .ok (.aload_n 0, 1) := by decide +kernel
theorem dX9_beginAsTold_43 : decode cX9_beginAsTold 43 = .ok (.getfield 83, 3) := by decide +kernel
theorem dX9_beginAsTold_46 : decode cX9_beginAsTold 46 = .ok (.iconst 0, 1) := by decide +kernel
theorem dX9_beginAsTold_47 : decode cX9_beginAsTold 47 = .ok (.putfield 133, 3) := by decide +kernel
theorem dX9_beginAsTold_50 : decode cX9_beginAsTold 50 = .ok (.aload_n 0, 1) := by decide +kernel
theorem dX9_beginAsTold_51 : decode cX9_beginAsTold 51 = .ok (.getfield 90, 3) := by decide +kernel
theorem dX9_beginAsTold_54 : decode cX9_beginAsTold 54 = .ok (.iconst 0, 1) := by decide +kernel
theorem dX9_beginAsTold_55 : decode cX9_beginAsTold 55 = .ok (.putfield 134, 3) := by decide +kernel
theorem dX9_beginAsTold_58 : decode cX9_beginAsTold 58 = .ok (.return_, 1) := by decide +kernel
theorem dX9_town_0 : decode cX9_town 0 = .ok (.aload_n 0, 1) := by decide +kernel
theorem dX9_town_1 : decode cX9_town 1 = .ok (.iload_n 1, 1) := by decide +kernel
theorem dX9_town_2 : decode cX9_town 2 = .ok (.invokevirtual 135, 3) := by decide +kernel
theorem dX9_town_5 : decode cX9_town 5 = .ok (.ifCond .eq 6, 3) := by decide +kernel
theorem dX9_town_8 : decode cX9_town 8 = .ok (.bipush (-2), 2) := by decide +kernel
theorem dX9_town_10 : decode cX9_town 10 = .ok (.ireturn, 1) := by decide +kernel
theorem dX9_town_11 : decode cX9_town 11 = .ok (.iload_n 2, 1) := by decide +kernel
theorem dX9_town_12 : decode cX9_town 12 = .ok (.tableswitch 116 0 6 #[44, 54, 64, 74, 84, 94, 107], 44) := by decide +kernel
theorem dX9_town_56 : decode cX9_town 56 = .ok (.aload_n 0, 1) := by decide +kernel
theorem dX9_town_57 : decode cX9_town 57 = .ok (.getfield 19, 3) := by decide +kernel
theorem dX9_town_60 : decode cX9_town 60 = .ok (.getfield 139, 3) := by decide +kernel
theorem dX9_town_63 : decode cX9_town 63 = .ok (.iload_n 1, 1) := by decide +kernel
theorem dX9_town_64 : decode cX9_town 64 = .ok (.iaload, 1) := by decide +kernel
theorem dX9_town_65 : decode cX9_town 65 = .ok (.ireturn, 1) := by decide +kernel
theorem dX9_town_66 : decode cX9_town 66 = .ok (.aload_n 0, 1) := by decide +kernel
theorem dX9_town_67 : decode cX9_town 67 = .ok (.getfield 19, 3) := by decide +kernel
theorem dX9_town_70 : decode cX9_town 70 = .ok (.getfield 142, 3) := by decide +kernel
theorem dX9_town_73 : decode cX9_town 73 = .ok (.iload_n 1, 1) := by decide +kernel
theorem dX9_town_74 : decode cX9_town 74 = .ok (.iaload, 1) := by decide +kernel
theorem dX9_town_75 : decode cX9_town 75 = .ok (.ireturn, 1) := by decide +kernel
theorem dX9_town_76 : decode cX9_town 76 = .ok (.aload_n 0, 1) := by decide +kernel
theorem dX9_town_77 : decode cX9_town 77 = .ok (.getfield 19, 3) := by decide +kernel
theorem dX9_town_80 : decode cX9_town 80 = .ok (.getfield 145, 3) := by decide +kernel
theorem dX9_town_83 : decode cX9_town 83 = .ok (.iload_n 1, 1) := by decide +kernel
theorem dX9_town_84 : decode cX9_town 84 = .ok (.iaload, 1) := by decide +kernel
theorem dX9_town_85 : decode cX9_town 85 = .ok (.ireturn, 1) := by decide +kernel
theorem dX9_town_86 : decode cX9_town 86 = .ok (.aload_n 0, 1) := by decide +kernel
theorem dX9_town_87 : decode cX9_town 87 = .ok (.getfield 19, 3) := by decide +kernel
theorem dX9_town_90 : decode cX9_town 90 = .ok (.getfield 148, 3) := by decide +kernel
theorem dX9_town_93 : decode cX9_town 93 = .ok (.iload_n 1, 1) := by decide +kernel
theorem dX9_town_94 : decode cX9_town 94 = .ok (.iaload, 1) := by decide +kernel
theorem dX9_town_95 : decode cX9_town 95 = .ok (.ireturn, 1) := by decide +kernel
theorem dX9_town_96 : decode cX9_town 96 = .ok (.aload_n 0, 1) := by decide +kernel
theorem dX9_town_97 : decode cX9_town 97 = .ok (.getfield 19, 3) := by decide +kernel
theorem dX9_town_100 : decode cX9_town 100 = .ok (.getfield 151, 3) := by decide +kernel
theorem dX9_town_103 : decode cX9_town 103 = .ok (.iload_n 1, 1) := by decide +kernel
theorem dX9_town_104 : decode cX9_town 104 = .ok (.iaload, 1) := by decide +kernel
theorem dX9_town_105 : decode cX9_town 105 = .ok (.ireturn, 1) := by decide +kernel
theorem dX9_town_106 : decode cX9_town 106 = .ok (.ldc 154, 2) := by decide +kernel
theorem dX9_town_108 : decode cX9_town 108 = .ok (.aload_n 0, 1) := by decide +kernel
theorem dX9_town_109 : decode cX9_town 109 = .ok (.getfield 35, 3) := by decide +kernel
theorem dX9_town_112 : decode cX9_town 112 = .ok (.getfield 155, 3) := by decide +kernel
theorem dX9_town_115 : decode cX9_town 115 = .ok (.iload_n 1, 1) := by decide +kernel
theorem dX9_town_116 : decode cX9_town 116 = .ok (.iaload, 1) := by decide +kernel
theorem dX9_town_117 : decode cX9_town 117 = .ok (.iadd, 1) := by decide +kernel
theorem dX9_town_118 : decode cX9_town 118 = .ok (.ireturn, 1) := by decide +kernel
theorem dX9_town_119 : decode cX9_town 119 = .ok (.aload_n 0, 1) := by decide +kernel
theorem dX9_town_120 : decode cX9_town 120 = .ok (.getfield 35, 3) := by decide +kernel
theorem dX9_town_123 : decode cX9_town 123 = .ok (.iload_n 1, 1) := by decide +kernel
theorem dX9_town_124 : decode cX9_town 124 = .ok (.invokevirtual 158, 3) := by decide +kernel
theorem dX9_town_127 : decode cX9_town 127 = .ok (.ireturn, 1) := by decide +kernel
theorem dX9_town_128 : decode cX9_town 128 = .ok (.bipush (-3), 2) := by decide +kernel
theorem dX9_town_130 : decode cX9_town 130 = .ok (.ireturn, 1) := by decide +kernel
theorem dX9_boy_0 : decode cX9_boy 0 = .ok (.aload_n 0, 1) := by decide +kernel
theorem dX9_boy_1 : decode cX9_boy 1 = .ok (.iload_n 1, 1) := by decide +kernel
theorem dX9_boy_2 : decode cX9_boy 2 = .ok (.invokevirtual 162, 3) := by decide +kernel
theorem dX9_boy_5 : decode cX9_boy 5 = .ok (.ifCond .eq 6, 3) := by decide +kernel
theorem dX9_boy_8 : decode cX9_boy 8 = .ok (.bipush (-2), 2) := by decide +kernel
theorem dX9_boy_10 : decode cX9_boy 10 = .ok (.ireturn, 1) := by decide +kernel
theorem dX9_boy_11 : decode cX9_boy 11 = .ok (.iload_n 2, 1) := by decide +kernel
theorem dX9_boy_12 : decode cX9_boy 12 = .ok (.tableswitch 106 0 5 #[40, 50, 60, 70, 80, 90], 40) := by decide +kernel
theorem dX9_boy_52 : decode cX9_boy 52 = .ok (.aload_n 0, 1) := by decide +kernel
theorem dX9_boy_53 : decode cX9_boy 53 = .ok (.getfield 35, 3) := by decide +kernel
theorem dX9_boy_56 : decode cX9_boy 56 = .ok (.getfield 165, 3) := by decide +kernel
theorem dX9_boy_59 : decode cX9_boy 59 = .ok (.iload_n 1, 1) := by decide +kernel
theorem dX9_boy_60 : decode cX9_boy 60 = .ok (.iaload, 1) := by decide +kernel
theorem dX9_boy_61 : decode cX9_boy 61 = .ok (.ireturn, 1) := by decide +kernel
theorem dX9_boy_62 : decode cX9_boy 62 = .ok (.aload_n 0, 1) := by decide +kernel
theorem dX9_boy_63 : decode cX9_boy 63 = .ok (.getfield 35, 3) := by decide +kernel
theorem dX9_boy_66 : decode cX9_boy 66 = .ok (.getfield 168, 3) := by decide +kernel
theorem dX9_boy_69 : decode cX9_boy 69 = .ok (.iload_n 1, 1) := by decide +kernel
theorem dX9_boy_70 : decode cX9_boy 70 = .ok (.iaload, 1) := by decide +kernel
theorem dX9_boy_71 : decode cX9_boy 71 = .ok (.ireturn, 1) := by decide +kernel
theorem dX9_boy_72 : decode cX9_boy 72 = .ok (.aload_n 0, 1) := by decide +kernel
theorem dX9_boy_73 : decode cX9_boy 73 = .ok (.getfield 35, 3) := by decide +kernel
theorem dX9_boy_76 : decode cX9_boy 76 = .ok (.getfield 171, 3) := by decide +kernel
theorem dX9_boy_79 : decode cX9_boy 79 = .ok (.iload_n 1, 1) := by decide +kernel
theorem dX9_boy_80 : decode cX9_boy 80 = .ok (.iaload, 1) := by decide +kernel
theorem dX9_boy_81 : decode cX9_boy 81 = .ok (.ireturn, 1) := by decide +kernel
theorem dX9_boy_82 : decode cX9_boy 82 = .ok (.aload_n 0, 1) := by decide +kernel
theorem dX9_boy_83 : decode cX9_boy 83 = .ok (.getfield 35, 3) := by decide +kernel
theorem dX9_boy_86 : decode cX9_boy 86 = .ok (.getfield 174, 3) := by decide +kernel
theorem dX9_boy_89 : decode cX9_boy 89 = .ok (.iload_n 1, 1) := by decide +kernel
theorem dX9_boy_90 : decode cX9_boy 90 = .ok (.iaload, 1) := by decide +kernel
theorem dX9_boy_91 : decode cX9_boy 91 = .ok (.ireturn, 1) := by decide +kernel
theorem dX9_boy_92 : decode cX9_boy 92 = .ok (.aload_n 0, 1) := by decide +kernel
theorem dX9_boy_93 : decode cX9_boy 93 = .ok (.getfield 35, 3) := by decide +kernel
theorem dX9_boy_96 : decode cX9_boy 96 = .ok (.getfield 177, 3) := by decide +kernel
theorem dX9_boy_99 : decode cX9_boy 99 = .ok (.iload_n 1, 1) := by decide +kernel
theorem dX9_boy_100 : decode cX9_boy 100 = .ok (.iaload, 1) := by decide +kernel
theorem dX9_boy_101 : decode cX9_boy 101 = .ok (.ireturn, 1) := by decide +kernel
theorem dX9_boy_102 : decode cX9_boy 102 = .ok (.aload_n 0, 1) := by decide +kernel
theorem dX9_boy_103 : decode cX9_boy 103 = .ok (.getfield 35, 3) := by decide +kernel
theorem dX9_boy_106 : decode cX9_boy 106 = .ok (.iload_n 1, 1) := by decide +kernel
theorem dX9_boy_107 : decode cX9_boy 107 = .ok (.aload_n 0, 1) := by decide +kernel
theorem dX9_boy_108 : decode cX9_boy 108 = .ok (.getfield 19, 3) := by decide +kernel
theorem dX9_boy_111 : decode cX9_boy 111 = .ok (.getfield 142, 3) := by decide +kernel
theorem dX9_boy_114 : decode cX9_boy 114 = .ok (.invokevirtual 180, 3) := by decide +kernel
theorem dX9_boy_117 : decode cX9_boy 117 = .ok (.ireturn, 1) := by decide +kernel
theorem dX9_boy_118 : decode cX9_boy 118 = .ok (.bipush (-3), 2) := by decide +kernel
theorem dX9_boy_120 : decode cX9_boy 120 = .ok (.ireturn, 1) := by decide +kernel
theorem dX9_as_0 : decode cX9_as 0 = .ok (.aload_n 0, 1) := by decide +kernel
theorem dX9_as_1 : decode cX9_as 1 = .ok (.iload_n 1, 1) := by decide +kernel
theorem dX9_as_2 : decode cX9_as 2 = .ok (.invokevirtual 162, 3) := by decide +kernel
theorem dX9_as_5 : decode cX9_as 5 = .ok (.ifCond .eq 6, 3) := by decide +kernel
theorem dX9_as_8 : decode cX9_as 8 = .ok (.bipush (-2), 2) := by decide +kernel
theorem dX9_as_10 : decode cX9_as 10 = .ok (.ireturn, 1) := by decide +kernel
theorem dX9_as_11 : decode cX9_as 11 = .ok (.iload_n 2, 1) := by decide +kernel
theorem dX9_as_12 : decode cX9_as 12 = .ok (.iconst 0, 1) := by decide +kernel
theorem dX9_as_13 : decode cX9_as 13 = .ok (.getstatic 184, 3) := by decide +kernel
theorem dX9_as_16 : decode cX9_as 16 = .ok (.arraylength, 1) := by decide +kernel
theorem dX9_as_17 : decode cX9_as 17 = .ok (.iconst 1, 1) := by decide +kernel
theorem dX9_as_18 : decode cX9_as 18 = .ok (.isub, 1) := by decide +kernel
theorem dX9_as_19 : decode cX9_as 19 = .ok (.invokestatic 187, 3) := by decide +kernel
theorem dX9_as_22 : decode cX9_as 22 = .ok (.ifCond .eq 6, 3) := by decide +kernel
theorem dX9_as_25 : decode cX9_as 25 = .ok (.bipush (-3), 2) := by decide +kernel
theorem dX9_as_27 : decode cX9_as 27 = .ok (.ireturn, 1) := by decide +kernel
theorem dX9_as_28 : decode cX9_as 28 = .ok (.aload_n 0, 1) := by decide +kernel
theorem dX9_as_29 : decode cX9_as 29 = .ok (.getfield 35, 3) := by decide +kernel
theorem dX9_as_32 : decode cX9_as 32 = .ok (.iload_n 1, 1) := by decide +kernel
theorem dX9_as_33 : decode cX9_as 33 = .ok (.iload_n 2, 1) := by decide +kernel
theorem dX9_as_34 : decode cX9_as 34 = .ok (.invokevirtual 191, 3) := by decide +kernel
theorem dX9_as_37 : decode cX9_as 37 = .ok (.ifCond .eq 14, 3) := by decide +kernel
theorem dX9_as_40 : decode cX9_as 40 = .ok (.aload_n 0, 1) := by decide +kernel
theorem dX9_as_41 : decode cX9_as 41 = .ok (.getfield 35, 3) := by decide +kernel
theorem dX9_as_44 : decode cX9_as 44 = .ok (.iload_n 1, 1) := by decide +kernel
theorem dX9_as_45 : decode cX9_as 45 = .ok (.invokevirtual 195, 3) := by decide +kernel
theorem dX9_as_48 : decode cX9_as 48 = .ok (.goto 5, 3) := by decide +kernel
theorem dX9_as_51 : decode cX9_as 51 = .ok (.bipush (-4), 2) := by decide +kernel
theorem dX9_as_53 : decode cX9_as 53 = .ok (.ireturn, 1) := by decide +kernel
theorem dX9_give_0 : decode cX9_give 0 = .ok (.aload_n 0, 1) := by decide +kernel
theorem dX9_give_1 : decode cX9_give 1 = .ok (.iload_n 1, 1) := by decide +kernel
theorem dX9_give_2 : decode cX9_give 2 = .ok (.invokevirtual 162, 3) := by decide +kernel
theorem dX9_give_5 : decode cX9_give 5 = .ok (.ifCond .ne 11, 3) := by decide +kernel
theorem dX9_give_8 : decode cX9_give 8 = .ok (.aload_n 0, 1) := by decide +kernel
theorem dX9_give_9 : decode cX9_give 9 = .ok (.iload_n 2, 1) := by decide +kernel
theorem dX9_give_10 : decode cX9_give 10 = .ok (.invokevirtual 135, 3) := by decide +kernel
theorem dX9_give_13 : decode cX9_give 13 = .ok (.ifCond .eq 6, 3) := by decide +kernel
theorem dX9_give_16 : decode cX9_give 16 = .ok (.bipush (-2), 2) := by decide +kernel
theorem dX9_give_18 : decode cX9_give 18 = .ok (.ireturn, 1) := by decide +kernel
theorem dX9_give_19 : decode cX9_give 19 = .ok (.aload_n 0, 1) := by decide +kernel
theorem dX9_give_20 : decode cX9_give 20 = .ok (.getfield 35, 3) := by decide +kernel
theorem dX9_give_23 : decode cX9_give 23 = .ok (.getfield 168, 3) := by decide +kernel
theorem dX9_give_26 : decode cX9_give 26 = .ok (.iload_n 1, 1) := by decide +kernel
theorem dX9_give_27 : decode cX9_give 27 = .ok (.iaload, 1) := by decide +kernel
theorem dX9_give_28 : decode cX9_give 28 = .ok (.iload_n 2, 1) := by decide +kernel
theorem dX9_give_29 : decode cX9_give 29 = .ok (.if_icmp .ne 6, 3) := by decide +kernel
theorem dX9_give_32 : decode cX9_give 32 = .ok (.bipush (-3), 2) := by decide +kernel
theorem dX9_give_34 : decode cX9_give 34 = .ok (.ireturn, 1) := by decide +kernel
theorem dX9_give_35 : decode cX9_give 35 = .ok (.aload_n 0, 1) := by decide +kernel
theorem dX9_give_36 : decode cX9_give 36 = .ok (.getfield 50, 3) := by decide +kernel
theorem dX9_give_39 : decode cX9_give 39 = .ok (.iload_n 1, 1) := by decide +kernel
theorem dX9_give_40 : decode cX9_give 40 = .ok (.invokevirtual 198, 3) := by decide +kernel
theorem dX9_give_43 : decode cX9_give 43 = .ok (.ifCond .eq 6, 3) := by decide +kernel
theorem dX9_give_46 : decode cX9_give 46 = .ok (.bipush (-4), 2) := by decide +kernel
theorem dX9_give_48 : decode cX9_give 48 = .ok (.ireturn, 1) := by decide +kernel
theorem dX9_give_49 : decode cX9_give 49 = .ok (.aload_n 0, 1) := by decide +kernel
theorem dX9_give_50 : decode cX9_give 50 = .ok (.getfield 50, 3) := by decide +kernel
theorem dX9_give_53 : decode cX9_give 53 = .ok (.getfield 130, 3) := by decide +kernel
theorem dX9_give_56 : decode cX9_give 56 = .ok (.bipush 8, 2) := by decide +kernel
theorem dX9_give_58 : decode cX9_give 58 = .ok (.if_icmp .lt 6, 3) := by decide +kernel
theorem dX9_give_61 : decode cX9_give 61 = .ok (.bipush (-5), 2) := by decide +kernel
theorem dX9_give_63 : decode cX9_give 63 = .ok (.ireturn, 1) := by decide +kernel
theorem dX9_give_64 : decode cX9_give 64 = .ok (.aload_n 0, 1) := by decide +kernel
theorem dX9_give_65 : decode cX9_give 65 = .ok (.getfield 50, 3) := by decide +kernel
theorem dX9_give_68 : decode cX9_give 68 = .ok (.iload_n 1, 1) := by decide +kernel
theorem dX9_give_69 : decode cX9_give 69 = .ok (.iload_n 2, 1) := by decide +kernel
theorem dX9_give_70 : decode cX9_give 70 = .ok (.invokevirtual 201, 3) := by decide +kernel
theorem dX9_give_73 : decode cX9_give 73 = .ok (.aload_n 0, 1) := by decide +kernel
theorem dX9_give_74 : decode cX9_give 74 = .ok (.getfield 50, 3) := by decide +kernel
theorem dX9_give_77 : decode cX9_give 77 = .ok (.getfield 130, 3) := by decide +kernel
theorem dX9_give_80 : decode cX9_give 80 = .ok (.ireturn, 1) := by decide +kernel
theorem dX9_drop_0 : decode cX9_drop 0 = .ok (.aload_n 0, 1) := by decide +kernel
theorem dX9_drop_1 : decode cX9_drop 1 = .ok (.getfield 50, 3) := by decide +kernel
theorem dX9_drop_4 : decode cX9_drop 4 = .ok (.getfield 130, 3) := by decide +kernel
theorem dX9_drop_7 : decode cX9_drop 7 = .ok (.istore_n 1, 1) := by decide +kernel
theorem dX9_drop_8 : decode cX9_drop 8 = .ok (.aload_n 0, 1) := by decide +kernel
theorem dX9_drop_9 : decode cX9_drop 9 = .ok (.getfield 50, 3) := by decide +kernel
theorem dX9_drop_12 : decode cX9_drop 12 = .ok (.iconst 0, 1) := by decide +kernel
theorem dX9_drop_13 : decode cX9_drop 13 = .ok (.putfield 130, 3) := by decide +kernel
theorem dX9_drop_16 : decode cX9_drop 16 = .ok (.iload_n 1, 1) := by decide +kernel
theorem dX9_drop_17 : decode cX9_drop 17 = .ok (.ireturn, 1) := by decide +kernel
theorem dX9_balance_0 : decode cX9_balance 0 = .ok (.aload_n 0, 1) := by decide +kernel
theorem dX9_balance_1 : decode cX9_balance 1 = .ok (.iload_n 1, 1) := by decide +kernel
theorem dX9_balance_2 : decode cX9_balance 2 = .ok (.invokevirtual 135, 3) := by decide +kernel
theorem dX9_balance_5 : decode cX9_balance 5 = .ok (.ifCond .eq 6, 3) := by decide +kernel
theorem dX9_balance_8 : decode cX9_balance 8 = .ok (.bipush (-2), 2) := by decide +kernel
theorem dX9_balance_10 : decode cX9_balance 10 = .ok (.ireturn, 1) := by decide +kernel
theorem dX9_balance_11 : decode cX9_balance 11 = .ok (.ldc 154, 2) := by decide +kernel
theorem dX9_balance_13 : decode cX9_balance 13 = .ok (.aload_n 0, 1) := by decide +kernel
theorem dX9_balance_14 : decode cX9_balance 14 = .ok (.getfield 50, 3) := by decide +kernel
theorem dX9_balance_17 : decode cX9_balance 17 = .ok (.iload_n 1, 1) := by decide +kernel
theorem dX9_balance_18 : decode cX9_balance 18 = .ok (.aload_n 0, 1) := by decide +kernel
theorem dX9_balance_19 : decode cX9_balance 19 = .ok (.getfield 35, 3) := by decide +kernel
theorem dX9_balance_22 : decode cX9_balance 22 = .ok (.aload_n 0, 1) := by decide +kernel
theorem dX9_balance_23 : decode cX9_balance 23 = .ok (.getfield 19, 3) := by decide +kernel
theorem dX9_balance_26 : decode cX9_balance 26 = .ok (.getfield 142, 3) := by decide +kernel
theorem dX9_balance_29 : decode cX9_balance 29 = .ok (.invokevirtual 205, 3) := by decide +kernel
theorem dX9_balance_32 : decode cX9_balance 32 = .ok (.iadd, 1) := by decide +kernel
theorem dX9_balance_33 : decode cX9_balance 33 = .ok (.ireturn, 1) := by decide +kernel
theorem dX9_judge_0 : decode cX9_judge 0 = .ok (.iconst 0, 1) := by decide +kernel
theorem dX9_judge_1 : decode cX9_judge 1 = .ok (.istore_n 1, 1) := by decide +kernel
theorem dX9_judge_2 : decode cX9_judge 2 = .ok (.iload_n 1, 1) := by decide +kernel
theorem dX9_judge_3 : decode cX9_judge 3 = .ok (.aload_n 0, 1) := by decide +kernel
theorem dX9_judge_4 : decode cX9_judge 4 = .ok (.getfield 19, 3) := by decide +kernel
theorem dX9_judge_7 : decode cX9_judge 7 = .ok (.getfield 209, 3) := by decide +kernel
theorem dX9_judge_10 : decode cX9_judge 10 = .ok (.if_icmp .ge 30, 3) := by decide +kernel
theorem dX9_judge_13 : decode cX9_judge 13 = .ok (.aload_n 0, 1) := by decide +kernel
theorem dX9_judge_14 : decode cX9_judge 14 = .ok (.getfield 50, 3) := by decide +kernel
theorem dX9_judge_17 : decode cX9_judge 17 = .ok (.iload_n 1, 1) := by decide +kernel
theorem dX9_judge_18 : decode cX9_judge 18 = .ok (.aload_n 0, 1) := by decide +kernel
theorem dX9_judge_19 : decode cX9_judge 19 = .ok (.getfield 35, 3) := by decide +kernel
theorem dX9_judge_22 : decode cX9_judge 22 = .ok (.aload_n 0, 1) := by decide +kernel
theorem dX9_judge_23 : decode cX9_judge 23 = .ok (.getfield 19, 3) := by decide +kernel
theorem dX9_judge_26 : decode cX9_judge 26 = .ok (.invokevirtual 212, 3) := by decide +kernel
theorem dX9_judge_29 : decode cX9_judge 29 = .ok (.ifCond .ne 5, 3) := by decide +kernel
theorem dX9_judge_32 : decode cX9_judge 32 = .ok (.iload_n 1, 1) := by decide +kernel
theorem dX9_judge_33 : decode cX9_judge 33 = .ok (.ireturn, 1) := by decide +kernel
theorem dX9_judge_34 : decode cX9_judge 34 = .ok (.iinc 1 1, 3) := by decide +kernel
theorem dX9_judge_37 : decode cX9_judge 37 = .ok (.goto (-35), 3) := by decide +kernel
theorem dX9_judge_40 : decode cX9_judge 40 = .ok (.iconst (-1), 1) := by decide +kernel
theorem dX9_judge_41 : decode cX9_judge 41 = .ok (.ireturn, 1) := by decide +kernel
theorem dX9_deal_0 : decode cX9_deal 0 = .ok (.aload_n 0, 1) := by decide +kernel
theorem dX9_deal_1 : decode cX9_deal 1 = .ok (.invokevirtual 216, 3) := by decide +kernel
theorem dX9_deal_4 : decode cX9_deal 4 = .ok (.iconst (-1), 1) := by decide +kernel
theorem dX9_deal_5 : decode cX9_deal 5 = .ok (.if_icmp .eq 6, 3) := by decide +kernel
theorem dX9_deal_8 : decode cX9_deal 8 = .ok (.bipush (-4), 2) := by decide +kernel
theorem dX9_deal_10 : decode cX9_deal 10 = .ok (.ireturn, 1) := by decide +kernel
theorem dX9_deal_11 : decode cX9_deal 11 = .ok (.aload_n 0, 1) := by decide +kernel
theorem dX9_deal_12 : decode cX9_deal 12 = .ok (.getfield 50, 3) := by decide +kernel
theorem dX9_deal_15 : decode cX9_deal 15 = .ok (.aload_n 0, 1) := by decide +kernel
theorem dX9_deal_16 : decode cX9_deal 16 = .ok (.getfield 35, 3) := by decide +kernel
theorem dX9_deal_19 : decode cX9_deal 19 = .ok (.aload_n 0, 1) := by decide +kernel
theorem dX9_deal_20 : decode cX9_deal 20 = .ok (.getfield 19, 3) := by decide +kernel
theorem dX9_deal_23 : decode cX9_deal 23 = .ok (.invokevirtual 220, 3) := by decide +kernel
theorem dX9_deal_26 : decode cX9_deal 26 = .ok (.aload_n 0, 1) := by decide +kernel
theorem dX9_deal_27 : decode cX9_deal 27 = .ok (.invokevirtual 223, 3) := by decide +kernel
theorem dX9_deal_30 : decode cX9_deal 30 = .ok (.ireturn, 1) := by decide +kernel
theorem dX9_ring_0 : decode cX9_ring 0 = .ok (.iload_n 1, 1) := by decide +kernel
theorem dX9_ring_1 : decode cX9_ring 1 = .ok (.bipush 10, 2) := by decide +kernel
theorem dX9_ring_3 : decode cX9_ring 3 = .ok (.if_icmp .lt 13, 3) := by decide +kernel
theorem dX9_ring_6 : decode cX9_ring 6 = .ok (.iload_n 1, 1) := by decide +kernel
theorem dX9_ring_7 : decode cX9_ring 7 = .ok (.bipush 16, 2) := by decide +kernel
theorem dX9_ring_9 : decode cX9_ring 9 = .ok (.if_icmp .ge 7, 3) := by decide +kernel
theorem dX9_ring_12 : decode cX9_ring 12 = .ok (.iconst 1, 1) := by decide +kernel
theorem dX9_ring_13 : decode cX9_ring 13 = .ok (.goto 4, 3) := by decide +kernel
theorem dX9_ring_16 : decode cX9_ring 16 = .ok (.iconst 0, 1) := by decide +kernel
theorem dX9_ring_17 : decode cX9_ring 17 = .ok (.istore_n 2, 1) := by decide +kernel
theorem dX9_ring_18 : decode cX9_ring 18 = .ok (.iload_n 1, 1) := by decide +kernel
theorem dX9_ring_19 : decode cX9_ring 19 = .ok (.ifCond .eq 15, 3) := by decide +kernel
theorem dX9_ring_22 : decode cX9_ring 22 = .ok (.iload_n 1, 1) := by decide +kernel
theorem dX9_ring_23 : decode cX9_ring 23 = .ok (.iconst 1, 1) := by decide +kernel
theorem dX9_ring_24 : decode cX9_ring 24 = .ok (.if_icmp .eq 10, 3) := by decide +kernel
theorem dX9_ring_27 : decode cX9_ring 27 = .ok (.iload_n 2, 1) := by decide +kernel
theorem dX9_ring_28 : decode cX9_ring 28 = .ok (.ifCond .ne 6, 3) := by decide +kernel
theorem dX9_ring_31 : decode cX9_ring 31 = .ok (.bipush (-3), 2) := by decide +kernel
theorem dX9_ring_33 : decode cX9_ring 33 = .ok (.ireturn, 1) := by decide +kernel
theorem dX9_ring_34 : decode cX9_ring 34 = .ok (.aload_n 0, 1) := by decide +kernel
theorem dX9_ring_35 : decode cX9_ring 35 = .ok (.getfield 66, 3) := by decide +kernel
theorem dX9_ring_38 : decode cX9_ring 38 = .ok (.invokevirtual 226, 3) := by decide +kernel
theorem dX9_ring_41 : decode cX9_ring 41 = .ok (.aload_n 0, 1) := by decide +kernel
theorem dX9_ring_42 : decode cX9_ring 42 = .ok (.getfield 66, 3) := by decide +kernel
theorem dX9_ring_45 : decode cX9_ring 45 = .ok (.getfield 229, 3) := by decide +kernel
theorem dX9_ring_48 : decode cX9_ring 48 = .ok (.istore_n 3, 1) := by decide +kernel
theorem dX9_ring_49 : decode cX9_ring 49 = .ok (.iload_n 2, 1) := by decide +kernel
theorem dX9_ring_50 : decode cX9_ring 50 = .ok (.ifCond .eq 30, 3) := by decide +kernel
theorem dX9_ring_53 : decode cX9_ring 53 = .ok (.iload_n 1, 1) := by decide +kernel
theorem dX9_ring_54 : decode cX9_ring 54 = .ok (.bipush 10, 2) := by decide +kernel
theorem dX9_ring_56 : decode cX9_ring 56 = .ok (.isub, 1) := by decide +kernel
theorem dX9_ring_57 : decode cX9_ring 57 = .ok (.istore 4, 2) := by decide +kernel
theorem dX9_ring_59 : decode cX9_ring 59 = .ok (.iload 4, 2) := by decide +kernel
theorem dX9_ring_61 : decode cX9_ring 61 = .ok (.iload_n 3, 1) := by decide +kernel
theorem dX9_ring_62 : decode cX9_ring 62 = .ok (.if_icmp .ge 16, 3) := by decide +kernel
theorem dX9_ring_65 : decode cX9_ring 65 = .ok (.aload_n 0, 1) := by decide +kernel
theorem dX9_ring_66 : decode cX9_ring 66 = .ok (.getfield 66, 3) := by decide +kernel
theorem dX9_ring_69 : decode cX9_ring 69 = .ok (.getfield 232, 3) := by decide +kernel
theorem dX9_ring_72 : decode cX9_ring 72 = .ok (.iload 4, 2) := by decide +kernel
theorem dX9_ring_74 : decode cX9_ring 74 = .ok (.iaload, 1) := by decide +kernel
theorem dX9_ring_75 : decode cX9_ring 75 = .ok (.goto 4, 3) := by decide +kernel
theorem dX9_ring_78 : decode cX9_ring 78 = .ok (.iconst (-1), 1) := by decide +kernel
theorem dX9_ring_79 : decode cX9_ring 79 = .ok (.ireturn, 1) := by decide +kernel
theorem dX9_ring_80 : decode cX9_ring 80 = .ok (.iload_n 3, 1) := by decide +kernel
theorem dX9_ring_81 : decode cX9_ring 81 = .ok (.ifCond .ne 5, 3) := by decide +kernel
theorem dX9_ring_84 : decode cX9_ring 84 = .ok (.iconst (-1), 1) := by decide +kernel
theorem dX9_ring_85 : decode cX9_ring 85 = .ok (.ireturn, 1) := by decide +kernel
theorem dX9_ring_86 : decode cX9_ring 86 = .ok (.iload_n 1, 1) := by decide +kernel
theorem dX9_ring_87 : decode cX9_ring 87 = .ok (.ifCond .ne 13, 3) := by decide +kernel
theorem dX9_ring_90 : decode cX9_ring 90 = .ok (.aload_n 0, 1) := by decide +kernel
theorem dX9_ring_91 : decode cX9_ring 91 = .ok (.getfield 66, 3) := by decide +kernel
theorem dX9_ring_94 : decode cX9_ring 94 = .ok (.getfield 235, 3) := by decide +kernel
theorem dX9_ring_97 : decode cX9_ring 97 = .ok (.goto 4, 3) := by decide +kernel
theorem dX9_ring_100 : decode cX9_ring 100 = .ok (.iload_n 3, 1) := by decide +kernel
theorem dX9_ring_101 : decode cX9_ring 101 = .ok (.ireturn, 1) := by decide +kernel
theorem dX9_go_0 : decode cX9_go 0 = .ok (.iload_n 1, 1) := by decide +kernel
theorem dX9_go_1 : decode cX9_go 1 = .ok (.iconst 1, 1) := by decide +kernel
theorem dX9_go_2 : decode cX9_go 2 = .ok (.bipush 99, 2) := by decide +kernel
theorem dX9_go_4 : decode cX9_go 4 = .ok (.invokestatic 187, 3) := by decide +kernel
theorem dX9_go_7 : decode cX9_go 7 = .ok (.ifCond .eq 6, 3) := by decide +kernel
theorem dX9_go_10 : decode cX9_go 10 = .ok (.bipush (-3), 2) := by decide +kernel
theorem dX9_go_12 : decode cX9_go 12 = .ok (.ireturn, 1) := by decide +kernel
theorem dX9_go_13 : decode cX9_go 13 = .ok (.aload_n 0, 1) := by decide +kernel
theorem dX9_go_14 : decode cX9_go 14 = .ok (.getfield 35, 3) := by decide +kernel
theorem dX9_go_17 : decode cX9_go 17 = .ok (.getfield 238, 3) := by decide +kernel
theorem dX9_go_20 : decode cX9_go 20 = .ok (.iload_n 1, 1) := by decide +kernel
theorem dX9_go_21 : decode cX9_go 21 = .ok (.iadd, 1) := by decide +kernel
theorem dX9_go_22 : decode cX9_go 22 = .ok (.sipush 999, 3) := by decide +kernel
theorem dX9_go_25 : decode cX9_go 25 = .ok (.if_icmp .le 6, 3) := by decide +kernel
theorem dX9_go_28 : decode cX9_go 28 = .ok (.bipush (-5), 2) := by decide +kernel
theorem dX9_go_30 : decode cX9_go 30 = .ok (.ireturn, 1) := by decide +kernel
theorem dX9_go_31 : decode cX9_go 31 = .ok (.aload_n 0, 1) := by decide +kernel
theorem dX9_go_32 : decode cX9_go 32 = .ok (.getfield 57, 3) := by decide +kernel
theorem dX9_go_35 : decode cX9_go 35 = .ok (.iload_n 1, 1) := by decide +kernel
theorem dX9_go_36 : decode cX9_go 36 = .ok (.aload_n 0, 1) := by decide +kernel
theorem dX9_go_37 : decode cX9_go 37 = .ok (.getfield 35, 3) := by decide +kernel
theorem dX9_go_40 : decode cX9_go 40 = .ok (.aload_n 0, 1) := by decide +kernel
theorem dX9_go_41 : decode cX9_go 41 = .ok (.getfield 19, 3) := by decide +kernel
theorem dX9_go_44 : decode cX9_go 44 = .ok (.aload_n 0, 1) := by decide +kernel
theorem dX9_go_45 : decode cX9_go 45 = .ok (.getfield 19, 3) := by decide +kernel
theorem dX9_go_48 : decode cX9_go 48 = .ok (.getfield 142, 3) := by decide +kernel
theorem dX9_go_51 : decode cX9_go 51 = .ok (.invokevirtual 241, 3) := by decide +kernel
theorem dX9_go_54 : decode cX9_go 54 = .ok (.aload_n 0, 1) := by decide +kernel
theorem dX9_go_55 : decode cX9_go 55 = .ok (.getfield 50, 3) := by decide +kernel
theorem dX9_go_58 : decode cX9_go 58 = .ok (.iconst 0, 1) := by decide +kernel
theorem dX9_go_59 : decode cX9_go 59 = .ok (.putfield 130, 3) := by decide +kernel
theorem dX9_go_62 : decode cX9_go 62 = .ok (.aload_n 0, 1) := by decide +kernel
theorem dX9_go_63 : decode cX9_go 63 = .ok (.getfield 35, 3) := by decide +kernel
theorem dX9_go_66 : decode cX9_go 66 = .ok (.getfield 238, 3) := by decide +kernel
theorem dX9_go_69 : decode cX9_go 69 = .ok (.ireturn, 1) := by decide +kernel
theorem dX9_keep_0 : decode cX9_keep 0 = .ok (.iload_n 1, 1) := by decide +kernel
theorem dX9_keep_1 : decode cX9_keep 1 = .ok (.iconst 0, 1) := by decide +kernel
theorem dX9_keep_2 : decode cX9_keep 2 = .ok (.iconst 1, 1) := by decide +kernel
theorem dX9_keep_3 : decode cX9_keep 3 = .ok (.invokestatic 187, 3) := by decide +kernel
theorem dX9_keep_6 : decode cX9_keep 6 = .ok (.ifCond .eq 6, 3) := by decide +kernel
theorem dX9_keep_9 : decode cX9_keep 9 = .ok (.bipush (-2), 2) := by decide +kernel
theorem dX9_keep_11 : decode cX9_keep 11 = .ok (.ireturn, 1) := by decide +kernel
theorem dX9_keep_12 : decode cX9_keep 12 = .ok (.aload_n 0, 1) := by decide +kernel
theorem dX9_keep_13 : decode cX9_keep 13 = .ok (.getfield 39, 3) := by decide +kernel
theorem dX9_keep_16 : decode cX9_keep 16 = .ok (.iload_n 1, 1) := by decide +kernel
theorem dX9_keep_17 : decode cX9_keep 17 = .ok (.aaload, 1) := by decide +kernel
theorem dX9_keep_18 : decode cX9_keep 18 = .ok (.aload_n 0, 1) := by decide +kernel
theorem dX9_keep_19 : decode cX9_keep 19 = .ok (.getfield 35, 3) := by decide +kernel
theorem dX9_keep_22 : decode cX9_keep 22 = .ok (.invokevirtual 127, 3) := by decide +kernel
theorem dX9_keep_25 : decode cX9_keep 25 = .ok (.aload_n 0, 1) := by decide +kernel
theorem dX9_keep_26 : decode cX9_keep 26 = .ok (.getfield 43, 3) := by decide +kernel
theorem dX9_keep_29 : decode cX9_keep 29 = .ok (.iload_n 1, 1) := by decide +kernel
theorem dX9_keep_30 : decode cX9_keep 30 = .ok (.iconst 1, 1) := by decide +kernel
theorem dX9_keep_31 : decode cX9_keep 31 = .ok (.bastore, 1) := by decide +kernel
theorem dX9_keep_32 : decode cX9_keep 32 = .ok (.aload_n 0, 1) := by decide +kernel
theorem dX9_keep_33 : decode cX9_keep 33 = .ok (.getfield 35, 3) := by decide +kernel
theorem dX9_keep_36 : decode cX9_keep 36 = .ok (.getfield 238, 3) := by decide +kernel
theorem dX9_keep_39 : decode cX9_keep 39 = .ok (.ireturn, 1) := by decide +kernel
theorem dX9_back_0 : decode cX9_back 0 = .ok (.iload_n 1, 1) := by decide +kernel
theorem dX9_back_1 : decode cX9_back 1 = .ok (.iconst 0, 1) := by decide +kernel
theorem dX9_back_2 : decode cX9_back 2 = .ok (.iconst 1, 1) := by decide +kernel
theorem dX9_back_3 : decode cX9_back 3 = .ok (.invokestatic 187, 3) := by decide +kernel
theorem dX9_back_6 : decode cX9_back 6 = .ok (.ifCond .eq 6, 3) := by decide +kernel
theorem dX9_back_9 : decode cX9_back 9 = .ok (.bipush (-2), 2) := by decide +kernel
theorem dX9_back_11 : decode cX9_back 11 = .ok (.ireturn, 1) := by decide +kernel
theorem dX9_back_12 : decode cX9_back 12 = .ok (.aload_n 0, 1) := by decide +kernel
theorem dX9_back_13 : decode cX9_back 13 = .ok (.getfield 43, 3) := by decide +kernel
theorem dX9_back_16 : decode cX9_back 16 = .ok (.iload_n 1, 1) := by decide +kernel
theorem dX9_back_17 : decode cX9_back 17 = .ok (.baload, 1) := by decide +kernel
theorem dX9_back_18 : decode cX9_back 18 = .ok (.ifCond .ne 6, 3) := by decide +kernel
theorem dX9_back_21 : decode cX9_back 21 = .ok (.bipush (-4), 2) := by decide +kernel
theorem dX9_back_23 : decode cX9_back 23 = .ok (.ireturn, 1) := by decide +kernel
theorem dX9_back_24 : decode cX9_back 24 = .ok (.aload_n 0, 1) := by decide +kernel
theorem dX9_back_25 : decode cX9_back 25 = .ok (.getfield 35, 3) := by decide +kernel
theorem dX9_back_28 : decode cX9_back 28 = .ok (.aload_n 0, 1) := by decide +kernel
theorem dX9_back_29 : decode cX9_back 29 = .ok (.getfield 39, 3) := by decide +kernel
theorem dX9_back_32 : decode cX9_back 32 = .ok (.iload_n 1, 1) := by decide +kernel
theorem dX9_back_33 : decode cX9_back 33 = .ok (.aaload, 1) := by decide +kernel
theorem dX9_back_34 : decode cX9_back 34 = .ok (.invokevirtual 127, 3) := by decide +kernel
theorem dX9_back_37 : decode cX9_back 37 = .ok (.aload_n 0, 1) := by decide +kernel
theorem dX9_back_38 : decode cX9_back 38 = .ok (.getfield 50, 3) := by decide +kernel
theorem dX9_back_41 : decode cX9_back 41 = .ok (.iconst 0, 1) := by decide +kernel
theorem dX9_back_42 : decode cX9_back 42 = .ok (.putfield 130, 3) := by decide +kernel
theorem dX9_back_45 : decode cX9_back 45 = .ok (.aload_n 0, 1) := by decide +kernel
theorem dX9_back_46 : decode cX9_back 46 = .ok (.getfield 35, 3) := by decide +kernel
theorem dX9_back_49 : decode cX9_back 49 = .ok (.getfield 238, 3) := by decide +kernel
theorem dX9_back_52 : decode cX9_back 52 = .ok (.ireturn, 1) := by decide +kernel
theorem dX9_later_0 : decode cX9_later 0 = .ok (.aload_n 0, 1) := by decide +kernel
theorem dX9_later_1 : decode cX9_later 1 = .ok (.iload_n 1, 1) := by decide +kernel
theorem dX9_later_2 : decode cX9_later 2 = .ok (.invokevirtual 162, 3) := by decide +kernel
theorem dX9_later_5 : decode cX9_later 5 = .ok (.ifCond .eq 6, 3) := by decide +kernel
theorem dX9_later_8 : decode cX9_later 8 = .ok (.bipush (-2), 2) := by decide +kernel
theorem dX9_later_10 : decode cX9_later 10 = .ok (.ireturn, 1) := by decide +kernel
theorem dX9_later_11 : decode cX9_later 11 = .ok (.iload_n 2, 1) := by decide +kernel
theorem dX9_later_12 : decode cX9_later 12 = .ok (.iconst 0, 1) := by decide +kernel
theorem dX9_later_13 : decode cX9_later 13 = .ok (.bipush 99, 2) := by decide +kernel
theorem dX9_later_15 : decode cX9_later 15 = .ok (.invokestatic 187, 3) := by decide +kernel
theorem dX9_later_18 : decode cX9_later 18 = .ok (.ifCond .ne 12, 3) := by decide +kernel
theorem dX9_later_21 : decode cX9_later 21 = .ok (.iload_n 3, 1) := by decide +kernel
theorem dX9_later_22 : decode cX9_later 22 = .ok (.iconst 0, 1) := by decide +kernel
theorem dX9_later_23 : decode cX9_later 23 = .ok (.iconst 3, 1) := by decide +kernel
theorem dX9_later_24 : decode cX9_later 24 = .ok (.invokestatic 187, 3) := by decide +kernel
theorem dX9_later_27 : decode cX9_later 27 = .ok (.ifCond .eq 6, 3) := by decide +kernel
theorem dX9_later_30 : decode cX9_later 30 = .ok (.bipush (-3), 2) := by decide +kernel
theorem dX9_later_32 : decode cX9_later 32 = .ok (.ireturn, 1) := by decide +kernel
theorem dX9_later_33 : decode cX9_later 33 = .ok (.aload_n 0, 1) := by decide +kernel
theorem dX9_later_34 : decode cX9_later 34 = .ok (.iload_n 2, 1) := by decide +kernel
theorem dX9_later_35 : decode cX9_later 35 = .ok (.invokevirtual 245, 3) := by decide +kernel
theorem dX9_later_38 : decode cX9_later 38 = .ok (.iload_n 3, 1) := by decide +kernel
theorem dX9_later_39 : decode cX9_later 39 = .ok (.tableswitch 55 0 2 #[25, 35, 45], 25) := by decide +kernel
theorem dX9_later_64 : decode cX9_later 64 = .ok (.aload_n 0, 1) := by decide +kernel
theorem dX9_later_65 : decode cX9_later 65 = .ok (.getfield 70, 3) := by decide +kernel
theorem dX9_later_68 : decode cX9_later 68 = .ok (.getfield 168, 3) := by decide +kernel
theorem dX9_later_71 : decode cX9_later 71 = .ok (.iload_n 1, 1) := by decide +kernel
theorem dX9_later_72 : decode cX9_later 72 = .ok (.iaload, 1) := by decide +kernel
theorem dX9_later_73 : decode cX9_later 73 = .ok (.ireturn, 1) := by decide +kernel
theorem dX9_later_74 : decode cX9_later 74 = .ok (.aload_n 0, 1) := by decide +kernel
theorem dX9_later_75 : decode cX9_later 75 = .ok (.getfield 70, 3) := by decide +kernel
theorem dX9_later_78 : decode cX9_later 78 = .ok (.getfield 171, 3) := by decide +kernel
theorem dX9_later_81 : decode cX9_later 81 = .ok (.iload_n 1, 1) := by decide +kernel
theorem dX9_later_82 : decode cX9_later 82 = .ok (.iaload, 1) := by decide +kernel
theorem dX9_later_83 : decode cX9_later 83 = .ok (.ireturn, 1) := by decide +kernel
theorem dX9_later_84 : decode cX9_later 84 = .ok (.aload_n 0, 1) := by decide +kernel
theorem dX9_later_85 : decode cX9_later 85 = .ok (.getfield 70, 3) := by decide +kernel
theorem dX9_later_88 : decode cX9_later 88 = .ok (.getfield 174, 3) := by decide +kernel
theorem dX9_later_91 : decode cX9_later 91 = .ok (.iload_n 1, 1) := by decide +kernel
theorem dX9_later_92 : decode cX9_later 92 = .ok (.iaload, 1) := by decide +kernel
theorem dX9_later_93 : decode cX9_later 93 = .ok (.ireturn, 1) := by decide +kernel
theorem dX9_later_94 : decode cX9_later 94 = .ok (.aload_n 0, 1) := by decide +kernel
theorem dX9_later_95 : decode cX9_later 95 = .ok (.getfield 70, 3) := by decide +kernel
theorem dX9_later_98 : decode cX9_later 98 = .ok (.getfield 177, 3) := by decide +kernel
theorem dX9_later_101 : decode cX9_later 101 = .ok (.iload_n 1, 1) := by decide +kernel
theorem dX9_later_102 : decode cX9_later 102 = .ok (.iaload, 1) := by decide +kernel
theorem dX9_later_103 : decode cX9_later 103 = .ok (.ireturn, 1) := by decide +kernel
theorem dX9_without_0 : decode cX9_without 0 = .ok (.iload_n 1, 1) := by decide +kernel
theorem dX9_without_1 : decode cX9_without 1 = .ok (.iconst 0, 1) := by decide +kernel
theorem dX9_without_2 : decode cX9_without 2 = .ok (.bipush 99, 2) := by decide +kernel
theorem dX9_without_4 : decode cX9_without 4 = .ok (.invokestatic 187, 3) := by decide +kernel
theorem dX9_without_7 : decode cX9_without 7 = .ok (.ifCond .eq 6, 3) := by decide +kernel
theorem dX9_without_10 : decode cX9_without 10 = .ok (.bipush (-3), 2) := by decide +kernel
theorem dX9_without_12 : decode cX9_without 12 = .ok (.ireturn, 1) := by decide +kernel
theorem dX9_without_13 : decode cX9_without 13 = .ok (.aload_n 0, 1) := by decide +kernel
theorem dX9_without_14 : decode cX9_without 14 = .ok (.iload_n 1, 1) := by decide +kernel
theorem dX9_without_15 : decode cX9_without 15 = .ok (.invokevirtual 245, 3) := by decide +kernel
theorem dX9_without_18 : decode cX9_without 18 = .ok (.iconst 0, 1) := by decide +kernel
theorem dX9_without_19 : decode cX9_without 19 = .ok (.istore_n 2, 1) := by decide +kernel
theorem dX9_without_20 : decode cX9_without 20 = .ok (.iconst 0, 1) := by decide +kernel
theorem dX9_without_21 : decode cX9_without 21 = .ok (.istore_n 3, 1) := by decide +kernel
theorem dX9_without_22 : decode cX9_without 22 = .ok (.iload_n 3, 1) := by decide +kernel
theorem dX9_without_23 : decode cX9_without 23 = .ok (.aload_n 0, 1) := by decide +kernel
theorem dX9_without_24 : decode cX9_without 24 = .ok (.getfield 19, 3) := by decide +kernel
theorem dX9_without_27 : decode cX9_without 27 = .ok (.getfield 209, 3) := by decide +kernel
theorem dX9_without_30 : decode cX9_without 30 = .ok (.if_icmp .ge 26, 3) := by decide +kernel
theorem dX9_without_33 : decode cX9_without 33 = .ok (.aload_n 0, 1) := by decide +kernel
theorem dX9_without_34 : decode cX9_without 34 = .ok (.getfield 70, 3) := by decide +kernel
theorem dX9_without_37 : decode cX9_without 37 = .ok (.iload_n 3, 1) := by decide +kernel
theorem dX9_without_38 : decode cX9_without 38 = .ok (.invokevirtual 158, 3) := by decide +kernel
theorem dX9_without_41 : decode cX9_without 41 = .ok (.ifCond .ne 9, 3) := by decide +kernel
theorem dX9_without_44 : decode cX9_without 44 = .ok (.iload_n 2, 1) := by decide +kernel
theorem dX9_without_45 : decode cX9_without 45 = .ok (.iconst 1, 1) := by decide +kernel
theorem dX9_without_46 : decode cX9_without 46 = .ok (.iload_n 3, 1) := by decide +kernel
theorem dX9_without_47 : decode cX9_without 47 = .ok (.ishl, 1) := by decide +kernel
theorem dX9_without_48 : decode cX9_without 48 = .ok (.ior, 1) := by decide +kernel
theorem dX9_without_49 : decode cX9_without 49 = .ok (.istore_n 2, 1) := by decide +kernel
theorem dX9_without_50 : decode cX9_without 50 = .ok (.iinc 3 1, 3) := by decide +kernel
theorem dX9_without_53 : decode cX9_without 53 = .ok (.goto (-31), 3) := by decide +kernel
theorem dX9_without_56 : decode cX9_without 56 = .ok (.iload_n 2, 1) := by decide +kernel
theorem dX9_without_57 : decode cX9_without 57 = .ok (.ireturn, 1) := by decide +kernel
theorem dX9_owed_0 : decode cX9_owed 0 = .ok (.aload_n 0, 1) := by decide +kernel
theorem dX9_owed_1 : decode cX9_owed 1 = .ok (.iload_n 1, 1) := by decide +kernel
theorem dX9_owed_2 : decode cX9_owed 2 = .ok (.invokevirtual 135, 3) := by decide +kernel
theorem dX9_owed_5 : decode cX9_owed 5 = .ok (.ifCond .eq 6, 3) := by decide +kernel
theorem dX9_owed_8 : decode cX9_owed 8 = .ok (.bipush (-2), 2) := by decide +kernel
theorem dX9_owed_10 : decode cX9_owed 10 = .ok (.ireturn, 1) := by decide +kernel
theorem dX9_owed_11 : decode cX9_owed 11 = .ok (.iload_n 2, 1) := by decide +kernel
theorem dX9_owed_12 : decode cX9_owed 12 = .ok (.iconst 0, 1) := by decide +kernel
theorem dX9_owed_13 : decode cX9_owed 13 = .ok (.bipush 99, 2) := by decide +kernel
theorem dX9_owed_15 : decode cX9_owed 15 = .ok (.invokestatic 187, 3) := by decide +kernel
theorem dX9_owed_18 : decode cX9_owed 18 = .ok (.ifCond .eq 6, 3) := by decide +kernel
theorem dX9_owed_21 : decode cX9_owed 21 = .ok (.bipush (-3), 2) := by decide +kernel
theorem dX9_owed_23 : decode cX9_owed 23 = .ok (.ireturn, 1) := by decide +kernel
theorem dX9_owed_24 : decode cX9_owed 24 = .ok (.aload_n 0, 1) := by decide +kernel
theorem dX9_owed_25 : decode cX9_owed 25 = .ok (.iload_n 2, 1) := by decide +kernel
theorem dX9_owed_26 : decode cX9_owed 26 = .ok (.invokevirtual 245, 3) := by decide +kernel
theorem dX9_owed_29 : decode cX9_owed 29 = .ok (.ldc 154, 2) := by decide +kernel
theorem dX9_owed_31 : decode cX9_owed 31 = .ok (.aload_n 0, 1) := by decide +kernel
theorem dX9_owed_32 : decode cX9_owed 32 = .ok (.getfield 70, 3) := by decide +kernel
theorem dX9_owed_35 : decode cX9_owed 35 = .ok (.getfield 155, 3) := by decide +kernel
theorem dX9_owed_38 : decode cX9_owed 38 = .ok (.iload_n 1, 1) := by decide +kernel
theorem dX9_owed_39 : decode cX9_owed 39 = .ok (.iaload, 1) := by decide +kernel
theorem dX9_owed_40 : decode cX9_owed 40 = .ok (.iadd, 1) := by decide +kernel
theorem dX9_owed_41 : decode cX9_owed 41 = .ok (.ireturn, 1) := by decide +kernel
