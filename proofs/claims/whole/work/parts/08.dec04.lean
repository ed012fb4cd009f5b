theorem dX9_pays_0 : decode cX9_pays 0 = .ok (.aload_n 0, 1) := by decide +kernel
theorem dX9_pays_1 : decode cX9_pays 1 = .ok (.iload_n 1, 1) := by decide +kernel
theorem dX9_pays_2 : decode cX9_pays 2 = .ok (.invokevirtual 135, 3) := by decide +kernel
theorem dX9_pays_5 : decode cX9_pays 5 = .ok (.ifCond .eq 6, 3) := by decide +kernel
theorem dX9_pays_8 : decode cX9_pays 8 = .ok (.bipush (-2), 2) := by decide +kernel
theorem dX9_pays_10 : decode cX9_pays 10 = .ok (.ireturn, 1) := by decide +kernel
theorem dX9_pays_11 : decode cX9_pays 11 = .ok (.iload_n 2, 1) := by decide +kernel
theorem dX9_pays_12 : decode cX9_pays 12 = .ok (.iconst 1, 1) := by decide +kernel
theorem dX9_pays_13 : decode cX9_pays 13 = .ok (.bipush 9, 2) := by decide +kernel
theorem dX9_pays_15 : decode cX9_pays 15 = .ok (.invokestatic 187, 3) := by decide +kernel
theorem dX9_pays_18 : decode cX9_pays 18 = .ok (.ifCond .ne 23, 3) := by decide +kernel
theorem dX9_pays_21 : decode cX9_pays 21 = .ok (.iload_n 3, 1) := by decide +kernel
theorem dX9_pays_22 : decode cX9_pays 22 = .ok (.iconst 0, 1) := by decide +kernel
theorem dX9_pays_23 : decode cX9_pays 23 = .ok (.bipush 99, 2) := by decide +kernel
theorem dX9_pays_25 : decode cX9_pays 25 = .ok (.invokestatic 187, 3) := by decide +kernel
theorem dX9_pays_28 : decode cX9_pays 28 = .ok (.ifCond .ne 13, 3) := by decide +kernel
theorem dX9_pays_31 : decode cX9_pays 31 = .ok (.iload 4, 2) := by decide +kernel
theorem dX9_pays_33 : decode cX9_pays 33 = .ok (.iconst 0, 1) := by decide +kernel
theorem dX9_pays_34 : decode cX9_pays 34 = .ok (.iconst 1, 1) := by decide +kernel
theorem dX9_pays_35 : decode cX9_pays 35 = .ok (.invokestatic 187, 3) := by decide +kernel
theorem dX9_pays_38 : decode cX9_pays 38 = .ok (.ifCond .eq 6, 3) := by decide +kernel
theorem dX9_pays_41 : decode cX9_pays 41 = .ok (.bipush (-3), 2) := by decide +kernel
theorem dX9_pays_43 : decode cX9_pays 43 = .ok (.ireturn, 1) := by decide +kernel
theorem dX9_pays_44 : decode cX9_pays 44 = .ok (.iconst 0, 1) := by decide +kernel
theorem dX9_pays_45 : decode cX9_pays 45 = .ok (.istore 5, 2) := by decide +kernel
theorem dX9_pays_47 : decode cX9_pays 47 = .ok (.aload_n 0, 1) := by decide +kernel
theorem dX9_pays_48 : decode cX9_pays 48 = .ok (.iload_n 1, 1) := by decide +kernel
theorem dX9_pays_49 : decode cX9_pays 49 = .ok (.iload_n 2, 1) := by decide +kernel
theorem dX9_pays_50 : decode cX9_pays 50 = .ok (.iload_n 3, 1) := by decide +kernel
theorem dX9_pays_51 : decode cX9_pays 51 = .ok (.iconst 0, 1) := by decide +kernel
theorem dX9_pays_52 : decode cX9_pays 52 = .ok (.invokevirtual 248, 3) := by decide +kernel
theorem dX9_pays_55 : decode cX9_pays 55 = .ok (.istore 6, 2) := by decide +kernel
theorem dX9_pays_57 : decode cX9_pays 57 = .ok (.iconst 1, 1) := by decide +kernel
theorem dX9_pays_58 : decode cX9_pays 58 = .ok (.istore 7, 2) := by decide +kernel
theorem dX9_pays_60 : decode cX9_pays 60 = .ok (.iload 7, 2) := by decide +kernel
theorem dX9_pays_62 : decode cX9_pays 62 = .ok (.iconst 3, 1) := by decide +kernel
theorem dX9_pays_63 : decode cX9_pays 63 = .ok (.if_icmp .gt 35, 3) := by decide +kernel
theorem dX9_pays_66 : decode cX9_pays 66 = .ok (.aload_n 0, 1) := by decide +kernel
theorem dX9_pays_67 : decode cX9_pays 67 = .ok (.iload_n 1, 1) := by decide +kernel
theorem dX9_pays_68 : decode cX9_pays 68 = .ok (.iload_n 2, 1) := by decide +kernel
theorem dX9_pays_69 : decode cX9_pays 69 = .ok (.iload_n 3, 1) := by decide +kernel
theorem dX9_pays_70 : decode cX9_pays 70 = .ok (.iload 7, 2) := by decide +kernel
theorem dX9_pays_72 : decode cX9_pays 72 = .ok (.invokevirtual 248, 3) := by decide +kernel
theorem dX9_pays_75 : decode cX9_pays 75 = .ok (.istore 8, 2) := by decide +kernel
theorem dX9_pays_77 : decode cX9_pays 77 = .ok (.iload 8, 2) := by decide +kernel
theorem dX9_pays_79 : decode cX9_pays 79 = .ok (.iload 6, 2) := by decide +kernel
theorem dX9_pays_81 : decode cX9_pays 81 = .ok (.if_icmp .le 11, 3) := by decide +kernel
theorem dX9_pays_84 : decode cX9_pays 84 = .ok (.iload 8, 2) := by decide +kernel
theorem dX9_pays_86 : decode cX9_pays 86 = .ok (.istore 6, 2) := by decide +kernel
theorem dX9_pays_88 : decode cX9_pays 88 = .ok (.iload 7, 2) := by decide +kernel
theorem dX9_pays_90 : decode cX9_pays 90 = .ok (.istore 5, 2) := by decide +kernel
theorem dX9_pays_92 : decode cX9_pays 92 = .ok (.iinc 7 1, 3) := by decide +kernel
theorem dX9_pays_95 : decode cX9_pays 95 = .ok (.goto (-35), 3) := by decide +kernel
theorem dX9_pays_98 : decode cX9_pays 98 = .ok (.iload 4, 2) := by decide +kernel
theorem dX9_pays_100 : decode cX9_pays 100 = .ok (.ifCond .ne 8, 3) := by decide +kernel
theorem dX9_pays_103 : decode cX9_pays 103 = .ok (.iload 5, 2) := by decide +kernel
theorem dX9_pays_105 : decode cX9_pays 105 = .ok (.goto 8, 3) := by decide +kernel
theorem dX9_pays_108 : decode cX9_pays 108 = .ok (.ldc 154, 2) := by decide +kernel
theorem dX9_pays_110 : decode cX9_pays 110 = .ok (.iload 6, 2) := by decide +kernel
theorem dX9_pays_112 : decode cX9_pays 112 = .ok (.iadd, 1) := by decide +kernel
theorem dX9_pays_113 : decode cX9_pays 113 = .ok (.ireturn, 1) := by decide +kernel
theorem dX9_gainOfFood_0 : decode cX9_gainOfFood 0 = .ok (.iconst 0, 1) := by decide +kernel
theorem dX9_gainOfFood_1 : decode cX9_gainOfFood 1 = .ok (.istore 5, 2) := by decide +kernel
theorem dX9_gainOfFood_3 : decode cX9_gainOfFood 3 = .ok (.iconst 0, 1) := by decide +kernel
theorem dX9_gainOfFood_4 : decode cX9_gainOfFood 4 = .ok (.istore 6, 2) := by decide +kernel
theorem dX9_gainOfFood_6 : decode cX9_gainOfFood 6 = .ok (.iconst 0, 1) := by decide +kernel
theorem dX9_gainOfFood_7 : decode cX9_gainOfFood 7 = .ok (.istore 7, 2) := by decide +kernel
theorem dX9_gainOfFood_9 : decode cX9_gainOfFood 9 = .ok (.iload 7, 2) := by decide +kernel
theorem dX9_gainOfFood_11 : decode cX9_gainOfFood 11 = .ok (.aload_n 0, 1) := by decide +kernel
theorem dX9_gainOfFood_12 : decode cX9_gainOfFood 12 = .ok (.getfield 35, 3) := by decide +kernel
theorem dX9_gainOfFood_15 : decode cX9_gainOfFood 15 = .ok (.getfield 252, 3) := by decide +kernel
theorem dX9_gainOfFood_18 : decode cX9_gainOfFood 18 = .ok (.if_icmp .ge 82, 3) := by decide +kernel
theorem dX9_gainOfFood_21 : decode cX9_gainOfFood 21 = .ok (.aload_n 0, 1) := by decide +kernel
theorem dX9_gainOfFood_22 : decode cX9_gainOfFood 22 = .ok (.getfield 35, 3) := by decide +kernel
theorem dX9_gainOfFood_25 : decode cX9_gainOfFood 25 = .ok (.getfield 168, 3) := by decide +kernel
theorem dX9_gainOfFood_28 : decode cX9_gainOfFood 28 = .ok (.iload 7, 2) := by decide +kernel
theorem dX9_gainOfFood_30 : decode cX9_gainOfFood 30 = .ok (.iaload, 1) := by decide +kernel
theorem dX9_gainOfFood_31 : decode cX9_gainOfFood 31 = .ok (.iload_n 1, 1) := by decide +kernel
theorem dX9_gainOfFood_32 : decode cX9_gainOfFood 32 = .ok (.if_icmp .ne 62, 3) := by decide +kernel
theorem dX9_gainOfFood_35 : decode cX9_gainOfFood 35 = .ok (.aload_n 0, 1) := by decide +kernel
theorem dX9_gainOfFood_36 : decode cX9_gainOfFood 36 = .ok (.getfield 35, 3) := by decide +kernel
theorem dX9_gainOfFood_39 : decode cX9_gainOfFood 39 = .ok (.getfield 171, 3) := by decide +kernel
theorem dX9_gainOfFood_42 : decode cX9_gainOfFood 42 = .ok (.iload 7, 2) := by decide +kernel
theorem dX9_gainOfFood_44 : decode cX9_gainOfFood 44 = .ok (.iaload, 1) := by decide +kernel
theorem dX9_gainOfFood_45 : decode cX9_gainOfFood 45 = .ok (.istore 8, 2) := by decide +kernel
theorem dX9_gainOfFood_47 : decode cX9_gainOfFood 47 = .ok (.iconst 0, 1) := by decide +kernel
theorem dX9_gainOfFood_48 : decode cX9_gainOfFood 48 = .ok (.istore 9, 2) := by decide +kernel
theorem dX9_gainOfFood_50 : decode cX9_gainOfFood 50 = .ok (.iload 9, 2) := by decide +kernel
theorem dX9_gainOfFood_52 : decode cX9_gainOfFood 52 = .ok (.iload_n 2, 1) := by decide +kernel
theorem dX9_gainOfFood_53 : decode cX9_gainOfFood 53 = .ok (.if_icmp .ge 18, 3) := by decide +kernel
theorem dX9_gainOfFood_56 : decode cX9_gainOfFood 56 = .ok (.iload 8, 2) := by decide +kernel
theorem dX9_gainOfFood_58 : decode cX9_gainOfFood 58 = .ok (.iload 4, 2) := by decide +kernel
theorem dX9_gainOfFood_60 : decode cX9_gainOfFood 60 = .ok (.invokestatic 255, 3) := by decide +kernel
theorem dX9_gainOfFood_63 : decode cX9_gainOfFood 63 = .ok (.istore 8, 2) := by decide +kernel
theorem dX9_gainOfFood_65 : decode cX9_gainOfFood 65 = .ok (.iinc 9 1, 3) := by decide +kernel
theorem dX9_gainOfFood_68 : decode cX9_gainOfFood 68 = .ok (.goto (-18), 3) := by decide +kernel
theorem dX9_gainOfFood_71 : decode cX9_gainOfFood 71 = .ok (.iload 5, 2) := by decide +kernel
theorem dX9_gainOfFood_73 : decode cX9_gainOfFood 73 = .ok (.aload_n 0, 1) := by decide +kernel
theorem dX9_gainOfFood_74 : decode cX9_gainOfFood 74 = .ok (.getfield 35, 3) := by decide +kernel
theorem dX9_gainOfFood_77 : decode cX9_gainOfFood 77 = .ok (.getfield 165, 3) := by decide +kernel
theorem dX9_gainOfFood_80 : decode cX9_gainOfFood 80 = .ok (.iload 7, 2) := by decide +kernel
theorem dX9_gainOfFood_82 : decode cX9_gainOfFood 82 = .ok (.iaload, 1) := by decide +kernel
theorem dX9_gainOfFood_83 : decode cX9_gainOfFood 83 = .ok (.iload 8, 2) := by decide +kernel
theorem dX9_gainOfFood_85 : decode cX9_gainOfFood 85 = .ok (.invokestatic 259, 3) := by decide +kernel
theorem dX9_gainOfFood_88 : decode cX9_gainOfFood 88 = .ok (.iadd, 1) := by decide +kernel
theorem dX9_gainOfFood_89 : decode cX9_gainOfFood 89 = .ok (.istore 5, 2) := by decide +kernel
theorem dX9_gainOfFood_91 : decode cX9_gainOfFood 91 = .ok (.iinc 6 1, 3) := by decide +kernel
theorem dX9_gainOfFood_94 : decode cX9_gainOfFood 94 = .ok (.iinc 7 1, 3) := by decide +kernel
theorem dX9_gainOfFood_97 : decode cX9_gainOfFood 97 = .ok (.goto (-88), 3) := by decide +kernel
theorem dX9_gainOfFood_100 : decode cX9_gainOfFood 100 = .ok (.iload 5, 2) := by decide +kernel
theorem dX9_gainOfFood_102 : decode cX9_gainOfFood 102 = .ok (.aload_n 0, 1) := by decide +kernel
theorem dX9_gainOfFood_103 : decode cX9_gainOfFood 103 = .ok (.getfield 19, 3) := by decide +kernel
theorem dX9_gainOfFood_106 : decode cX9_gainOfFood 106 = .ok (.getfield 142, 3) := by decide +kernel
theorem dX9_gainOfFood_109 : decode cX9_gainOfFood 109 = .ok (.iload_n 1, 1) := by decide +kernel
theorem dX9_gainOfFood_110 : decode cX9_gainOfFood 110 = .ok (.iaload, 1) := by decide +kernel
theorem dX9_gainOfFood_111 : decode cX9_gainOfFood 111 = .ok (.imul, 1) := by decide +kernel
theorem dX9_gainOfFood_112 : decode cX9_gainOfFood 112 = .ok (.iload_n 3, 1) := by decide +kernel
theorem dX9_gainOfFood_113 : decode cX9_gainOfFood 113 = .ok (.iload 4, 2) := by decide +kernel
theorem dX9_gainOfFood_115 : decode cX9_gainOfFood 115 = .ok (.imul, 1) := by decide +kernel
theorem dX9_gainOfFood_116 : decode cX9_gainOfFood 116 = .ok (.iload 6, 2) := by decide +kernel
theorem dX9_gainOfFood_118 : decode cX9_gainOfFood 118 = .ok (.imul, 1) := by decide +kernel
theorem dX9_gainOfFood_119 : decode cX9_gainOfFood 119 = .ok (.iload_n 2, 1) := by decide +kernel
theorem dX9_gainOfFood_120 : decode cX9_gainOfFood 120 = .ok (.imul, 1) := by decide +kernel
theorem dX9_gainOfFood_121 : decode cX9_gainOfFood 121 = .ok (.isub, 1) := by decide +kernel
theorem dX9_gainOfFood_122 : decode cX9_gainOfFood 122 = .ok (.ireturn, 1) := by decide +kernel
theorem dX9_gainers_0 : decode cX9_gainers 0 = .ok (.aload_n 0, 1) := by decide +kernel
theorem dX9_gainers_1 : decode cX9_gainers 1 = .ok (.iload_n 1, 1) := by decide +kernel
theorem dX9_gainers_2 : decode cX9_gainers 2 = .ok (.invokevirtual 135, 3) := by decide +kernel
theorem dX9_gainers_5 : decode cX9_gainers 5 = .ok (.ifCond .eq 6, 3) := by decide +kernel
theorem dX9_gainers_8 : decode cX9_gainers 8 = .ok (.bipush (-2), 2) := by decide +kernel
theorem dX9_gainers_10 : decode cX9_gainers 10 = .ok (.ireturn, 1) := by decide +kernel
theorem dX9_gainers_11 : decode cX9_gainers 11 = .ok (.iload_n 2, 1) := by decide +kernel
theorem dX9_gainers_12 : decode cX9_gainers 12 = .ok (.iconst 1, 1) := by decide +kernel
theorem dX9_gainers_13 : decode cX9_gainers 13 = .ok (.bipush 9, 2) := by decide +kernel
theorem dX9_gainers_15 : decode cX9_gainers 15 = .ok (.invokestatic 187, 3) := by decide +kernel
theorem dX9_gainers_18 : decode cX9_gainers 18 = .ok (.ifCond .ne 13, 3) := by decide +kernel
theorem dX9_gainers_21 : decode cX9_gainers 21 = .ok (.iload_n 3, 1) := by decide +kernel
theorem dX9_gainers_22 : decode cX9_gainers 22 = .ok (.iconst 1, 1) := by decide +kernel
theorem dX9_gainers_23 : decode cX9_gainers 23 = .ok (.bipush 99, 2) := by decide +kernel
theorem dX9_gainers_25 : decode cX9_gainers 25 = .ok (.invokestatic 187, 3) := by decide +kernel
theorem dX9_gainers_28 : decode cX9_gainers 28 = .ok (.ifCond .eq 6, 3) := by decide +kernel
theorem dX9_gainers_31 : decode cX9_gainers 31 = .ok (.bipush (-3), 2) := by decide +kernel
theorem dX9_gainers_33 : decode cX9_gainers 33 = .ok (.ireturn, 1) := by decide +kernel
theorem dX9_gainers_34 : decode cX9_gainers 34 = .ok (.aload_n 0, 1) := by decide +kernel
theorem dX9_gainers_35 : decode cX9_gainers 35 = .ok (.iload_n 3, 1) := by decide +kernel
theorem dX9_gainers_36 : decode cX9_gainers 36 = .ok (.invokevirtual 245, 3) := by decide +kernel
theorem dX9_gainers_39 : decode cX9_gainers 39 = .ok (.aload_n 0, 1) := by decide +kernel
theorem dX9_gainers_40 : decode cX9_gainers 40 = .ok (.iload_n 3, 1) := by decide +kernel
theorem dX9_gainers_41 : decode cX9_gainers 41 = .ok (.iload_n 1, 1) := by decide +kernel
theorem dX9_gainers_42 : decode cX9_gainers 42 = .ok (.iload_n 2, 1) := by decide +kernel
theorem dX9_gainers_43 : decode cX9_gainers 43 = .ok (.invokevirtual 262, 3) := by decide +kernel
theorem dX9_gainers_46 : decode cX9_gainers 46 = .ok (.iconst 0, 1) := by decide +kernel
theorem dX9_gainers_47 : decode cX9_gainers 47 = .ok (.istore 4, 2) := by decide +kernel
theorem dX9_gainers_49 : decode cX9_gainers 49 = .ok (.iconst 0, 1) := by decide +kernel
theorem dX9_gainers_50 : decode cX9_gainers 50 = .ok (.istore 5, 2) := by decide +kernel
theorem dX9_gainers_52 : decode cX9_gainers 52 = .ok (.iload 5, 2) := by decide +kernel
theorem dX9_gainers_54 : decode cX9_gainers 54 = .ok (.aload_n 0, 1) := by decide +kernel
theorem dX9_gainers_55 : decode cX9_gainers 55 = .ok (.getfield 19, 3) := by decide +kernel
theorem dX9_gainers_58 : decode cX9_gainers 58 = .ok (.getfield 209, 3) := by decide +kernel
theorem dX9_gainers_61 : decode cX9_gainers 61 = .ok (.if_icmp .ge 41, 3) := by decide +kernel
theorem dX9_gainers_64 : decode cX9_gainers 64 = .ok (.aload_n 0, 1) := by decide +kernel
theorem dX9_gainers_65 : decode cX9_gainers 65 = .ok (.getfield 73, 3) := by decide +kernel
theorem dX9_gainers_68 : decode cX9_gainers 68 = .ok (.getfield 155, 3) := by decide +kernel
theorem dX9_gainers_71 : decode cX9_gainers 71 = .ok (.iload 5, 2) := by decide +kernel
theorem dX9_gainers_73 : decode cX9_gainers 73 = .ok (.iaload, 1) := by decide +kernel
theorem dX9_gainers_74 : decode cX9_gainers 74 = .ok (.aload_n 0, 1) := by decide +kernel
theorem dX9_gainers_75 : decode cX9_gainers 75 = .ok (.getfield 70, 3) := by decide +kernel
theorem dX9_gainers_78 : decode cX9_gainers 78 = .ok (.getfield 155, 3) := by decide +kernel
theorem dX9_gainers_81 : decode cX9_gainers 81 = .ok (.iload 5, 2) := by decide +kernel
theorem dX9_gainers_83 : decode cX9_gainers 83 = .ok (.iaload, 1) := by decide +kernel
theorem dX9_gainers_84 : decode cX9_gainers 84 = .ok (.if_icmp .ge 12, 3) := by decide +kernel
theorem dX9_gainers_87 : decode cX9_gainers 87 = .ok (.iload 4, 2) := by decide +kernel
theorem dX9_gainers_89 : decode cX9_gainers 89 = .ok (.iconst 1, 1) := by decide +kernel
theorem dX9_gainers_90 : decode cX9_gainers 90 = .ok (.iload 5, 2) := by decide +kernel
theorem dX9_gainers_92 : decode cX9_gainers 92 = .ok (.ishl, 1) := by decide +kernel
theorem dX9_gainers_93 : decode cX9_gainers 93 = .ok (.ior, 1) := by decide +kernel
theorem dX9_gainers_94 : decode cX9_gainers 94 = .ok (.istore 4, 2) := by decide +kernel
theorem dX9_gainers_96 : decode cX9_gainers 96 = .ok (.iinc 5 1, 3) := by decide +kernel
theorem dX9_gainers_99 : decode cX9_gainers 99 = .ok (.goto (-47), 3) := by decide +kernel
theorem dX9_gainers_102 : decode cX9_gainers 102 = .ok (.iload 4, 2) := by decide +kernel
theorem dX9_gainers_104 : decode cX9_gainers 104 = .ok (.ireturn, 1) := by decide +kernel
theorem dX9_foretell_0 : decode cX9_foretell 0 = .ok (.aload_n 0, 1) := by decide +kernel
theorem dX9_foretell_1 : decode cX9_foretell 1 = .ok (.getfield 70, 3) := by decide +kernel
theorem dX9_foretell_4 : decode cX9_foretell 4 = .ok (.aload_n 0, 1) := by decide +kernel
theorem dX9_foretell_5 : decode cX9_foretell 5 = .ok (.getfield 35, 3) := by decide +kernel
theorem dX9_foretell_8 : decode cX9_foretell 8 = .ok (.invokevirtual 127, 3) := by decide +kernel
theorem dX9_foretell_11 : decode cX9_foretell 11 = .ok (.aload_n 0, 1) := by decide +kernel
theorem dX9_foretell_12 : decode cX9_foretell 12 = .ok (.getfield 57, 3) := by decide +kernel
theorem dX9_foretell_15 : decode cX9_foretell 15 = .ok (.iload_n 1, 1) := by decide +kernel
theorem dX9_foretell_16 : decode cX9_foretell 16 = .ok (.aload_n 0, 1) := by decide +kernel
theorem dX9_foretell_17 : decode cX9_foretell 17 = .ok (.getfield 70, 3) := by decide +kernel
theorem dX9_foretell_20 : decode cX9_foretell 20 = .ok (.aload_n 0, 1) := by decide +kernel
theorem dX9_foretell_21 : decode cX9_foretell 21 = .ok (.getfield 19, 3) := by decide +kernel
theorem dX9_foretell_24 : decode cX9_foretell 24 = .ok (.aload_n 0, 1) := by decide +kernel
theorem dX9_foretell_25 : decode cX9_foretell 25 = .ok (.getfield 19, 3) := by decide +kernel
theorem dX9_foretell_28 : decode cX9_foretell 28 = .ok (.getfield 142, 3) := by decide +kernel
theorem dX9_foretell_31 : decode cX9_foretell 31 = .ok (.invokevirtual 241, 3) := by decide +kernel
theorem dX9_foretell_34 : decode cX9_foretell 34 = .ok (.return_, 1) := by decide +kernel
theorem dX9_foretellElse_0 : decode cX9_foretellElse 0 = .ok (.iconst 0, 1) := by decide +kernel
theorem dX9_foretellElse_1 : decode cX9_foretellElse 1 = .ok (.istore 4, 2) := by decide +kernel
theorem dX9_foretellElse_3 : decode cX9_foretellElse 3 = .ok (.iload 4, 2) := by decide +kernel
theorem dX9_foretellElse_5 : decode cX9_foretellElse 5 = .ok (.bipush 6, 2) := by decide +kernel
theorem dX9_foretellElse_7 : decode cX9_foretellElse 7 = .ok (.if_icmp .ge 36, 3) := by decide +kernel
theorem dX9_foretellElse_10 : decode cX9_foretellElse 10 = .ok (.aload_n 0, 1) := by decide +kernel
theorem dX9_foretellElse_11 : decode cX9_foretellElse 11 = .ok (.getfield 76, 3) := by decide +kernel
theorem dX9_foretellElse_14 : decode cX9_foretellElse 14 = .ok (.iload 4, 2) := by decide +kernel
theorem dX9_foretellElse_16 : decode cX9_foretellElse 16 = .ok (.iload 4, 2) := by decide +kernel
theorem dX9_foretellElse_18 : decode cX9_foretellElse 18 = .ok (.iload_n 2, 1) := by decide +kernel
theorem dX9_foretellElse_19 : decode cX9_foretellElse 19 = .ok (.if_icmp .ne 7, 3) := by decide +kernel
theorem dX9_foretellElse_22 : decode cX9_foretellElse 22 = .ok (.iload_n 3, 1) := by decide +kernel
theorem dX9_foretellElse_23 : decode cX9_foretellElse 23 = .ok (.goto 13, 3) := by decide +kernel
theorem dX9_foretellElse_26 : decode cX9_foretellElse 26 = .ok (.aload_n 0, 1) := by decide +kernel
theorem dX9_foretellElse_27 : decode cX9_foretellElse 27 = .ok (.getfield 19, 3) := by decide +kernel
theorem dX9_foretellElse_30 : decode cX9_foretellElse 30 = .ok (.getfield 142, 3) := by decide +kernel
theorem dX9_foretellElse_33 : decode cX9_foretellElse 33 = .ok (.iload 4, 2) := by decide +kernel
theorem dX9_foretellElse_35 : decode cX9_foretellElse 35 = .ok (.iaload, 1) := by decide +kernel
theorem dX9_foretellElse_36 : decode cX9_foretellElse 36 = .ok (.iastore, 1) := by decide +kernel
theorem dX9_foretellElse_37 : decode cX9_foretellElse 37 = .ok (.iinc 4 1, 3) := by decide +kernel
theorem dX9_foretellElse_40 : decode cX9_foretellElse 40 = .ok (.goto (-37), 3) := by decide +kernel
theorem dX9_foretellElse_43 : decode cX9_foretellElse 43 = .ok (.aload_n 0, 1) := by decide +kernel
theorem dX9_foretellElse_44 : decode cX9_foretellElse 44 = .ok (.getfield 73, 3) := by decide +kernel
theorem dX9_foretellElse_47 : decode cX9_foretellElse 47 = .ok (.aload_n 0, 1) := by decide +kernel
theorem dX9_foretellElse_48 : decode cX9_foretellElse 48 = .ok (.getfield 35, 3) := by decide +kernel
theorem dX9_foretellElse_51 : decode cX9_foretellElse 51 = .ok (.invokevirtual 127, 3) := by decide +kernel
theorem dX9_foretellElse_54 : decode cX9_foretellElse 54 = .ok (.aload_n 0, 1) := by decide +kernel
theorem dX9_foretellElse_55 : decode cX9_foretellElse 55 = .ok (.getfield 57, 3) := by decide +kernel
theorem dX9_foretellElse_58 : decode cX9_foretellElse 58 = .ok (.iload_n 1, 1) := by decide +kernel
theorem dX9_foretellElse_59 : decode cX9_foretellElse 59 = .ok (.aload_n 0, 1) := by decide +kernel
theorem dX9_foretellElse_60 : decode cX9_foretellElse 60 = .ok (.getfield 73, 3) := by decide +kernel
theorem dX9_foretellElse_63 : decode cX9_foretellElse 63 = .ok (.aload_n 0, 1) := by decide +kernel
theorem dX9_foretellElse_64 : decode cX9_foretellElse 64 = .ok (.getfield 19, 3) := by decide +kernel
theorem dX9_foretellElse_67 : decode cX9_foretellElse 67 = .ok (.aload_n 0, 1) := by decide +kernel
theorem dX9_foretellElse_68 : decode cX9_foretellElse 68 = .ok (.getfield 76, 3) := by decide +kernel
theorem dX9_foretellElse_71 : decode cX9_foretellElse 71 = .ok (.invokevirtual 241, 3) := by decide +kernel
theorem dX9_foretellElse_74 : decode cX9_foretellElse 74 = .ok (.return_, 1) := by decide +kernel
theorem dX9_weigh_0 : decode cX9_weigh 0 = .ok (.aload_n 0, 1) := by decide +kernel
theorem dX9_weigh_1 : decode cX9_weigh 1 = .ok (.iload_n 1, 1) := by decide +kernel
theorem dX9_weigh_2 : decode cX9_weigh 2 = .ok (.invokevirtual 135, 3) := by decide +kernel
theorem dX9_weigh_5 : decode cX9_weigh 5 = .ok (.ifCond .ne 11, 3) := by decide +kernel
theorem dX9_weigh_8 : decode cX9_weigh 8 = .ok (.aload_n 0, 1) := by decide +kernel
theorem dX9_weigh_9 : decode cX9_weigh 9 = .ok (.iload_n 2, 1) := by decide +kernel
theorem dX9_weigh_10 : decode cX9_weigh 10 = .ok (.invokevirtual 162, 3) := by decide +kernel
theorem dX9_weigh_13 : decode cX9_weigh 13 = .ok (.ifCond .eq 6, 3) := by decide +kernel
theorem dX9_weigh_16 : decode cX9_weigh 16 = .ok (.bipush (-2), 2) := by decide +kernel
theorem dX9_weigh_18 : decode cX9_weigh 18 = .ok (.ireturn, 1) := by decide +kernel
theorem dX9_weigh_19 : decode cX9_weigh 19 = .ok (.iload_n 3, 1) := by decide +kernel
theorem dX9_weigh_20 : decode cX9_weigh 20 = .ok (.iconst 0, 1) := by decide +kernel
theorem dX9_weigh_21 : decode cX9_weigh 21 = .ok (.sipush 199, 3) := by decide +kernel
theorem dX9_weigh_24 : decode cX9_weigh 24 = .ok (.invokestatic 187, 3) := by decide +kernel
theorem dX9_weigh_27 : decode cX9_weigh 27 = .ok (.ifCond .eq 6, 3) := by decide +kernel
theorem dX9_weigh_30 : decode cX9_weigh 30 = .ok (.bipush (-3), 2) := by decide +kernel
theorem dX9_weigh_32 : decode cX9_weigh 32 = .ok (.ireturn, 1) := by decide +kernel
theorem dX9_weigh_33 : decode cX9_weigh 33 = .ok (.aload_n 0, 1) := by decide +kernel
theorem dX9_weigh_34 : decode cX9_weigh 34 = .ok (.getfield 83, 3) := by decide +kernel
theorem dX9_weigh_37 : decode cX9_weigh 37 = .ok (.getfield 133, 3) := by decide +kernel
theorem dX9_weigh_40 : decode cX9_weigh 40 = .ok (.bipush 12, 2) := by decide +kernel
theorem dX9_weigh_42 : decode cX9_weigh 42 = .ok (.if_icmp .lt 6, 3) := by decide +kernel
theorem dX9_weigh_45 : decode cX9_weigh 45 = .ok (.bipush (-5), 2) := by decide +kernel
theorem dX9_weigh_47 : decode cX9_weigh 47 = .ok (.ireturn, 1) := by decide +kernel
theorem dX9_weigh_48 : decode cX9_weigh 48 = .ok (.aload_n 0, 1) := by decide +kernel
theorem dX9_weigh_49 : decode cX9_weigh 49 = .ok (.getfield 83, 3) := by decide +kernel
theorem dX9_weigh_52 : decode cX9_weigh 52 = .ok (.iload_n 1, 1) := by decide +kernel
theorem dX9_weigh_53 : decode cX9_weigh 53 = .ok (.iload_n 2, 1) := by decide +kernel
theorem dX9_weigh_54 : decode cX9_weigh 54 = .ok (.iload_n 3, 1) := by decide +kernel
theorem dX9_weigh_55 : decode cX9_weigh 55 = .ok (.invokevirtual 266, 3) := by decide +kernel
theorem dX9_weigh_58 : decode cX9_weigh 58 = .ok (.aload_n 0, 1) := by decide +kernel
theorem dX9_weigh_59 : decode cX9_weigh 59 = .ok (.getfield 83, 3) := by decide +kernel
theorem dX9_weigh_62 : decode cX9_weigh 62 = .ok (.getfield 133, 3) := by decide +kernel
theorem dX9_weigh_65 : decode cX9_weigh 65 = .ok (.ireturn, 1) := by decide +kernel
theorem dX9_forget_0 : decode cX9_forget 0 = .ok (.aload_n 0, 1) := by decide +kernel
theorem dX9_forget_1 : decode cX9_forget 1 = .ok (.getfield 83, 3) := by decide +kernel
theorem dX9_forget_4 : decode cX9_forget 4 = .ok (.getfield 133, 3) := by decide +kernel
theorem dX9_forget_7 : decode cX9_forget 7 = .ok (.istore_n 1, 1) := by decide +kernel
theorem dX9_forget_8 : decode cX9_forget 8 = .ok (.aload_n 0, 1) := by decide +kernel
theorem dX9_forget_9 : decode cX9_forget 9 = .ok (.getfield 83, 3) := by decide +kernel
theorem dX9_forget_12 : decode cX9_forget 12 = .ok (.iconst 0, 1) := by decide +kernel
theorem dX9_forget_13 : decode cX9_forget 13 = .ok (.putfield 133, 3) := by decide +kernel
theorem dX9_forget_16 : decode cX9_forget 16 = .ok (.iload_n 1, 1) := by decide +kernel
theorem dX9_forget_17 : decode cX9_forget 17 = .ok (.ireturn, 1) := by decide +kernel
theorem dX9_scales_0 : decode cX9_scales 0 = .ok (.iload_n 1, 1) := by decide +kernel
theorem dX9_scales_1 : decode cX9_scales 1 = .ok (.iconst 0, 1) := by decide +kernel
theorem dX9_scales_2 : decode cX9_scales 2 = .ok (.iconst 1, 1) := by decide +kernel
theorem dX9_scales_3 : decode cX9_scales 3 = .ok (.invokestatic 187, 3) := by decide +kernel
theorem dX9_scales_6 : decode cX9_scales 6 = .ok (.ifCond .eq 6, 3) := by decide +kernel
theorem dX9_scales_9 : decode cX9_scales 9 = .ok (.bipush (-3), 2) := by decide +kernel
theorem dX9_scales_11 : decode cX9_scales 11 = .ok (.ireturn, 1) := by decide +kernel
theorem dX9_scales_12 : decode cX9_scales 12 = .ok (.iload_n 1, 1) := by decide +kernel
theorem dX9_scales_13 : decode cX9_scales 13 = .ok (.iconst 1, 1) := by decide +kernel
theorem dX9_scales_14 : decode cX9_scales 14 = .ok (.if_icmp .ne 20, 3) := by decide +kernel
theorem dX9_scales_17 : decode cX9_scales 17 = .ok (.aload_n 0, 1) := by decide +kernel
theorem dX9_scales_18 : decode cX9_scales 18 = .ok (.getfield 83, 3) := by decide +kernel
theorem dX9_scales_21 : decode cX9_scales 21 = .ok (.iconst (-1), 1) := by decide +kernel
theorem dX9_scales_22 : decode cX9_scales 22 = .ok (.invokevirtual 268, 3) := by decide +kernel
theorem dX9_scales_25 : decode cX9_scales 25 = .ok (.ifCond .eq 7, 3) := by decide +kernel
theorem dX9_scales_28 : decode cX9_scales 28 = .ok (.iconst 1, 1) := by decide +kernel
theorem dX9_scales_29 : decode cX9_scales 29 = .ok (.goto 4, 3) := by decide +kernel
theorem dX9_scales_32 : decode cX9_scales 32 = .ok (.iconst 0, 1) := by decide +kernel
theorem dX9_scales_33 : decode cX9_scales 33 = .ok (.ireturn, 1) := by decide +kernel
theorem dX9_scales_34 : decode cX9_scales 34 = .ok (.iconst 0, 1) := by decide +kernel
theorem dX9_scales_35 : decode cX9_scales 35 = .ok (.istore_n 2, 1) := by decide +kernel
theorem dX9_scales_36 : decode cX9_scales 36 = .ok (.iconst 0, 1) := by decide +kernel
theorem dX9_scales_37 : decode cX9_scales 37 = .ok (.istore_n 3, 1) := by decide +kernel
theorem dX9_scales_38 : decode cX9_scales 38 = .ok (.iload_n 3, 1) := by decide +kernel
theorem dX9_scales_39 : decode cX9_scales 39 = .ok (.aload_n 0, 1) := by decide +kernel
theorem dX9_scales_40 : decode cX9_scales 40 = .ok (.getfield 19, 3) := by decide +kernel
theorem dX9_scales_43 : decode cX9_scales 43 = .ok (.getfield 209, 3) := by decide +kernel
theorem dX9_scales_46 : decode cX9_scales 46 = .ok (.if_icmp .ge 26, 3) := by decide +kernel
theorem dX9_scales_49 : decode cX9_scales 49 = .ok (.aload_n 0, 1) := by decide +kernel
theorem dX9_scales_50 : decode cX9_scales 50 = .ok (.getfield 83, 3) := by decide +kernel
theorem dX9_scales_53 : decode cX9_scales 53 = .ok (.iload_n 3, 1) := by decide +kernel
theorem dX9_scales_54 : decode cX9_scales 54 = .ok (.invokevirtual 268, 3) := by decide +kernel
theorem dX9_scales_57 : decode cX9_scales 57 = .ok (.ifCond .eq 9, 3) := by decide +kernel
theorem dX9_scales_60 : decode cX9_scales 60 = .ok (.iload_n 2, 1) := by decide +kernel
theorem dX9_scales_61 : decode cX9_scales 61 = .ok (.iconst 1, 1) := by decide +kernel
theorem dX9_scales_62 : decode cX9_scales 62 = .ok (.iload_n 3, 1) := by decide +kernel
theorem dX9_scales_63 : decode cX9_scales 63 = .ok (.ishl, 1) := by decide +kernel
theorem dX9_scales_64 : decode cX9_scales 64 = .ok (.ior, 1) := by decide +kernel
theorem dX9_scales_65 : decode cX9_scales 65 = .ok (.istore_n 2, 1) := by decide +kernel
theorem dX9_scales_66 : decode cX9_scales 66 = .ok (.iinc 3 1, 3) := by decide +kernel
theorem dX9_scales_69 : decode cX9_scales 69 = .ok (.goto (-31), 3) := by decide +kernel
theorem dX9_scales_72 : decode cX9_scales 72 = .ok (.iload_n 2, 1) := by decide +kernel
theorem dX9_scales_73 : decode cX9_scales 73 = .ok (.ireturn, 1) := by decide +kernel
theorem dX9_road_0 : decode cX9_road 0 = .ok (.iload_n 1, 1) := by decide +kernel
theorem dX9_road_1 : decode cX9_road 1 = .ok (.iconst 1, 1) := by decide +kernel
theorem dX9_road_2 : decode cX9_road 2 = .ok (.bipush 99, 2) := by decide +kernel
theorem dX9_road_4 : decode cX9_road 4 = .ok (.invokestatic 187, 3) := by decide +kernel
theorem dX9_road_7 : decode cX9_road 7 = .ok (.ifCond .ne 12, 3) := by decide +kernel
theorem dX9_road_10 : decode cX9_road 10 = .ok (.iload_n 2, 1) := by decide +kernel
theorem dX9_road_11 : decode cX9_road 11 = .ok (.iconst 0, 1) := by decide +kernel
theorem dX9_road_12 : decode cX9_road 12 = .ok (.iconst 3, 1) := by decide +kernel
theorem dX9_road_13 : decode cX9_road 13 = .ok (.invokestatic 187, 3) := by decide +kernel
theorem dX9_road_16 : decode cX9_road 16 = .ok (.ifCond .eq 6, 3) := by decide +kernel
theorem dX9_road_19 : decode cX9_road 19 = .ok (.bipush (-3), 2) := by decide +kernel
theorem dX9_road_21 : decode cX9_road 21 = .ok (.ireturn, 1) := by decide +kernel
theorem dX9_road_22 : decode cX9_road 22 = .ok (.aload_n 0, 1) := by decide +kernel
theorem dX9_road_23 : decode cX9_road 23 = .ok (.getfield 90, 3) := by decide +kernel
theorem dX9_road_26 : decode cX9_road 26 = .ok (.getfield 134, 3) := by decide +kernel
theorem dX9_road_29 : decode cX9_road 29 = .ok (.bipush 6, 2) := by decide +kernel
theorem dX9_road_31 : decode cX9_road 31 = .ok (.if_icmp .lt 6, 3) := by decide +kernel
theorem dX9_road_34 : decode cX9_road 34 = .ok (.bipush (-5), 2) := by decide +kernel
theorem dX9_road_36 : decode cX9_road 36 = .ok (.ireturn, 1) := by decide +kernel
theorem dX9_road_37 : decode cX9_road 37 = .ok (.aload_n 0, 1) := by decide +kernel
theorem dX9_road_38 : decode cX9_road 38 = .ok (.getfield 90, 3) := by decide +kernel
theorem dX9_road_41 : decode cX9_road 41 = .ok (.iload_n 1, 1) := by decide +kernel
theorem dX9_road_42 : decode cX9_road 42 = .ok (.iload_n 2, 1) := by decide +kernel
theorem dX9_road_43 : decode cX9_road 43 = .ok (.invokevirtual 271, 3) := by decide +kernel
theorem dX9_road_46 : decode cX9_road 46 = .ok (.aload_n 0, 1) := by decide +kernel
theorem dX9_road_47 : decode cX9_road 47 = .ok (.getfield 90, 3) := by decide +kernel
theorem dX9_road_50 : decode cX9_road 50 = .ok (.getfield 134, 3) := by decide +kernel
theorem dX9_road_53 : decode cX9_road 53 = .ok (.ireturn, 1) := by decide +kernel
theorem dX9_arrive_0 : decode cX9_arrive 0 = .ok (.aload_n 0, 1) := by decide +kernel
theorem dX9_arrive_1 : decode cX9_arrive 1 = .ok (.getfield 90, 3) := by decide +kernel
theorem dX9_arrive_4 : decode cX9_arrive 4 = .ok (.getfield 134, 3) := by decide +kernel
theorem dX9_arrive_7 : decode cX9_arrive 7 = .ok (.istore_n 1, 1) := by decide +kernel
theorem dX9_arrive_8 : decode cX9_arrive 8 = .ok (.aload_n 0, 1) := by decide +kernel
theorem dX9_arrive_9 : decode cX9_arrive 9 = .ok (.getfield 90, 3) := by decide +kernel
theorem dX9_arrive_12 : decode cX9_arrive 12 = .ok (.iconst 0, 1) := by decide +kernel
theorem dX9_arrive_13 : decode cX9_arrive 13 = .ok (.putfield 134, 3) := by decide +kernel
theorem dX9_arrive_16 : decode cX9_arrive 16 = .ok (.iload_n 1, 1) := by decide +kernel
theorem dX9_arrive_17 : decode cX9_arrive 17 = .ok (.ireturn, 1) := by decide +kernel
theorem dX9_who_0 : decode cX9_who 0 = .ok (.iload_n 1, 1) := by decide +kernel
theorem dX9_who_1 : decode cX9_who 1 = .ok (.iconst (-1), 1) := by decide +kernel
theorem dX9_who_2 : decode cX9_who 2 = .ok (.aload_n 0, 1) := by decide +kernel
theorem dX9_who_3 : decode cX9_who 3 = .ok (.getfield 90, 3) := by decide +kernel
theorem dX9_who_6 : decode cX9_who 6 = .ok (.getfield 134, 3) := by decide +kernel
theorem dX9_who_9 : decode cX9_who 9 = .ok (.iconst 1, 1) := by decide +kernel
theorem dX9_who_10 : decode cX9_who 10 = .ok (.isub, 1) := by decide +kernel
theorem dX9_who_11 : decode cX9_who 11 = .ok (.invokestatic 187, 3) := by decide +kernel
theorem dX9_who_14 : decode cX9_who 14 = .ok (.ifCond .eq 6, 3) := by decide +kernel
theorem dX9_who_17 : decode cX9_who 17 = .ok (.bipush (-3), 2) := by decide +kernel
theorem dX9_who_19 : decode cX9_who 19 = .ok (.ireturn, 1) := by decide +kernel
theorem dX9_who_20 : decode cX9_who 20 = .ok (.iload_n 1, 1) := by decide +kernel
theorem dX9_who_21 : decode cX9_who 21 = .ok (.iconst (-1), 1) := by decide +kernel
theorem dX9_who_22 : decode cX9_who 22 = .ok (.if_icmp .ne 15, 3) := by decide +kernel
theorem dX9_who_25 : decode cX9_who 25 = .ok (.aload_n 0, 1) := by decide +kernel
theorem dX9_who_26 : decode cX9_who 26 = .ok (.getfield 90, 3) := by decide +kernel
theorem dX9_who_29 : decode cX9_who 29 = .ok (.aload_n 0, 1) := by decide +kernel
theorem dX9_who_30 : decode cX9_who 30 = .ok (.getfield 35, 3) := by decide +kernel
theorem dX9_who_33 : decode cX9_who 33 = .ok (.invokevirtual 272, 3) := by decide +kernel
theorem dX9_who_36 : decode cX9_who 36 = .ok (.ireturn, 1) := by decide +kernel
theorem dX9_who_37 : decode cX9_who 37 = .ok (.aload_n 0, 1) := by decide +kernel
theorem dX9_who_38 : decode cX9_who 38 = .ok (.getfield 90, 3) := by decide +kernel
theorem dX9_who_41 : decode cX9_who 41 = .ok (.iload_n 1, 1) := by decide +kernel
theorem dX9_who_42 : decode cX9_who 42 = .ok (.aload_n 0, 1) := by decide +kernel
theorem dX9_who_43 : decode cX9_who 43 = .ok (.getfield 35, 3) := by decide +kernel
theorem dX9_who_46 : decode cX9_who 46 = .ok (.invokevirtual 276, 3) := by decide +kernel
theorem dX9_who_49 : decode cX9_who 49 = .ok (.ireturn, 1) := by decide +kernel
theorem dX9_count_0 : decode cX9_count 0 = .ok (.iload_n 1, 1) := by decide +kernel
theorem dX9_count_1 : decode cX9_count 1 = .ok (.tableswitch 123 0 8 #[51, 59, 67, 75, 83, 91, 99, 107, 115], 51) := by decide +kernel
theorem dX9_count_52 : decode cX9_count 52 = .ok (.aload_n 0, 1) := by decide +kernel
theorem dX9_count_53 : decode cX9_count 53 = .ok (.getfield 19, 3) := by decide +kernel
theorem dX9_count_56 : decode cX9_count 56 = .ok (.getfield 209, 3) := by decide +kernel
theorem dX9_count_59 : decode cX9_count 59 = .ok (.ireturn, 1) := by decide +kernel
theorem dX9_count_60 : decode cX9_count 60 = .ok (.aload_n 0, 1) := by decide +kernel
theorem dX9_count_61 : decode cX9_count 61 = .ok (.getfield 35, 3) := by decide +kernel
theorem dX9_count_64 : decode cX9_count 64 = .ok (.getfield 252, 3) := by decide +kernel
theorem dX9_count_67 : decode cX9_count 67 = .ok (.ireturn, 1) := by decide +kernel
theorem dX9_count_68 : decode cX9_count 68 = .ok (.aload_n 0, 1) := by decide +kernel
theorem dX9_count_69 : decode cX9_count 69 = .ok (.getfield 19, 3) := by decide +kernel
theorem dX9_count_72 : decode cX9_count 72 = .ok (.getfield 280, 3) := by decide +kernel
theorem dX9_count_75 : decode cX9_count 75 = .ok (.ireturn, 1) := by decide +kernel
theorem dX9_count_76 : decode cX9_count 76 = .ok (.aload_n 0, 1) := by decide +kernel
theorem dX9_count_77 : decode cX9_count 77 = .ok (.getfield 19, 3) := by decide +kernel
theorem dX9_count_80 : decode cX9_count 80 = .ok (.getfield 283, 3) := by decide +kernel
theorem dX9_count_83 : decode cX9_count 83 = .ok (.ireturn, 1) := by decide +kernel
theorem dX9_count_84 : decode cX9_count 84 = .ok (.aload_n 0, 1) := by decide +kernel
theorem dX9_count_85 : decode cX9_count 85 = .ok (.getfield 50, 3) := by decide +kernel
theorem dX9_count_88 : decode cX9_count 88 = .ok (.getfield 130, 3) := by decide +kernel
theorem dX9_count_91 : decode cX9_count 91 = .ok (.ireturn, 1) := by decide +kernel
theorem dX9_count_92 : decode cX9_count 92 = .ok (.aload_n 0, 1) := by decide +kernel
theorem dX9_count_93 : decode cX9_count 93 = .ok (.getfield 35, 3) := by decide +kernel
theorem dX9_count_96 : decode cX9_count 96 = .ok (.getfield 238, 3) := by decide +kernel
theorem dX9_count_99 : decode cX9_count 99 = .ok (.ireturn, 1) := by decide +kernel
theorem dX9_count_100 : decode cX9_count 100 = .ok (.aload_n 0, 1) := by decide +kernel
theorem dX9_count_101 : decode cX9_count 101 = .ok (.getfield 83, 3) := by decide +kernel
theorem dX9_count_104 : decode cX9_count 104 = .ok (.getfield 133, 3) := by decide +kernel
theorem dX9_count_107 : decode cX9_count 107 = .ok (.ireturn, 1) := by decide +kernel
theorem dX9_count_108 : decode cX9_count 108 = .ok (.aload_n 0, 1) := by decide +kernel
theorem dX9_count_109 : decode cX9_count 109 = .ok (.getfield 90, 3) := by decide +kernel
theorem dX9_count_112 : decode cX9_count 112 = .ok (.getfield 134, 3) := by decide +kernel
theorem dX9_count_115 : decode cX9_count 115 = .ok (.ireturn, 1) := by decide +kernel
theorem dX9_count_116 : decode cX9_count 116 = .ok (.aload_n 0, 1) := by decide +kernel
theorem dX9_count_117 : decode cX9_count 117 = .ok (.getfield 10, 3) := by decide +kernel
theorem dX9_count_120 : decode cX9_count 120 = .ok (.getfield 98, 3) := by decide +kernel
theorem dX9_count_123 : decode cX9_count 123 = .ok (.ireturn, 1) := by decide +kernel
theorem dX9_count_124 : decode cX9_count 124 = .ok (.bipush (-3), 2) := by decide +kernel
theorem dX9_count_126 : decode cX9_count 126 = .ok (.ireturn, 1) := by decide +kernel
theorem dX9_isNoTown_0 : decode cX9_isNoTown 0 = .ok (.iload_n 1, 1) := by decide +kernel
theorem dX9_isNoTown_1 : decode cX9_isNoTown 1 = .ok (.iconst 0, 1) := by decide +kernel
theorem dX9_isNoTown_2 : decode cX9_isNoTown 2 = .ok (.aload_n 0, 1) := by decide +kernel
theorem dX9_isNoTown_3 : decode cX9_isNoTown 3 = .ok (.getfield 19, 3) := by decide +kernel
theorem dX9_isNoTown_6 : decode cX9_isNoTown 6 = .ok (.getfield 209, 3) := by decide +kernel
theorem dX9_isNoTown_9 : decode cX9_isNoTown 9 = .ok (.iconst 1, 1) := by decide +kernel
theorem dX9_isNoTown_10 : decode cX9_isNoTown 10 = .ok (.isub, 1) := by decide +kernel
theorem dX9_isNoTown_11 : decode cX9_isNoTown 11 = .ok (.invokestatic 187, 3) := by decide +kernel
theorem dX9_isNoTown_14 : decode cX9_isNoTown 14 = .ok (.ireturn, 1) := by decide +kernel
theorem dX9_isNoBoy_0 : decode cX9_isNoBoy 0 = .ok (.iload_n 1, 1) := by decide +kernel
theorem dX9_isNoBoy_1 : decode cX9_isNoBoy 1 = .ok (.iconst 0, 1) := by decide +kernel
theorem dX9_isNoBoy_2 : decode cX9_isNoBoy 2 = .ok (.aload_n 0, 1) := by decide +kernel
theorem dX9_isNoBoy_3 : decode cX9_isNoBoy 3 = .ok (.getfield 35, 3) := by decide +kernel
theorem dX9_isNoBoy_6 : decode cX9_isNoBoy 6 = .ok (.getfield 252, 3) := by decide +kernel
theorem dX9_isNoBoy_9 : decode cX9_isNoBoy 9 = .ok (.iconst 1, 1) := by decide +kernel
theorem dX9_isNoBoy_10 : decode cX9_isNoBoy 10 = .ok (.isub, 1) := by decide +kernel
theorem dX9_isNoBoy_11 : decode cX9_isNoBoy 11 = .ok (.invokestatic 187, 3) := by decide +kernel
theorem dX9_isNoBoy_14 : decode cX9_isNoBoy 14 = .ok (.ireturn, 1) := by decide +kernel
theorem dX9_isNotIn_0 : decode cX9_isNotIn 0 = .ok (.iload_n 0, 1) := by decide +kernel
theorem dX9_isNotIn_1 : decode cX9_isNotIn 1 = .ok (.iload_n 1, 1) := by decide +kernel
theorem dX9_isNotIn_2 : decode cX9_isNotIn 2 = .ok (.if_icmp .lt 8, 3) := by decide +kernel
theorem dX9_isNotIn_5 : decode cX9_isNotIn 5 = .ok (.iload_n 0, 1) := by decide +kernel
theorem dX9_isNotIn_6 : decode cX9_isNotIn 6 = .ok (.iload_n 2, 1) := by decide +kernel
theorem dX9_isNotIn_7 : decode cX9_isNotIn 7 = .ok (.if_icmp .le 7, 3) := by decide +kernel
theorem dX9_isNotIn_10 : decode cX9_isNotIn 10 = .ok (.iconst 1, 1) := by decide +kernel
theorem dX9_isNotIn_11 : decode cX9_isNotIn 11 = .ok (.goto 4, 3) := by decide +kernel
theorem dX9_isNotIn_14 : decode cX9_isNotIn 14 = .ok (.iconst 0, 1) := by decide +kernel
theorem dX9_isNotIn_15 : decode cX9_isNotIn 15 = .ok (.ireturn, 1) := by decide +kernel
theorem dX9_fedWeight_0 : decode cX9_fedWeight 0 = .ok (.iconst 1, 1) := by decide +kernel
theorem dX9_fedWeight_1 : decode cX9_fedWeight 1 = .ok (.bipush 99, 2) := by decide +kernel
theorem dX9_fedWeight_3 : decode cX9_fedWeight 3 = .ok (.iload_n 0, 1) := by decide +kernel
theorem dX9_fedWeight_4 : decode cX9_fedWeight 4 = .ok (.iconst 1, 1) := by decide +kernel
theorem dX9_fedWeight_5 : decode cX9_fedWeight 5 = .ok (.isub, 1) := by decide +kernel
theorem dX9_fedWeight_6 : decode cX9_fedWeight 6 = .ok (.iload_n 1, 1) := by decide +kernel
theorem dX9_fedWeight_7 : decode cX9_fedWeight 7 = .ok (.iadd, 1) := by decide +kernel
theorem dX9_fedWeight_8 : decode cX9_fedWeight 8 = .ok (.invokestatic 286, 3) := by decide +kernel
theorem dX9_fedWeight_11 : decode cX9_fedWeight 11 = .ok (.invokestatic 291, 3) := by decide +kernel
theorem dX9_fedWeight_14 : decode cX9_fedWeight 14 = .ok (.ireturn, 1) := by decide +kernel
theorem dX9_poundsOf_0 : decode cX9_poundsOf 0 = .ok (.iload_n 0, 1) := by decide +kernel
theorem dX9_poundsOf_1 : decode cX9_poundsOf 1 = .ok (.iconst 2, 1) := by decide +kernel
theorem dX9_poundsOf_2 : decode cX9_poundsOf 2 = .ok (.if_icmp .ne 9, 3) := by decide +kernel
theorem dX9_poundsOf_5 : decode cX9_poundsOf 5 = .ok (.iload_n 1, 1) := by decide +kernel
theorem dX9_poundsOf_6 : decode cX9_poundsOf 6 = .ok (.iconst 2, 1) := by decide +kernel
theorem dX9_poundsOf_7 : decode cX9_poundsOf 7 = .ok (.idiv, 1) := by decide +kernel
theorem dX9_poundsOf_8 : decode cX9_poundsOf 8 = .ok (.goto 4, 3) := by decide +kernel
theorem dX9_poundsOf_11 : decode cX9_poundsOf 11 = .ok (.iload_n 1, 1) := by decide +kernel
theorem dX9_poundsOf_12 : decode cX9_poundsOf 12 = .ok (.ireturn, 1) := by decide +kernel
theorem dX10_init_0 : decode cX10_init 0 = .ok (.aload_n 0, 1) := by decide +kernel
theorem dX10_init_1 : decode cX10_init 1 = .ok (.invokespecial 1, 3) := by decide +kernel
theorem dX10_init_4 : decode cX10_init 4 = .ok (.aload_n 0, 1) := by decide +kernel
theorem dX10_init_5 : decode cX10_init 5 = .ok (.iconst 3, 1) := by decide +kernel
theorem dX10_init_6 : decode cX10_init 6 = .ok (.putfield 7, 3) := by decide +kernel
theorem dX10_init_9 : decode cX10_init 9 = .ok (.aload_n 0, 1) := by decide +kernel
theorem dX10_init_10 : decode cX10_init 10 = .ok (.bipush 30, 2) := by decide +kernel
theorem dX10_init_12 : decode cX10_init 12 = .ok (.newarray .int, 2) := by decide +kernel
theorem dX10_init_14 : decode cX10_init 14 = .ok (.putfield 13, 3) := by decide +kernel
theorem dX10_init_17 : decode cX10_init 17 = .ok (.aload_n 0, 1) := by decide +kernel
theorem dX10_init_18 : decode cX10_init 18 = .ok (.bipush 10, 2) := by decide +kernel
theorem dX10_init_20 : decode cX10_init 20 = .ok (.newarray .int, 2) := by decide +kernel
theorem dX10_init_22 : decode cX10_init 22 = .ok (.putfield 17, 3) := by decide +kernel
theorem dX10_init_25 : decode cX10_init 25 = .ok (.aload_n 0, 1) := by decide +kernel
theorem dX10_init_26 : decode cX10_init 26 = .ok (.bipush 40, 2) := by decide +kernel
theorem dX10_init_28 : decode cX10_init 28 = .ok (.newarray .int, 2) := by decide +kernel
theorem dX10_init_30 : decode cX10_init 30 = .ok (.putfield 20, 3) := by decide +kernel
theorem dX10_init_33 : decode cX10_init 33 = .ok (.aload_n 0, 1) := by decide +kernel
theorem dX10_init_34 : decode cX10_init 34 = .ok (.sipush 200, 3) := by decide +kernel
theorem dX10_init_37 : decode cX10_init 37 = .ok (.newarray .int, 2) := by decide +kernel
theorem dX10_init_39 : decode cX10_init 39 = .ok (.putfield 23, 3) := by decide +kernel
theorem dX10_init_42 : decode cX10_init 42 = .ok (.aload_n 0, 1) := by decide +kernel
theorem dX10_init_43 : decode cX10_init 43 = .ok (.bipush 50, 2) := by decide +kernel
theorem dX10_init_45 : decode cX10_init 45 = .ok (.newarray .int, 2) := by decide +kernel
theorem dX10_init_47 : decode cX10_init 47 = .ok (.putfield 26, 3) := by decide +kernel
theorem dX10_init_50 : decode cX10_init 50 = .ok (.aload_n 0, 1) := by decide +kernel
theorem dX10_init_51 : decode cX10_init 51 = .ok (.bipush 47, 2) := by decide +kernel
theorem dX10_init_53 : decode cX10_init 53 = .ok (.newarray .int, 2) := by decide +kernel
theorem dX10_init_55 : decode cX10_init 55 = .ok (.putfield 29, 3) := by decide +kernel
theorem dX10_init_58 : decode cX10_init 58 = .ok (.aload_n 0, 1) := by decide +kernel
theorem dX10_init_59 : decode cX10_init 59 = .ok (.bipush 47, 2) := by decide +kernel
theorem dX10_init_61 : decode cX10_init 61 = .ok (.newarray .int, 2) := by decide +kernel
theorem dX10_init_63 : decode cX10_init 63 = .ok (.putfield 32, 3) := by decide +kernel
theorem dX10_init_66 : decode cX10_init 66 = .ok (.aload_n 0, 1) := by decide +kernel
theorem dX10_init_67 : decode cX10_init 67 = .ok (.bipush 94, 2) := by decide +kernel
theorem dX10_init_69 : decode cX10_init 69 = .ok (.newarray .int, 2) := by decide +kernel
theorem dX10_init_71 : decode cX10_init 71 = .ok (.putfield 35, 3) := by decide +kernel
theorem dX10_init_74 : decode cX10_init 74 = .ok (.aload_n 0, 1) := by decide +kernel
theorem dX10_init_75 : decode cX10_init 75 = .ok (.iconst 2, 1) := by decide +kernel
theorem dX10_init_76 : decode cX10_init 76 = .ok (.newarray .boolean, 2) := by decide +kernel
theorem dX10_init_78 : decode cX10_init 78 = .ok (.putfield 38, 3) := by decide +kernel
theorem dX10_init_81 : decode cX10_init 81 = .ok (.aload_n 0, 1) := by decide +kernel
theorem dX10_init_82 : decode cX10_init 82 = .ok (.bipush 10, 2) := by decide +kernel
theorem dX10_init_84 : decode cX10_init 84 = .ok (.newarray .int, 2) := by decide +kernel
theorem dX10_init_86 : decode cX10_init 86 = .ok (.putfield 42, 3) := by decide +kernel
theorem dX10_init_89 : decode cX10_init 89 = .ok (.aload_n 0, 1) := by decide +kernel
theorem dX10_init_90 : decode cX10_init 90 = .ok (.bipush 36, 2) := by decide +kernel
theorem dX10_init_92 : decode cX10_init 92 = .ok (.newarray .int, 2) := by decide +kernel
theorem dX10_init_94 : decode cX10_init 94 = .ok (.putfield 45, 3) := by decide +kernel
theorem dX10_init_97 : decode cX10_init 97 = .ok (.aload_n 0, 1) := by decide +kernel
theorem dX10_init_98 : decode cX10_init 98 = .ok (.bipush 12, 2) := by decide +kernel
theorem dX10_init_100 : decode cX10_init 100 = .ok (.newarray .int, 2) := by decide +kernel
theorem dX10_init_102 : decode cX10_init 102 = .ok (.putfield 48, 3) := by decide +kernel
theorem dX10_init_105 : decode cX10_init 105 = .ok (.aload_n 0, 1) := by decide +kernel
theorem dX10_init_106 : decode cX10_init 106 = .ok (.bipush 7, 2) := by decide +kernel
theorem dX10_init_108 : decode cX10_init 108 = .ok (.newarray .int, 2) := by decide +kernel
theorem dX10_init_110 : decode cX10_init 110 = .ok (.putfield 51, 3) := by decide +kernel
theorem dX10_init_113 : decode cX10_init 113 = .ok (.aload_n 0, 1) := by decide +kernel
theorem dX10_init_114 : decode cX10_init 114 = .ok (.bipush 7, 2) := by decide +kernel
theorem dX10_init_116 : decode cX10_init 116 = .ok (.newarray .int, 2) := by decide +kernel
theorem dX10_init_118 : decode cX10_init 118 = .ok (.putfield 54, 3) := by decide +kernel
theorem dX10_init_121 : decode cX10_init 121 = .ok (.aload_n 0, 1) := by decide +kernel
theorem dX10_init_122 : decode cX10_init 122 = .ok (.bipush 10, 2) := by decide +kernel
theorem dX10_init_124 : decode cX10_init 124 = .ok (.newarray .int, 2) := by decide +kernel
theorem dX10_init_126 : decode cX10_init 126 = .ok (.putfield 57, 3) := by decide +kernel
theorem dX10_init_129 : decode cX10_init 129 = .ok (.aload_n 0, 1) := by decide +kernel
theorem dX10_init_130 : decode cX10_init 130 = .ok (.bipush 6, 2) := by decide +kernel
theorem dX10_init_132 : decode cX10_init 132 = .ok (.newarray .int, 2) := by decide +kernel
theorem dX10_init_134 : decode cX10_init 134 = .ok (.putfield 60, 3) := by decide +kernel
theorem dX10_init_137 : decode cX10_init 137 = .ok (.aload_n 0, 1) := by decide +kernel
theorem dX10_init_138 : decode cX10_init 138 = .ok (.bipush 7, 2) := by decide +kernel
theorem dX10_init_140 : decode cX10_init 140 = .ok (.newarray .int, 2) := by decide +kernel
theorem dX10_init_142 : decode cX10_init 142 = .ok (.putfield 63, 3) := by decide +kernel
theorem dX10_init_145 : decode cX10_init 145 = .ok (.aload_n 0, 1) := by decide +kernel
theorem dX10_init_146 : decode cX10_init 146 = .ok (.iconst 3, 1) := by decide +kernel
theorem dX10_init_147 : decode cX10_init 147 = .ok (.invokevirtual 66, 3) := by decide +kernel
theorem dX10_init_150 : decode cX10_init 150 = .ok (.aload_n 0, 1) := by decide +kernel
theorem dX10_init_151 : decode cX10_init 151 = .ok (.invokevirtual 70, 3) := by decide +kernel
theorem dX10_init_154 : decode cX10_init 154 = .ok (.return_, 1) := by decide +kernel
theorem dX10_in_0 : decode cX10_in 0 = .ok (.iload_n 0, 1) := by decide +kernel
theorem dX10_in_1 : decode cX10_in 1 = .ok (.iload_n 1, 1) := by decide +kernel
theorem dX10_in_2 : decode cX10_in 2 = .ok (.if_icmp .lt 12, 3) := by decide +kernel
theorem dX10_in_5 : decode cX10_in 5 = .ok (.iload_n 0, 1) := by decide +kernel
theorem dX10_in_6 : decode cX10_in 6 = .ok (.iload_n 2, 1) := by decide +kernel
theorem dX10_in_7 : decode cX10_in 7 = .ok (.if_icmp .gt 7, 3) := by decide +kernel
theorem dX10_in_10 : decode cX10_in 10 = .ok (.iconst 1, 1) := by decide +kernel
theorem dX10_in_11 : decode cX10_in 11 = .ok (.goto 4, 3) := by decide +kernel
theorem dX10_in_14 : decode cX10_in 14 = .ok (.iconst 0, 1) := by decide +kernel
theorem dX10_in_15 : decode cX10_in 15 = .ok (.ireturn, 1) := by decide +kernel
theorem dX10_isTown_0 : decode cX10_isTown 0 = .ok (.iload_n 1, 1) := by decide +kernel
theorem dX10_isTown_1 : decode cX10_isTown 1 = .ok (.iconst 0, 1) := by decide +kernel
theorem dX10_isTown_2 : decode cX10_isTown 2 = .ok (.aload_n 0, 1) := by decide +kernel
theorem dX10_isTown_3 : decode cX10_isTown 3 = .ok (.getfield 7, 3) := by decide +kernel
theorem dX10_isTown_6 : decode cX10_isTown 6 = .ok (.iconst 1, 1) := by decide +kernel
theorem dX10_isTown_7 : decode cX10_isTown 7 = .ok (.isub, 1) := by decide +kernel
theorem dX10_isTown_8 : decode cX10_isTown 8 = .ok (.invokestatic 73, 3) := by decide +kernel
theorem dX10_isTown_11 : decode cX10_isTown 11 = .ok (.ireturn, 1) := by decide +kernel
theorem dX10_isBoy_0 : decode cX10_isBoy 0 = .ok (.iload_n 1, 1) := by decide +kernel
theorem dX10_isBoy_1 : decode cX10_isBoy 1 = .ok (.iconst 0, 1) := by decide +kernel
theorem dX10_isBoy_2 : decode cX10_isBoy 2 = .ok (.aload_n 0, 1) := by decide +kernel
theorem dX10_isBoy_3 : decode cX10_isBoy 3 = .ok (.getfield 77, 3) := by decide +kernel
theorem dX10_isBoy_6 : decode cX10_isBoy 6 = .ok (.iconst 1, 1) := by decide +kernel
theorem dX10_isBoy_7 : decode cX10_isBoy 7 = .ok (.isub, 1) := by decide +kernel
theorem dX10_isBoy_8 : decode cX10_isBoy 8 = .ok (.invokestatic 73, 3) := by decide +kernel
theorem dX10_isBoy_11 : decode cX10_isBoy 11 = .ok (.ireturn, 1) := by decide +kernel
theorem dX10_plain_0 : decode cX10_plain 0 = .ok (.aload_n 0, 1) := by decide +kernel
theorem dX10_plain_1 : decode cX10_plain 1 = .ok (.iload_n 1, 1) := by decide +kernel
theorem dX10_plain_2 : decode cX10_plain 2 = .ok (.putfield 7, 3) := by decide +kernel
theorem dX10_plain_5 : decode cX10_plain 5 = .ok (.iconst 0, 1) := by decide +kernel
theorem dX10_plain_6 : decode cX10_plain 6 = .ok (.istore_n 2, 1) := by decide +kernel
theorem dX10_plain_7 : decode cX10_plain 7 = .ok (.iload_n 2, 1) := by decide +kernel
theorem dX10_plain_8 : decode cX10_plain 8 = .ok (.bipush 6, 2) := by decide +kernel
theorem dX10_plain_10 : decode cX10_plain 10 = .ok (.if_icmp .ge 75, 3) := by decide +kernel
theorem dX10_plain_13 : decode cX10_plain 13 = .ok (.aload_n 0, 1) := by decide +kernel
theorem dX10_plain_14 : decode cX10_plain 14 = .ok (.getfield 13, 3) := by decide +kernel
theorem dX10_plain_17 : decode cX10_plain 17 = .ok (.iconst 5, 1) := by decide +kernel
theorem dX10_plain_18 : decode cX10_plain 18 = .ok (.iload_n 2, 1) := by decide +kernel
theorem dX10_plain_19 : decode cX10_plain 19 = .ok (.imul, 1) := by decide +kernel
theorem dX10_plain_20 : decode cX10_plain 20 = .ok (.iconst 0, 1) := by decide +kernel
theorem dX10_plain_21 : decode cX10_plain 21 = .ok (.iastore, 1) := by decide +kernel
theorem dX10_plain_22 : decode cX10_plain 22 = .ok (.aload_n 0, 1) := by decide +kernel
theorem dX10_plain_23 : decode cX10_plain 23 = .ok (.getfield 13, 3) := by decide +kernel
theorem dX10_plain_26 : decode cX10_plain 26 = .ok (.iconst 5, 1) := by decide +kernel
theorem dX10_plain_27 : decode cX10_plain 27 = .ok (.iload_n 2, 1) := by decide +kernel
theorem dX10_plain_28 : decode cX10_plain 28 = .ok (.imul, 1) := by decide +kernel
theorem dX10_plain_29 : decode cX10_plain 29 = .ok (.iconst 1, 1) := by decide +kernel
theorem dX10_plain_30 : decode cX10_plain 30 = .ok (.iadd, 1) := by decide +kernel
theorem dX10_plain_31 : decode cX10_plain 31 = .ok (.iconst 1, 1) := by decide +kernel
theorem dX10_plain_32 : decode cX10_plain 32 = .ok (.iastore, 1) := by decide +kernel
theorem dX10_plain_33 : decode cX10_plain 33 = .ok (.aload_n 0, 1) := by decide +kernel
theorem dX10_plain_34 : decode cX10_plain 34 = .ok (.getfield 13, 3) := by decide +kernel
theorem dX10_plain_37 : decode cX10_plain 37 = .ok (.iconst 5, 1) := by decide +kernel
theorem dX10_plain_38 : decode cX10_plain 38 = .ok (.iload_n 2, 1) := by decide +kernel
theorem dX10_plain_39 : decode cX10_plain 39 = .ok (.imul, 1) := by decide +kernel
theorem dX10_plain_40 : decode cX10_plain 40 = .ok (.iconst 2, 1) := by decide +kernel
theorem dX10_plain_41 : decode cX10_plain 41 = .ok (.iadd, 1) := by decide +kernel
theorem dX10_plain_42 : decode cX10_plain 42 = .ok (.iconst 1, 1) := by decide +kernel
theorem dX10_plain_43 : decode cX10_plain 43 = .ok (.iastore, 1) := by decide +kernel
theorem dX10_plain_44 : decode cX10_plain 44 = .ok (.aload_n 0, 1) := by decide +kernel
theorem dX10_plain_45 : decode cX10_plain 45 = .ok (.getfield 13, 3) := by decide +kernel
theorem dX10_plain_48 : decode cX10_plain 48 = .ok (.iconst 5, 1) := by decide +kernel
theorem dX10_plain_49 : decode cX10_plain 49 = .ok (.iload_n 2, 1) := by decide +kernel
theorem dX10_plain_50 : decode cX10_plain 50 = .ok (.imul, 1) := by decide +kernel
theorem dX10_plain_51 : decode cX10_plain 51 = .ok (.iconst 3, 1) := by decide +kernel
theorem dX10_plain_52 : decode cX10_plain 52 = .ok (.iadd, 1) := by decide +kernel
theorem dX10_plain_53 : decode cX10_plain 53 = .ok (.iconst (-1), 1) := by decide +kernel
theorem dX10_plain_54 : decode cX10_plain 54 = .ok (.iastore, 1) := by decide +kernel
theorem dX10_plain_55 : decode cX10_plain 55 = .ok (.aload_n 0, 1) := by decide +kernel
theorem dX10_plain_56 : decode cX10_plain 56 = .ok (.getfield 13, 3) := by decide +kernel
theorem dX10_plain_59 : decode cX10_plain 59 = .ok (.iconst 5, 1) := by decide +kernel
theorem dX10_plain_60 : decode cX10_plain 60 = .ok (.iload_n 2, 1) := by decide +kernel
theorem dX10_plain_61 : decode cX10_plain 61 = .ok (.imul, 1) := by decide +kernel
theorem dX10_plain_62 : decode cX10_plain 62 = .ok (.iconst 4, 1) := by decide +kernel
theorem dX10_plain_63 : decode cX10_plain 63 = .ok (.iadd, 1) := by decide +kernel
theorem dX10_plain_64 : decode cX10_plain 64 = .ok (.iload_n 2, 1) := by decide +kernel
theorem dX10_plain_65 : decode cX10_plain 65 = .ok (.iload_n 1, 1) := by decide +kernel
theorem dX10_plain_66 : decode cX10_plain 66 = .ok (.iconst 1, 1) := by decide +kernel
theorem dX10_plain_67 : decode cX10_plain 67 = .ok (.isub, 1) := by decide +kernel
theorem dX10_plain_68 : decode cX10_plain 68 = .ok (.if_icmp .ne 7, 3) := by decide +kernel
theorem dX10_plain_71 : decode cX10_plain 71 = .ok (.iconst 0, 1) := by decide +kernel
theorem dX10_plain_72 : decode cX10_plain 72 = .ok (.goto 6, 3) := by decide +kernel
theorem dX10_plain_75 : decode cX10_plain 75 = .ok (.iload_n 2, 1) := by decide +kernel
theorem dX10_plain_76 : decode cX10_plain 76 = .ok (.iconst 1, 1) := by decide +kernel
theorem dX10_plain_77 : decode cX10_plain 77 = .ok (.iadd, 1) := by decide +kernel
theorem dX10_plain_78 : decode cX10_plain 78 = .ok (.iastore, 1) := by decide +kernel
theorem dX10_plain_79 : decode cX10_plain 79 = .ok (.iinc 2 1, 3) := by decide +kernel
theorem dX10_plain_82 : decode cX10_plain 82 = .ok (.goto (-75), 3) := by decide +kernel
theorem dX10_plain_85 : decode cX10_plain 85 = .ok (.aload_n 0, 1) := by decide +kernel
theorem dX10_plain_86 : decode cX10_plain 86 = .ok (.iconst 0, 1) := by decide +kernel
theorem dX10_plain_87 : decode cX10_plain 87 = .ok (.putfield 77, 3) := by decide +kernel
theorem dX10_plain_90 : decode cX10_plain 90 = .ok (.aload_n 0, 1) := by decide +kernel
theorem dX10_plain_91 : decode cX10_plain 91 = .ok (.iconst 0, 1) := by decide +kernel
theorem dX10_plain_92 : decode cX10_plain 92 = .ok (.putfield 80, 3) := by decide +kernel
theorem dX10_plain_95 : decode cX10_plain 95 = .ok (.aload_n 0, 1) := by decide +kernel
theorem dX10_plain_96 : decode cX10_plain 96 = .ok (.iconst 0, 1) := by decide +kernel
theorem dX10_plain_97 : decode cX10_plain 97 = .ok (.putfield 83, 3) := by decide +kernel
theorem dX10_plain_100 : decode cX10_plain 100 = .ok (.return_, 1) := by decide +kernel
theorem dX10_goNowhere_0 : decode cX10_goNowhere 0 = .ok (.aload_n 0, 1) := by decide +kernel
theorem dX10_goNowhere_1 : decode cX10_goNowhere 1 = .ok (.iconst 0, 1) := by decide +kernel
theorem dX10_goNowhere_2 : decode cX10_goNowhere 2 = .ok (.putfield 86, 3) := by decide +kernel
theorem dX10_goNowhere_5 : decode cX10_goNowhere 5 = .ok (.iconst 0, 1) := by decide +kernel
theorem dX10_goNowhere_6 : decode cX10_goNowhere 6 = .ok (.istore_n 1, 1) := by decide +kernel
theorem dX10_goNowhere_7 : decode cX10_goNowhere 7 = .ok (.iload_n 1, 1) := by decide +kernel
theorem dX10_goNowhere_8 : decode cX10_goNowhere 8 = .ok (.bipush 10, 2) := by decide +kernel
theorem dX10_goNowhere_10 : decode cX10_goNowhere 10 = .ok (.if_icmp .ge 16, 3) := by decide +kernel
theorem dX10_goNowhere_13 : decode cX10_goNowhere 13 = .ok (.aload_n 0, 1) := by decide +kernel
theorem dX10_goNowhere_14 : decode cX10_goNowhere 14 = .ok (.getfield 42, 3) := by decide +kernel
theorem dX10_goNowhere_17 : decode cX10_goNowhere 17 = .ok (.iload_n 1, 1) := by decide +kernel
theorem dX10_goNowhere_18 : decode cX10_goNowhere 18 = .ok (.iconst (-1), 1) := by decide +kernel
theorem dX10_goNowhere_19 : decode cX10_goNowhere 19 = .ok (.iastore, 1) := by decide +kernel
theorem dX10_goNowhere_20 : decode cX10_goNowhere 20 = .ok (.iinc 1 1, 3) := by decide +kernel
theorem dX10_goNowhere_23 : decode cX10_goNowhere 23 = .ok (.goto (-16), 3) := by decide +kernel
theorem dX10_goNowhere_26 : decode cX10_goNowhere 26 = .ok (.return_, 1) := by decide +kernel
