theorem dX10_putBack_0 : decode cX10_putBack 0 = .ok (.aload_n 0, 1) := by decide +kernel
theorem dX10_putBack_1 : decode cX10_putBack 1 = .ok (.getfield 32, 3) := by decide +kernel
theorem dX10_putBack_4 : decode cX10_putBack 4 = .ok (.iconst 0, 1) := by decide +kernel
theorem dX10_putBack_5 : decode cX10_putBack 5 = .ok (.aload_n 0, 1) := by decide +kernel
theorem dX10_putBack_6 : decode cX10_putBack 6 = .ok (.getfield 29, 3) := by decide +kernel
theorem dX10_putBack_9 : decode cX10_putBack 9 = .ok (.iconst 0, 1) := by decide +kernel
theorem dX10_putBack_10 : decode cX10_putBack 10 = .ok (.invokestatic 253, 3) := by decide +kernel
theorem dX10_putBack_13 : decode cX10_putBack 13 = .ok (.aload_n 0, 1) := by decide +kernel
theorem dX10_putBack_14 : decode cX10_putBack 14 = .ok (.aload_n 0, 1) := by decide +kernel
theorem dX10_putBack_15 : decode cX10_putBack 15 = .ok (.getfield 257, 3) := by decide +kernel
theorem dX10_putBack_18 : decode cX10_putBack 18 = .ok (.putfield 86, 3) := by decide +kernel
theorem dX10_putBack_21 : decode cX10_putBack 21 = .ok (.iconst 0, 1) := by decide +kernel
theorem dX10_putBack_22 : decode cX10_putBack 22 = .ok (.istore_n 1, 1) := by decide +kernel
theorem dX10_putBack_23 : decode cX10_putBack 23 = .ok (.iload_n 1, 1) := by decide +kernel
theorem dX10_putBack_24 : decode cX10_putBack 24 = .ok (.bipush 10, 2) := by decide +kernel
theorem dX10_putBack_26 : decode cX10_putBack 26 = .ok (.if_icmp .ge 21, 3) := by decide +kernel
theorem dX10_putBack_29 : decode cX10_putBack 29 = .ok (.aload_n 0, 1) := by decide +kernel
theorem dX10_putBack_30 : decode cX10_putBack 30 = .ok (.getfield 42, 3) := by decide +kernel
theorem dX10_putBack_33 : decode cX10_putBack 33 = .ok (.iload_n 1, 1) := by decide +kernel
theorem dX10_putBack_34 : decode cX10_putBack 34 = .ok (.aload_n 0, 1) := by decide +kernel
theorem dX10_putBack_35 : decode cX10_putBack 35 = .ok (.getfield 57, 3) := by decide +kernel
theorem dX10_putBack_38 : decode cX10_putBack 38 = .ok (.iload_n 1, 1) := by decide +kernel
theorem dX10_putBack_39 : decode cX10_putBack 39 = .ok (.iaload, 1) := by decide +kernel
theorem dX10_putBack_40 : decode cX10_putBack 40 = .ok (.iastore, 1) := by decide +kernel
theorem dX10_putBack_41 : decode cX10_putBack 41 = .ok (.iinc 1 1, 3) := by decide +kernel
theorem dX10_putBack_44 : decode cX10_putBack 44 = .ok (.goto (-21), 3) := by decide +kernel
theorem dX10_putBack_47 : decode cX10_putBack 47 = .ok (.return_, 1) := by decide +kernel
theorem dX10_isTime_0 : decode cX10_isTime 0 = .ok (.iload_n 0, 1) := by decide +kernel
theorem dX10_isTime_1 : decode cX10_isTime 1 = .ok (.iconst 0, 1) := by decide +kernel
theorem dX10_isTime_2 : decode cX10_isTime 2 = .ok (.bipush 99, 2) := by decide +kernel
theorem dX10_isTime_4 : decode cX10_isTime 4 = .ok (.invokestatic 73, 3) := by decide +kernel
theorem dX10_isTime_7 : decode cX10_isTime 7 = .ok (.ireturn, 1) := by decide +kernel
theorem dX10_later_0 : decode cX10_later 0 = .ok (.aload_n 0, 1) := by decide +kernel
theorem dX10_later_1 : decode cX10_later 1 = .ok (.iload_n 1, 1) := by decide +kernel
theorem dX10_later_2 : decode cX10_later 2 = .ok (.invokevirtual 211, 3) := by decide +kernel
theorem dX10_later_5 : decode cX10_later 5 = .ok (.ifCond .ne 6, 3) := by decide +kernel
theorem dX10_later_8 : decode cX10_later 8 = .ok (.bipush (-2), 2) := by decide +kernel
theorem dX10_later_10 : decode cX10_later 10 = .ok (.ireturn, 1) := by decide +kernel
theorem dX10_later_11 : decode cX10_later 11 = .ok (.iload_n 2, 1) := by decide +kernel
theorem dX10_later_12 : decode cX10_later 12 = .ok (.invokestatic 260, 3) := by decide +kernel
theorem dX10_later_15 : decode cX10_later 15 = .ok (.ifCond .eq 12, 3) := by decide +kernel
theorem dX10_later_18 : decode cX10_later 18 = .ok (.iload_n 3, 1) := by decide +kernel
theorem dX10_later_19 : decode cX10_later 19 = .ok (.iconst 0, 1) := by decide +kernel
theorem dX10_later_20 : decode cX10_later 20 = .ok (.iconst 3, 1) := by decide +kernel
theorem dX10_later_21 : decode cX10_later 21 = .ok (.invokestatic 73, 3) := by decide +kernel
theorem dX10_later_24 : decode cX10_later 24 = .ok (.ifCond .ne 6, 3) := by decide +kernel
theorem dX10_later_27 : decode cX10_later 27 = .ok (.bipush (-3), 2) := by decide +kernel
theorem dX10_later_29 : decode cX10_later 29 = .ok (.ireturn, 1) := by decide +kernel
theorem dX10_later_30 : decode cX10_later 30 = .ok (.aload_n 0, 1) := by decide +kernel
theorem dX10_later_31 : decode cX10_later 31 = .ok (.iload_n 2, 1) := by decide +kernel
theorem dX10_later_32 : decode cX10_later 32 = .ok (.invokevirtual 263, 3) := by decide +kernel
theorem dX10_later_35 : decode cX10_later 35 = .ok (.aload_n 0, 1) := by decide +kernel
theorem dX10_later_36 : decode cX10_later 36 = .ok (.getfield 29, 3) := by decide +kernel
theorem dX10_later_39 : decode cX10_later 39 = .ok (.bipush 10, 2) := by decide +kernel
theorem dX10_later_41 : decode cX10_later 41 = .ok (.iload_n 3, 1) := by decide +kernel
theorem dX10_later_42 : decode cX10_later 42 = .ok (.imul, 1) := by decide +kernel
theorem dX10_later_43 : decode cX10_later 43 = .ok (.iload_n 1, 1) := by decide +kernel
theorem dX10_later_44 : decode cX10_later 44 = .ok (.iadd, 1) := by decide +kernel
theorem dX10_later_45 : decode cX10_later 45 = .ok (.iaload, 1) := by decide +kernel
theorem dX10_later_46 : decode cX10_later 46 = .ok (.istore 4, 2) := by decide +kernel
theorem dX10_later_48 : decode cX10_later 48 = .ok (.aload_n 0, 1) := by decide +kernel
theorem dX10_later_49 : decode cX10_later 49 = .ok (.invokevirtual 266, 3) := by decide +kernel
theorem dX10_later_52 : decode cX10_later 52 = .ok (.iload 4, 2) := by decide +kernel
theorem dX10_later_54 : decode cX10_later 54 = .ok (.ireturn, 1) := by decide +kernel
theorem dX10_without_0 : decode cX10_without 0 = .ok (.iload_n 1, 1) := by decide +kernel
theorem dX10_without_1 : decode cX10_without 1 = .ok (.invokestatic 260, 3) := by decide +kernel
theorem dX10_without_4 : decode cX10_without 4 = .ok (.ifCond .ne 6, 3) := by decide +kernel
theorem dX10_without_7 : decode cX10_without 7 = .ok (.bipush (-3), 2) := by decide +kernel
theorem dX10_without_9 : decode cX10_without 9 = .ok (.ireturn, 1) := by decide +kernel
theorem dX10_without_10 : decode cX10_without 10 = .ok (.aload_n 0, 1) := by decide +kernel
theorem dX10_without_11 : decode cX10_without 11 = .ok (.iload_n 1, 1) := by decide +kernel
theorem dX10_without_12 : decode cX10_without 12 = .ok (.invokevirtual 263, 3) := by decide +kernel
theorem dX10_without_15 : decode cX10_without 15 = .ok (.iconst 1, 1) := by decide +kernel
theorem dX10_without_16 : decode cX10_without 16 = .ok (.aload_n 0, 1) := by decide +kernel
theorem dX10_without_17 : decode cX10_without 17 = .ok (.getfield 7, 3) := by decide +kernel
theorem dX10_without_20 : decode cX10_without 20 = .ok (.ishl, 1) := by decide +kernel
theorem dX10_without_21 : decode cX10_without 21 = .ok (.iconst 1, 1) := by decide +kernel
theorem dX10_without_22 : decode cX10_without 22 = .ok (.isub, 1) := by decide +kernel
theorem dX10_without_23 : decode cX10_without 23 = .ok (.istore_n 2, 1) := by decide +kernel
theorem dX10_without_24 : decode cX10_without 24 = .ok (.iconst 0, 1) := by decide +kernel
theorem dX10_without_25 : decode cX10_without 25 = .ok (.istore_n 3, 1) := by decide +kernel
theorem dX10_without_26 : decode cX10_without 26 = .ok (.iload_n 3, 1) := by decide +kernel
theorem dX10_without_27 : decode cX10_without 27 = .ok (.aload_n 0, 1) := by decide +kernel
theorem dX10_without_28 : decode cX10_without 28 = .ok (.getfield 77, 3) := by decide +kernel
theorem dX10_without_31 : decode cX10_without 31 = .ok (.if_icmp .ge 22, 3) := by decide +kernel
theorem dX10_without_34 : decode cX10_without 34 = .ok (.iload_n 2, 1) := by decide +kernel
theorem dX10_without_35 : decode cX10_without 35 = .ok (.iconst 1, 1) := by decide +kernel
theorem dX10_without_36 : decode cX10_without 36 = .ok (.aload_n 0, 1) := by decide +kernel
theorem dX10_without_37 : decode cX10_without 37 = .ok (.getfield 29, 3) := by decide +kernel
theorem dX10_without_40 : decode cX10_without 40 = .ok (.iload_n 3, 1) := by decide +kernel
theorem dX10_without_41 : decode cX10_without 41 = .ok (.iaload, 1) := by decide +kernel
theorem dX10_without_42 : decode cX10_without 42 = .ok (.ishl, 1) := by decide +kernel
theorem dX10_without_43 : decode cX10_without 43 = .ok (.iconst (-1), 1) := by decide +kernel
theorem dX10_without_44 : decode cX10_without 44 = .ok (.ixor, 1) := by decide +kernel
theorem dX10_without_45 : decode cX10_without 45 = .ok (.iand, 1) := by decide +kernel
theorem dX10_without_46 : decode cX10_without 46 = .ok (.istore_n 2, 1) := by decide +kernel
theorem dX10_without_47 : decode cX10_without 47 = .ok (.iinc 3 1, 3) := by decide +kernel
theorem dX10_without_50 : decode cX10_without 50 = .ok (.goto (-24), 3) := by decide +kernel
theorem dX10_without_53 : decode cX10_without 53 = .ok (.aload_n 0, 1) := by decide +kernel
theorem dX10_without_54 : decode cX10_without 54 = .ok (.invokevirtual 266, 3) := by decide +kernel
theorem dX10_without_57 : decode cX10_without 57 = .ok (.iload_n 2, 1) := by decide +kernel
theorem dX10_without_58 : decode cX10_without 58 = .ok (.ireturn, 1) := by decide +kernel
theorem dX10_owed_0 : decode cX10_owed 0 = .ok (.aload_n 0, 1) := by decide +kernel
theorem dX10_owed_1 : decode cX10_owed 1 = .ok (.iload_n 1, 1) := by decide +kernel
theorem dX10_owed_2 : decode cX10_owed 2 = .ok (.invokevirtual 203, 3) := by decide +kernel
theorem dX10_owed_5 : decode cX10_owed 5 = .ok (.ifCond .ne 6, 3) := by decide +kernel
theorem dX10_owed_8 : decode cX10_owed 8 = .ok (.bipush (-2), 2) := by decide +kernel
theorem dX10_owed_10 : decode cX10_owed 10 = .ok (.ireturn, 1) := by decide +kernel
theorem dX10_owed_11 : decode cX10_owed 11 = .ok (.iload_n 2, 1) := by decide +kernel
theorem dX10_owed_12 : decode cX10_owed 12 = .ok (.invokestatic 260, 3) := by decide +kernel
theorem dX10_owed_15 : decode cX10_owed 15 = .ok (.ifCond .ne 6, 3) := by decide +kernel
theorem dX10_owed_18 : decode cX10_owed 18 = .ok (.bipush (-3), 2) := by decide +kernel
theorem dX10_owed_20 : decode cX10_owed 20 = .ok (.ireturn, 1) := by decide +kernel
theorem dX10_owed_21 : decode cX10_owed 21 = .ok (.aload_n 0, 1) := by decide +kernel
theorem dX10_owed_22 : decode cX10_owed 22 = .ok (.iload_n 2, 1) := by decide +kernel
theorem dX10_owed_23 : decode cX10_owed 23 = .ok (.invokevirtual 263, 3) := by decide +kernel
theorem dX10_owed_26 : decode cX10_owed 26 = .ok (.aload_n 0, 1) := by decide +kernel
theorem dX10_owed_27 : decode cX10_owed 27 = .ok (.getfield 29, 3) := by decide +kernel
theorem dX10_owed_30 : decode cX10_owed 30 = .ok (.bipush 40, 2) := by decide +kernel
theorem dX10_owed_32 : decode cX10_owed 32 = .ok (.iload_n 1, 1) := by decide +kernel
theorem dX10_owed_33 : decode cX10_owed 33 = .ok (.iadd, 1) := by decide +kernel
theorem dX10_owed_34 : decode cX10_owed 34 = .ok (.iaload, 1) := by decide +kernel
theorem dX10_owed_35 : decode cX10_owed 35 = .ok (.ldc 206, 2) := by decide +kernel
theorem dX10_owed_37 : decode cX10_owed 37 = .ok (.iadd, 1) := by decide +kernel
theorem dX10_owed_38 : decode cX10_owed 38 = .ok (.istore_n 3, 1) := by decide +kernel
theorem dX10_owed_39 : decode cX10_owed 39 = .ok (.aload_n 0, 1) := by decide +kernel
theorem dX10_owed_40 : decode cX10_owed 40 = .ok (.invokevirtual 266, 3) := by decide +kernel
theorem dX10_owed_43 : decode cX10_owed 43 = .ok (.iload_n 3, 1) := by decide +kernel
theorem dX10_owed_44 : decode cX10_owed 44 = .ok (.ireturn, 1) := by decide +kernel
theorem dX10_paidBy_0 : decode cX10_paidBy 0 = .ok (.iconst 0, 1) := by decide +kernel
theorem dX10_paidBy_1 : decode cX10_paidBy 1 = .ok (.istore 5, 2) := by decide +kernel
theorem dX10_paidBy_3 : decode cX10_paidBy 3 = .ok (.iconst 0, 1) := by decide +kernel
theorem dX10_paidBy_4 : decode cX10_paidBy 4 = .ok (.istore 6, 2) := by decide +kernel
theorem dX10_paidBy_6 : decode cX10_paidBy 6 = .ok (.iload 6, 2) := by decide +kernel
theorem dX10_paidBy_8 : decode cX10_paidBy 8 = .ok (.aload_n 0, 1) := by decide +kernel
theorem dX10_paidBy_9 : decode cX10_paidBy 9 = .ok (.getfield 77, 3) := by decide +kernel
theorem dX10_paidBy_12 : decode cX10_paidBy 12 = .ok (.if_icmp .ge 87, 3) := by decide +kernel
theorem dX10_paidBy_15 : decode cX10_paidBy 15 = .ok (.aload_n 0, 1) := by decide +kernel
theorem dX10_paidBy_16 : decode cX10_paidBy 16 = .ok (.getfield 29, 3) := by decide +kernel
theorem dX10_paidBy_19 : decode cX10_paidBy 19 = .ok (.iload 6, 2) := by decide +kernel
theorem dX10_paidBy_21 : decode cX10_paidBy 21 = .ok (.iaload, 1) := by decide +kernel
theorem dX10_paidBy_22 : decode cX10_paidBy 22 = .ok (.iload_n 1, 1) := by decide +kernel
theorem dX10_paidBy_23 : decode cX10_paidBy 23 = .ok (.if_icmp .ne 70, 3) := by decide +kernel
theorem dX10_paidBy_26 : decode cX10_paidBy 26 = .ok (.aload_n 0, 1) := by decide +kernel
theorem dX10_paidBy_27 : decode cX10_paidBy 27 = .ok (.getfield 29, 3) := by decide +kernel
theorem dX10_paidBy_30 : decode cX10_paidBy 30 = .ok (.bipush 10, 2) := by decide +kernel
theorem dX10_paidBy_32 : decode cX10_paidBy 32 = .ok (.iload 6, 2) := by decide +kernel
theorem dX10_paidBy_34 : decode cX10_paidBy 34 = .ok (.iadd, 1) := by decide +kernel
theorem dX10_paidBy_35 : decode cX10_paidBy 35 = .ok (.iaload, 1) := by decide +kernel
theorem dX10_paidBy_36 : decode cX10_paidBy 36 = .ok (.istore 7, 2) := by decide +kernel
theorem dX10_paidBy_38 : decode cX10_paidBy 38 = .ok (.iconst 0, 1) := by decide +kernel
theorem dX10_paidBy_39 : decode cX10_paidBy 39 = .ok (.istore 8, 2) := by decide +kernel
theorem dX10_paidBy_41 : decode cX10_paidBy 41 = .ok (.iload 8, 2) := by decide +kernel
theorem dX10_paidBy_43 : decode cX10_paidBy 43 = .ok (.iload_n 2, 1) := by decide +kernel
theorem dX10_paidBy_44 : decode cX10_paidBy 44 = .ok (.if_icmp .ge 18, 3) := by decide +kernel
theorem dX10_paidBy_47 : decode cX10_paidBy 47 = .ok (.iload 7, 2) := by decide +kernel
theorem dX10_paidBy_49 : decode cX10_paidBy 49 = .ok (.iload 4, 2) := by decide +kernel
theorem dX10_paidBy_51 : decode cX10_paidBy 51 = .ok (.invokestatic 241, 3) := by decide +kernel
theorem dX10_paidBy_54 : decode cX10_paidBy 54 = .ok (.istore 7, 2) := by decide +kernel
theorem dX10_paidBy_56 : decode cX10_paidBy 56 = .ok (.iinc 8 1, 3) := by decide +kernel
theorem dX10_paidBy_59 : decode cX10_paidBy 59 = .ok (.goto (-18), 3) := by decide +kernel
theorem dX10_paidBy_62 : decode cX10_paidBy 62 = .ok (.iload 5, 2) := by decide +kernel
theorem dX10_paidBy_64 : decode cX10_paidBy 64 = .ok (.aload_n 0, 1) := by decide +kernel
theorem dX10_paidBy_65 : decode cX10_paidBy 65 = .ok (.iload 6, 2) := by decide +kernel
theorem dX10_paidBy_67 : decode cX10_paidBy 67 = .ok (.iload 7, 2) := by decide +kernel
theorem dX10_paidBy_69 : decode cX10_paidBy 69 = .ok (.invokevirtual 207, 3) := by decide +kernel
theorem dX10_paidBy_72 : decode cX10_paidBy 72 = .ok (.aload_n 0, 1) := by decide +kernel
theorem dX10_paidBy_73 : decode cX10_paidBy 73 = .ok (.getfield 13, 3) := by decide +kernel
theorem dX10_paidBy_76 : decode cX10_paidBy 76 = .ok (.iconst 5, 1) := by decide +kernel
theorem dX10_paidBy_77 : decode cX10_paidBy 77 = .ok (.iload_n 1, 1) := by decide +kernel
theorem dX10_paidBy_78 : decode cX10_paidBy 78 = .ok (.imul, 1) := by decide +kernel
theorem dX10_paidBy_79 : decode cX10_paidBy 79 = .ok (.iconst 1, 1) := by decide +kernel
theorem dX10_paidBy_80 : decode cX10_paidBy 80 = .ok (.iadd, 1) := by decide +kernel
theorem dX10_paidBy_81 : decode cX10_paidBy 81 = .ok (.iaload, 1) := by decide +kernel
theorem dX10_paidBy_82 : decode cX10_paidBy 82 = .ok (.imul, 1) := by decide +kernel
theorem dX10_paidBy_83 : decode cX10_paidBy 83 = .ok (.iload_n 3, 1) := by decide +kernel
theorem dX10_paidBy_84 : decode cX10_paidBy 84 = .ok (.iload 4, 2) := by decide +kernel
theorem dX10_paidBy_86 : decode cX10_paidBy 86 = .ok (.imul, 1) := by decide +kernel
theorem dX10_paidBy_87 : decode cX10_paidBy 87 = .ok (.iload_n 2, 1) := by decide +kernel
theorem dX10_paidBy_88 : decode cX10_paidBy 88 = .ok (.imul, 1) := by decide +kernel
theorem dX10_paidBy_89 : decode cX10_paidBy 89 = .ok (.isub, 1) := by decide +kernel
theorem dX10_paidBy_90 : decode cX10_paidBy 90 = .ok (.iadd, 1) := by decide +kernel
theorem dX10_paidBy_91 : decode cX10_paidBy 91 = .ok (.istore 5, 2) := by decide +kernel
theorem dX10_paidBy_93 : decode cX10_paidBy 93 = .ok (.iinc 6 1, 3) := by decide +kernel
theorem dX10_paidBy_96 : decode cX10_paidBy 96 = .ok (.goto (-90), 3) := by decide +kernel
theorem dX10_paidBy_99 : decode cX10_paidBy 99 = .ok (.iload 5, 2) := by decide +kernel
theorem dX10_paidBy_101 : decode cX10_paidBy 101 = .ok (.ireturn, 1) := by decide +kernel
theorem dX10_pays_0 : decode cX10_pays 0 = .ok (.aload_n 0, 1) := by decide +kernel
theorem dX10_pays_1 : decode cX10_pays 1 = .ok (.iload_n 1, 1) := by decide +kernel
theorem dX10_pays_2 : decode cX10_pays 2 = .ok (.invokevirtual 203, 3) := by decide +kernel
theorem dX10_pays_5 : decode cX10_pays 5 = .ok (.ifCond .ne 6, 3) := by decide +kernel
theorem dX10_pays_8 : decode cX10_pays 8 = .ok (.bipush (-2), 2) := by decide +kernel
theorem dX10_pays_10 : decode cX10_pays 10 = .ok (.ireturn, 1) := by decide +kernel
theorem dX10_pays_11 : decode cX10_pays 11 = .ok (.iload_n 2, 1) := by decide +kernel
theorem dX10_pays_12 : decode cX10_pays 12 = .ok (.iconst 1, 1) := by decide +kernel
theorem dX10_pays_13 : decode cX10_pays 13 = .ok (.bipush 9, 2) := by decide +kernel
theorem dX10_pays_15 : decode cX10_pays 15 = .ok (.invokestatic 73, 3) := by decide +kernel
theorem dX10_pays_18 : decode cX10_pays 18 = .ok (.ifCond .eq 23, 3) := by decide +kernel
theorem dX10_pays_21 : decode cX10_pays 21 = .ok (.iload_n 3, 1) := by decide +kernel
theorem dX10_pays_22 : decode cX10_pays 22 = .ok (.iconst 0, 1) := by decide +kernel
theorem dX10_pays_23 : decode cX10_pays 23 = .ok (.bipush 99, 2) := by decide +kernel
theorem dX10_pays_25 : decode cX10_pays 25 = .ok (.invokestatic 73, 3) := by decide +kernel
theorem dX10_pays_28 : decode cX10_pays 28 = .ok (.ifCond .eq 13, 3) := by decide +kernel
theorem dX10_pays_31 : decode cX10_pays 31 = .ok (.iload 4, 2) := by decide +kernel
theorem dX10_pays_33 : decode cX10_pays 33 = .ok (.iconst 0, 1) := by decide +kernel
theorem dX10_pays_34 : decode cX10_pays 34 = .ok (.iconst 1, 1) := by decide +kernel
theorem dX10_pays_35 : decode cX10_pays 35 = .ok (.invokestatic 73, 3) := by decide +kernel
theorem dX10_pays_38 : decode cX10_pays 38 = .ok (.ifCond .ne 6, 3) := by decide +kernel
theorem dX10_pays_41 : decode cX10_pays 41 = .ok (.bipush (-3), 2) := by decide +kernel
theorem dX10_pays_43 : decode cX10_pays 43 = .ok (.ireturn, 1) := by decide +kernel
theorem dX10_pays_44 : decode cX10_pays 44 = .ok (.iconst 0, 1) := by decide +kernel
theorem dX10_pays_45 : decode cX10_pays 45 = .ok (.istore 5, 2) := by decide +kernel
theorem dX10_pays_47 : decode cX10_pays 47 = .ok (.iconst 1, 1) := by decide +kernel
theorem dX10_pays_48 : decode cX10_pays 48 = .ok (.istore 6, 2) := by decide +kernel
theorem dX10_pays_50 : decode cX10_pays 50 = .ok (.iload 6, 2) := by decide +kernel
theorem dX10_pays_52 : decode cX10_pays 52 = .ok (.iconst 4, 1) := by decide +kernel
theorem dX10_pays_53 : decode cX10_pays 53 = .ok (.if_icmp .ge 39, 3) := by decide +kernel
theorem dX10_pays_56 : decode cX10_pays 56 = .ok (.aload_n 0, 1) := by decide +kernel
theorem dX10_pays_57 : decode cX10_pays 57 = .ok (.iload_n 1, 1) := by decide +kernel
theorem dX10_pays_58 : decode cX10_pays 58 = .ok (.iload_n 2, 1) := by decide +kernel
theorem dX10_pays_59 : decode cX10_pays 59 = .ok (.iload_n 3, 1) := by decide +kernel
theorem dX10_pays_60 : decode cX10_pays 60 = .ok (.iload 6, 2) := by decide +kernel
theorem dX10_pays_62 : decode cX10_pays 62 = .ok (.invokevirtual 269, 3) := by decide +kernel
theorem dX10_pays_65 : decode cX10_pays 65 = .ok (.aload_n 0, 1) := by decide +kernel
theorem dX10_pays_66 : decode cX10_pays 66 = .ok (.iload_n 1, 1) := by decide +kernel
theorem dX10_pays_67 : decode cX10_pays 67 = .ok (.iload_n 2, 1) := by decide +kernel
theorem dX10_pays_68 : decode cX10_pays 68 = .ok (.iload_n 3, 1) := by decide +kernel
theorem dX10_pays_69 : decode cX10_pays 69 = .ok (.iload 5, 2) := by decide +kernel
theorem dX10_pays_71 : decode cX10_pays 71 = .ok (.invokevirtual 269, 3) := by decide +kernel
theorem dX10_pays_74 : decode cX10_pays 74 = .ok (.if_icmp .le 8, 3) := by decide +kernel
theorem dX10_pays_77 : decode cX10_pays 77 = .ok (.iload 6, 2) := by decide +kernel
theorem dX10_pays_79 : decode cX10_pays 79 = .ok (.goto 5, 3) := by decide +kernel
theorem dX10_pays_82 : decode cX10_pays 82 = .ok (.iload 5, 2) := by decide +kernel
theorem dX10_pays_84 : decode cX10_pays 84 = .ok (.istore 5, 2) := by decide +kernel
theorem dX10_pays_86 : decode cX10_pays 86 = .ok (.iinc 6 1, 3) := by decide +kernel
theorem dX10_pays_89 : decode cX10_pays 89 = .ok (.goto (-39), 3) := by decide +kernel
theorem dX10_pays_92 : decode cX10_pays 92 = .ok (.iload 4, 2) := by decide +kernel
theorem dX10_pays_94 : decode cX10_pays 94 = .ok (.ifCond .ne 8, 3) := by decide +kernel
theorem dX10_pays_97 : decode cX10_pays 97 = .ok (.iload 5, 2) := by decide +kernel
theorem dX10_pays_99 : decode cX10_pays 99 = .ok (.goto 15, 3) := by decide +kernel
theorem dX10_pays_102 : decode cX10_pays 102 = .ok (.aload_n 0, 1) := by decide +kernel
theorem dX10_pays_103 : decode cX10_pays 103 = .ok (.iload_n 1, 1) := by decide +kernel
theorem dX10_pays_104 : decode cX10_pays 104 = .ok (.iload_n 2, 1) := by decide +kernel
theorem dX10_pays_105 : decode cX10_pays 105 = .ok (.iload_n 3, 1) := by decide +kernel
theorem dX10_pays_106 : decode cX10_pays 106 = .ok (.iload 5, 2) := by decide +kernel
theorem dX10_pays_108 : decode cX10_pays 108 = .ok (.invokevirtual 269, 3) := by decide +kernel
theorem dX10_pays_111 : decode cX10_pays 111 = .ok (.ldc 206, 2) := by decide +kernel
theorem dX10_pays_113 : decode cX10_pays 113 = .ok (.iadd, 1) := by decide +kernel
theorem dX10_pays_114 : decode cX10_pays 114 = .ok (.ireturn, 1) := by decide +kernel
theorem dX10_gainers_0 : decode cX10_gainers 0 = .ok (.aload_n 0, 1) := by decide +kernel
theorem dX10_gainers_1 : decode cX10_gainers 1 = .ok (.iload_n 1, 1) := by decide +kernel
theorem dX10_gainers_2 : decode cX10_gainers 2 = .ok (.invokevirtual 203, 3) := by decide +kernel
theorem dX10_gainers_5 : decode cX10_gainers 5 = .ok (.ifCond .ne 6, 3) := by decide +kernel
theorem dX10_gainers_8 : decode cX10_gainers 8 = .ok (.bipush (-2), 2) := by decide +kernel
theorem dX10_gainers_10 : decode cX10_gainers 10 = .ok (.ireturn, 1) := by decide +kernel
theorem dX10_gainers_11 : decode cX10_gainers 11 = .ok (.iload_n 2, 1) := by decide +kernel
theorem dX10_gainers_12 : decode cX10_gainers 12 = .ok (.iconst 1, 1) := by decide +kernel
theorem dX10_gainers_13 : decode cX10_gainers 13 = .ok (.bipush 9, 2) := by decide +kernel
theorem dX10_gainers_15 : decode cX10_gainers 15 = .ok (.invokestatic 73, 3) := by decide +kernel
theorem dX10_gainers_18 : decode cX10_gainers 18 = .ok (.ifCond .eq 13, 3) := by decide +kernel
theorem dX10_gainers_21 : decode cX10_gainers 21 = .ok (.iload_n 3, 1) := by decide +kernel
theorem dX10_gainers_22 : decode cX10_gainers 22 = .ok (.iconst 1, 1) := by decide +kernel
theorem dX10_gainers_23 : decode cX10_gainers 23 = .ok (.bipush 99, 2) := by decide +kernel
theorem dX10_gainers_25 : decode cX10_gainers 25 = .ok (.invokestatic 73, 3) := by decide +kernel
theorem dX10_gainers_28 : decode cX10_gainers 28 = .ok (.ifCond .ne 6, 3) := by decide +kernel
theorem dX10_gainers_31 : decode cX10_gainers 31 = .ok (.bipush (-3), 2) := by decide +kernel
theorem dX10_gainers_33 : decode cX10_gainers 33 = .ok (.ireturn, 1) := by decide +kernel
theorem dX10_gainers_34 : decode cX10_gainers 34 = .ok (.aload_n 0, 1) := by decide +kernel
theorem dX10_gainers_35 : decode cX10_gainers 35 = .ok (.iload_n 3, 1) := by decide +kernel
theorem dX10_gainers_36 : decode cX10_gainers 36 = .ok (.invokevirtual 263, 3) := by decide +kernel
theorem dX10_gainers_39 : decode cX10_gainers 39 = .ok (.iconst 0, 1) := by decide +kernel
theorem dX10_gainers_40 : decode cX10_gainers 40 = .ok (.istore 4, 2) := by decide +kernel
theorem dX10_gainers_42 : decode cX10_gainers 42 = .ok (.iload 4, 2) := by decide +kernel
theorem dX10_gainers_44 : decode cX10_gainers 44 = .ok (.aload_n 0, 1) := by decide +kernel
theorem dX10_gainers_45 : decode cX10_gainers 45 = .ok (.getfield 7, 3) := by decide +kernel
theorem dX10_gainers_48 : decode cX10_gainers 48 = .ok (.if_icmp .ge 26, 3) := by decide +kernel
theorem dX10_gainers_51 : decode cX10_gainers 51 = .ok (.aload_n 0, 1) := by decide +kernel
theorem dX10_gainers_52 : decode cX10_gainers 52 = .ok (.getfield 60, 3) := by decide +kernel
theorem dX10_gainers_55 : decode cX10_gainers 55 = .ok (.iload 4, 2) := by decide +kernel
theorem dX10_gainers_57 : decode cX10_gainers 57 = .ok (.aload_n 0, 1) := by decide +kernel
theorem dX10_gainers_58 : decode cX10_gainers 58 = .ok (.getfield 29, 3) := by decide +kernel
theorem dX10_gainers_61 : decode cX10_gainers 61 = .ok (.bipush 40, 2) := by decide +kernel
theorem dX10_gainers_63 : decode cX10_gainers 63 = .ok (.iload 4, 2) := by decide +kernel
theorem dX10_gainers_65 : decode cX10_gainers 65 = .ok (.iadd, 1) := by decide +kernel
theorem dX10_gainers_66 : decode cX10_gainers 66 = .ok (.iaload, 1) := by decide +kernel
theorem dX10_gainers_67 : decode cX10_gainers 67 = .ok (.iastore, 1) := by decide +kernel
theorem dX10_gainers_68 : decode cX10_gainers 68 = .ok (.iinc 4 1, 3) := by decide +kernel
theorem dX10_gainers_71 : decode cX10_gainers 71 = .ok (.goto (-29), 3) := by decide +kernel
theorem dX10_gainers_74 : decode cX10_gainers 74 = .ok (.aload_n 0, 1) := by decide +kernel
theorem dX10_gainers_75 : decode cX10_gainers 75 = .ok (.invokevirtual 266, 3) := by decide +kernel
theorem dX10_gainers_78 : decode cX10_gainers 78 = .ok (.aload_n 0, 1) := by decide +kernel
theorem dX10_gainers_79 : decode cX10_gainers 79 = .ok (.getfield 13, 3) := by decide +kernel
theorem dX10_gainers_82 : decode cX10_gainers 82 = .ok (.iconst 5, 1) := by decide +kernel
theorem dX10_gainers_83 : decode cX10_gainers 83 = .ok (.iload_n 1, 1) := by decide +kernel
theorem dX10_gainers_84 : decode cX10_gainers 84 = .ok (.imul, 1) := by decide +kernel
theorem dX10_gainers_85 : decode cX10_gainers 85 = .ok (.iconst 1, 1) := by decide +kernel
theorem dX10_gainers_86 : decode cX10_gainers 86 = .ok (.iadd, 1) := by decide +kernel
theorem dX10_gainers_87 : decode cX10_gainers 87 = .ok (.iaload, 1) := by decide +kernel
theorem dX10_gainers_88 : decode cX10_gainers 88 = .ok (.istore 4, 2) := by decide +kernel
theorem dX10_gainers_90 : decode cX10_gainers 90 = .ok (.aload_n 0, 1) := by decide +kernel
theorem dX10_gainers_91 : decode cX10_gainers 91 = .ok (.getfield 13, 3) := by decide +kernel
theorem dX10_gainers_94 : decode cX10_gainers 94 = .ok (.iconst 5, 1) := by decide +kernel
theorem dX10_gainers_95 : decode cX10_gainers 95 = .ok (.iload_n 1, 1) := by decide +kernel
theorem dX10_gainers_96 : decode cX10_gainers 96 = .ok (.imul, 1) := by decide +kernel
theorem dX10_gainers_97 : decode cX10_gainers 97 = .ok (.iconst 1, 1) := by decide +kernel
theorem dX10_gainers_98 : decode cX10_gainers 98 = .ok (.iadd, 1) := by decide +kernel
theorem dX10_gainers_99 : decode cX10_gainers 99 = .ok (.iload_n 2, 1) := by decide +kernel
theorem dX10_gainers_100 : decode cX10_gainers 100 = .ok (.iastore, 1) := by decide +kernel
theorem dX10_gainers_101 : decode cX10_gainers 101 = .ok (.aload_n 0, 1) := by decide +kernel
theorem dX10_gainers_102 : decode cX10_gainers 102 = .ok (.iload_n 3, 1) := by decide +kernel
theorem dX10_gainers_103 : decode cX10_gainers 103 = .ok (.invokevirtual 263, 3) := by decide +kernel
theorem dX10_gainers_106 : decode cX10_gainers 106 = .ok (.iconst 0, 1) := by decide +kernel
theorem dX10_gainers_107 : decode cX10_gainers 107 = .ok (.istore 5, 2) := by decide +kernel
theorem dX10_gainers_109 : decode cX10_gainers 109 = .ok (.iconst 0, 1) := by decide +kernel
theorem dX10_gainers_110 : decode cX10_gainers 110 = .ok (.istore 6, 2) := by decide +kernel
theorem dX10_gainers_112 : decode cX10_gainers 112 = .ok (.iload 6, 2) := by decide +kernel
theorem dX10_gainers_114 : decode cX10_gainers 114 = .ok (.aload_n 0, 1) := by decide +kernel
theorem dX10_gainers_115 : decode cX10_gainers 115 = .ok (.getfield 7, 3) := by decide +kernel
theorem dX10_gainers_118 : decode cX10_gainers 118 = .ok (.if_icmp .ge 42, 3) := by decide +kernel
theorem dX10_gainers_121 : decode cX10_gainers 121 = .ok (.iload 5, 2) := by decide +kernel
theorem dX10_gainers_123 : decode cX10_gainers 123 = .ok (.aload_n 0, 1) := by decide +kernel
theorem dX10_gainers_124 : decode cX10_gainers 124 = .ok (.getfield 29, 3) := by decide +kernel
theorem dX10_gainers_127 : decode cX10_gainers 127 = .ok (.bipush 40, 2) := by decide +kernel
theorem dX10_gainers_129 : decode cX10_gainers 129 = .ok (.iload 6, 2) := by decide +kernel
theorem dX10_gainers_131 : decode cX10_gainers 131 = .ok (.iadd, 1) := by decide +kernel
theorem dX10_gainers_132 : decode cX10_gainers 132 = .ok (.iaload, 1) := by decide +kernel
theorem dX10_gainers_133 : decode cX10_gainers 133 = .ok (.aload_n 0, 1) := by decide +kernel
theorem dX10_gainers_134 : decode cX10_gainers 134 = .ok (.getfield 60, 3) := by decide +kernel
theorem dX10_gainers_137 : decode cX10_gainers 137 = .ok (.iload 6, 2) := by decide +kernel
theorem dX10_gainers_139 : decode cX10_gainers 139 = .ok (.iaload, 1) := by decide +kernel
theorem dX10_gainers_140 : decode cX10_gainers 140 = .ok (.if_icmp .ge 10, 3) := by decide +kernel
theorem dX10_gainers_143 : decode cX10_gainers 143 = .ok (.iconst 1, 1) := by decide +kernel
theorem dX10_gainers_144 : decode cX10_gainers 144 = .ok (.iload 6, 2) := by decide +kernel
theorem dX10_gainers_146 : decode cX10_gainers 146 = .ok (.ishl, 1) := by decide +kernel
theorem dX10_gainers_147 : decode cX10_gainers 147 = .ok (.goto 4, 3) := by decide +kernel
theorem dX10_gainers_150 : decode cX10_gainers 150 = .ok (.iconst 0, 1) := by decide +kernel
theorem dX10_gainers_151 : decode cX10_gainers 151 = .ok (.ior, 1) := by decide +kernel
theorem dX10_gainers_152 : decode cX10_gainers 152 = .ok (.istore 5, 2) := by decide +kernel
theorem dX10_gainers_154 : decode cX10_gainers 154 = .ok (.iinc 6 1, 3) := by decide +kernel
theorem dX10_gainers_157 : decode cX10_gainers 157 = .ok (.goto (-45), 3) := by decide +kernel
theorem dX10_gainers_160 : decode cX10_gainers 160 = .ok (.aload_n 0, 1) := by decide +kernel
theorem dX10_gainers_161 : decode cX10_gainers 161 = .ok (.invokevirtual 266, 3) := by decide +kernel
theorem dX10_gainers_164 : decode cX10_gainers 164 = .ok (.aload_n 0, 1) := by decide +kernel
theorem dX10_gainers_165 : decode cX10_gainers 165 = .ok (.getfield 13, 3) := by decide +kernel
theorem dX10_gainers_168 : decode cX10_gainers 168 = .ok (.iconst 5, 1) := by decide +kernel
theorem dX10_gainers_169 : decode cX10_gainers 169 = .ok (.iload_n 1, 1) := by decide +kernel
theorem dX10_gainers_170 : decode cX10_gainers 170 = .ok (.imul, 1) := by decide +kernel
theorem dX10_gainers_171 : decode cX10_gainers 171 = .ok (.iconst 1, 1) := by decide +kernel
theorem dX10_gainers_172 : decode cX10_gainers 172 = .ok (.iadd, 1) := by decide +kernel
theorem dX10_gainers_173 : decode cX10_gainers 173 = .ok (.iload 4, 2) := by decide +kernel
theorem dX10_gainers_175 : decode cX10_gainers 175 = .ok (.iastore, 1) := by decide +kernel
theorem dX10_gainers_176 : decode cX10_gainers 176 = .ok (.iload 5, 2) := by decide +kernel
theorem dX10_gainers_178 : decode cX10_gainers 178 = .ok (.ireturn, 1) := by decide +kernel
theorem dX10_weigh_0 : decode cX10_weigh 0 = .ok (.aload_n 0, 1) := by decide +kernel
theorem dX10_weigh_1 : decode cX10_weigh 1 = .ok (.iload_n 1, 1) := by decide +kernel
theorem dX10_weigh_2 : decode cX10_weigh 2 = .ok (.invokevirtual 203, 3) := by decide +kernel
theorem dX10_weigh_5 : decode cX10_weigh 5 = .ok (.ifCond .eq 11, 3) := by decide +kernel
theorem dX10_weigh_8 : decode cX10_weigh 8 = .ok (.aload_n 0, 1) := by decide +kernel
theorem dX10_weigh_9 : decode cX10_weigh 9 = .ok (.iload_n 2, 1) := by decide +kernel
theorem dX10_weigh_10 : decode cX10_weigh 10 = .ok (.invokevirtual 211, 3) := by decide +kernel
theorem dX10_weigh_13 : decode cX10_weigh 13 = .ok (.ifCond .ne 6, 3) := by decide +kernel
theorem dX10_weigh_16 : decode cX10_weigh 16 = .ok (.bipush (-2), 2) := by decide +kernel
theorem dX10_weigh_18 : decode cX10_weigh 18 = .ok (.ireturn, 1) := by decide +kernel
theorem dX10_weigh_19 : decode cX10_weigh 19 = .ok (.iload_n 3, 1) := by decide +kernel
theorem dX10_weigh_20 : decode cX10_weigh 20 = .ok (.iconst 0, 1) := by decide +kernel
theorem dX10_weigh_21 : decode cX10_weigh 21 = .ok (.sipush 199, 3) := by decide +kernel
theorem dX10_weigh_24 : decode cX10_weigh 24 = .ok (.invokestatic 73, 3) := by decide +kernel
theorem dX10_weigh_27 : decode cX10_weigh 27 = .ok (.ifCond .ne 6, 3) := by decide +kernel
theorem dX10_weigh_30 : decode cX10_weigh 30 = .ok (.bipush (-3), 2) := by decide +kernel
theorem dX10_weigh_32 : decode cX10_weigh 32 = .ok (.ireturn, 1) := by decide +kernel
theorem dX10_weigh_33 : decode cX10_weigh 33 = .ok (.aload_n 0, 1) := by decide +kernel
theorem dX10_weigh_34 : decode cX10_weigh 34 = .ok (.getfield 197, 3) := by decide +kernel
theorem dX10_weigh_37 : decode cX10_weigh 37 = .ok (.bipush 12, 2) := by decide +kernel
theorem dX10_weigh_39 : decode cX10_weigh 39 = .ok (.if_icmp .ne 6, 3) := by decide +kernel
theorem dX10_weigh_42 : decode cX10_weigh 42 = .ok (.bipush (-5), 2) := by decide +kernel
theorem dX10_weigh_44 : decode cX10_weigh 44 = .ok (.ireturn, 1) := by decide +kernel
theorem dX10_weigh_45 : decode cX10_weigh 45 = .ok (.aload_n 0, 1) := by decide +kernel
theorem dX10_weigh_46 : decode cX10_weigh 46 = .ok (.getfield 45, 3) := by decide +kernel
theorem dX10_weigh_49 : decode cX10_weigh 49 = .ok (.iconst 3, 1) := by decide +kernel
theorem dX10_weigh_50 : decode cX10_weigh 50 = .ok (.aload_n 0, 1) := by decide +kernel
theorem dX10_weigh_51 : decode cX10_weigh 51 = .ok (.getfield 197, 3) := by decide +kernel
theorem dX10_weigh_54 : decode cX10_weigh 54 = .ok (.imul, 1) := by decide +kernel
theorem dX10_weigh_55 : decode cX10_weigh 55 = .ok (.iload_n 1, 1) := by decide +kernel
theorem dX10_weigh_56 : decode cX10_weigh 56 = .ok (.iastore, 1) := by decide +kernel
theorem dX10_weigh_57 : decode cX10_weigh 57 = .ok (.aload_n 0, 1) := by decide +kernel
theorem dX10_weigh_58 : decode cX10_weigh 58 = .ok (.getfield 45, 3) := by decide +kernel
theorem dX10_weigh_61 : decode cX10_weigh 61 = .ok (.iconst 3, 1) := by decide +kernel
theorem dX10_weigh_62 : decode cX10_weigh 62 = .ok (.aload_n 0, 1) := by decide +kernel
theorem dX10_weigh_63 : decode cX10_weigh 63 = .ok (.getfield 197, 3) := by decide +kernel
theorem dX10_weigh_66 : decode cX10_weigh 66 = .ok (.imul, 1) := by decide +kernel
theorem dX10_weigh_67 : decode cX10_weigh 67 = .ok (.iconst 1, 1) := by decide +kernel
theorem dX10_weigh_68 : decode cX10_weigh 68 = .ok (.iadd, 1) := by decide +kernel
theorem dX10_weigh_69 : decode cX10_weigh 69 = .ok (.iload_n 2, 1) := by decide +kernel
theorem dX10_weigh_70 : decode cX10_weigh 70 = .ok (.iastore, 1) := by decide +kernel
theorem dX10_weigh_71 : decode cX10_weigh 71 = .ok (.aload_n 0, 1) := by decide +kernel
theorem dX10_weigh_72 : decode cX10_weigh 72 = .ok (.getfield 45, 3) := by decide +kernel
theorem dX10_weigh_75 : decode cX10_weigh 75 = .ok (.iconst 3, 1) := by decide +kernel
theorem dX10_weigh_76 : decode cX10_weigh 76 = .ok (.aload_n 0, 1) := by decide +kernel
theorem dX10_weigh_77 : decode cX10_weigh 77 = .ok (.getfield 197, 3) := by decide +kernel
theorem dX10_weigh_80 : decode cX10_weigh 80 = .ok (.imul, 1) := by decide +kernel
theorem dX10_weigh_81 : decode cX10_weigh 81 = .ok (.iconst 2, 1) := by decide +kernel
theorem dX10_weigh_82 : decode cX10_weigh 82 = .ok (.iadd, 1) := by decide +kernel
theorem dX10_weigh_83 : decode cX10_weigh 83 = .ok (.iload_n 3, 1) := by decide +kernel
theorem dX10_weigh_84 : decode cX10_weigh 84 = .ok (.iastore, 1) := by decide +kernel
theorem dX10_weigh_85 : decode cX10_weigh 85 = .ok (.aload_n 0, 1) := by decide +kernel
theorem dX10_weigh_86 : decode cX10_weigh 86 = .ok (.dup, 1) := by decide +kernel
theorem dX10_weigh_87 : decode cX10_weigh 87 = .ok (.getfield 197, 3) := by decide +kernel
theorem dX10_weigh_90 : decode cX10_weigh 90 = .ok (.iconst 1, 1) := by decide +kernel
theorem dX10_weigh_91 : decode cX10_weigh 91 = .ok (.iadd, 1) := by decide +kernel
theorem dX10_weigh_92 : decode cX10_weigh 92 = .ok (.putfield 197, 3) := by decide +kernel
theorem dX10_weigh_95 : decode cX10_weigh 95 = .ok (.aload_n 0, 1) := by decide +kernel
theorem dX10_weigh_96 : decode cX10_weigh 96 = .ok (.getfield 197, 3) := by decide +kernel
theorem dX10_weigh_99 : decode cX10_weigh 99 = .ok (.ireturn, 1) := by decide +kernel
theorem dX10_forget_0 : decode cX10_forget 0 = .ok (.aload_n 0, 1) := by decide +kernel
theorem dX10_forget_1 : decode cX10_forget 1 = .ok (.getfield 197, 3) := by decide +kernel
theorem dX10_forget_4 : decode cX10_forget 4 = .ok (.istore_n 1, 1) := by decide +kernel
theorem dX10_forget_5 : decode cX10_forget 5 = .ok (.aload_n 0, 1) := by decide +kernel
theorem dX10_forget_6 : decode cX10_forget 6 = .ok (.iconst 0, 1) := by decide +kernel
theorem dX10_forget_7 : decode cX10_forget 7 = .ok (.putfield 197, 3) := by decide +kernel
theorem dX10_forget_10 : decode cX10_forget 10 = .ok (.iload_n 1, 1) := by decide +kernel
theorem dX10_forget_11 : decode cX10_forget 11 = .ok (.ireturn, 1) := by decide +kernel
theorem dX10_canShow_0 : decode cX10_canShow 0 = .ok (.iconst 1, 1) := by decide +kernel
theorem dX10_canShow_1 : decode cX10_canShow 1 = .ok (.istore_n 3, 1) := by decide +kernel
theorem dX10_canShow_2 : decode cX10_canShow 2 = .ok (.iconst 0, 1) := by decide +kernel
theorem dX10_canShow_3 : decode cX10_canShow 3 = .ok (.istore 4, 2) := by decide +kernel
theorem dX10_canShow_5 : decode cX10_canShow 5 = .ok (.iload 4, 2) := by decide +kernel
theorem dX10_canShow_7 : decode cX10_canShow 7 = .ok (.aload_n 0, 1) := by decide +kernel
theorem dX10_canShow_8 : decode cX10_canShow 8 = .ok (.getfield 197, 3) := by decide +kernel
theorem dX10_canShow_11 : decode cX10_canShow 11 = .ok (.if_icmp .ge 131, 3) := by decide +kernel
theorem dX10_canShow_14 : decode cX10_canShow 14 = .ok (.iconst 0, 1) := by decide +kernel
theorem dX10_canShow_15 : decode cX10_canShow 15 = .ok (.istore 5, 2) := by decide +kernel
theorem dX10_canShow_17 : decode cX10_canShow 17 = .ok (.iload 5, 2) := by decide +kernel
theorem dX10_canShow_19 : decode cX10_canShow 19 = .ok (.iload 4, 2) := by decide +kernel
theorem dX10_canShow_21 : decode cX10_canShow 21 = .ok (.if_icmp .ge 115, 3) := by decide +kernel
theorem dX10_canShow_24 : decode cX10_canShow 24 = .ok (.aload_n 0, 1) := by decide +kernel
theorem dX10_canShow_25 : decode cX10_canShow 25 = .ok (.getfield 45, 3) := by decide +kernel
theorem dX10_canShow_28 : decode cX10_canShow 28 = .ok (.iconst 3, 1) := by decide +kernel
theorem dX10_canShow_29 : decode cX10_canShow 29 = .ok (.iload 4, 2) := by decide +kernel
theorem dX10_canShow_31 : decode cX10_canShow 31 = .ok (.imul, 1) := by decide +kernel
theorem dX10_canShow_32 : decode cX10_canShow 32 = .ok (.iconst 2, 1) := by decide +kernel
theorem dX10_canShow_33 : decode cX10_canShow 33 = .ok (.iadd, 1) := by decide +kernel
theorem dX10_canShow_34 : decode cX10_canShow 34 = .ok (.iaload, 1) := by decide +kernel
theorem dX10_canShow_35 : decode cX10_canShow 35 = .ok (.aload_n 0, 1) := by decide +kernel
theorem dX10_canShow_36 : decode cX10_canShow 36 = .ok (.getfield 45, 3) := by decide +kernel
theorem dX10_canShow_39 : decode cX10_canShow 39 = .ok (.iconst 3, 1) := by decide +kernel
theorem dX10_canShow_40 : decode cX10_canShow 40 = .ok (.iload 4, 2) := by decide +kernel
theorem dX10_canShow_42 : decode cX10_canShow 42 = .ok (.imul, 1) := by decide +kernel
theorem dX10_canShow_43 : decode cX10_canShow 43 = .ok (.iaload, 1) := by decide +kernel
theorem dX10_canShow_44 : decode cX10_canShow 44 = .ok (.iload_n 1, 1) := by decide +kernel
theorem dX10_canShow_45 : decode cX10_canShow 45 = .ok (.if_icmp .ne 7, 3) := by decide +kernel
theorem dX10_canShow_48 : decode cX10_canShow 48 = .ok (.iload_n 2, 1) := by decide +kernel
theorem dX10_canShow_49 : decode cX10_canShow 49 = .ok (.goto 4, 3) := by decide +kernel
theorem dX10_canShow_52 : decode cX10_canShow 52 = .ok (.iconst 0, 1) := by decide +kernel
theorem dX10_canShow_53 : decode cX10_canShow 53 = .ok (.isub, 1) := by decide +kernel
theorem dX10_canShow_54 : decode cX10_canShow 54 = .ok (.istore 6, 2) := by decide +kernel
theorem dX10_canShow_56 : decode cX10_canShow 56 = .ok (.aload_n 0, 1) := by decide +kernel
theorem dX10_canShow_57 : decode cX10_canShow 57 = .ok (.getfield 45, 3) := by decide +kernel
theorem dX10_canShow_60 : decode cX10_canShow 60 = .ok (.iconst 3, 1) := by decide +kernel
theorem dX10_canShow_61 : decode cX10_canShow 61 = .ok (.iload 5, 2) := by decide +kernel
theorem dX10_canShow_63 : decode cX10_canShow 63 = .ok (.imul, 1) := by decide +kernel
theorem dX10_canShow_64 : decode cX10_canShow 64 = .ok (.iconst 2, 1) := by decide +kernel
theorem dX10_canShow_65 : decode cX10_canShow 65 = .ok (.iadd, 1) := by decide +kernel
theorem dX10_canShow_66 : decode cX10_canShow 66 = .ok (.iaload, 1) := by decide +kernel
theorem dX10_canShow_67 : decode cX10_canShow 67 = .ok (.aload_n 0, 1) := by decide +kernel
theorem dX10_canShow_68 : decode cX10_canShow 68 = .ok (.getfield 45, 3) := by decide +kernel
theorem dX10_canShow_71 : decode cX10_canShow 71 = .ok (.iconst 3, 1) := by decide +kernel
theorem dX10_canShow_72 : decode cX10_canShow 72 = .ok (.iload 5, 2) := by decide +kernel
theorem dX10_canShow_74 : decode cX10_canShow 74 = .ok (.imul, 1) := by decide +kernel
theorem dX10_canShow_75 : decode cX10_canShow 75 = .ok (.iaload, 1) := by decide +kernel
theorem dX10_canShow_76 : decode cX10_canShow 76 = .ok (.iload_n 1, 1) := by decide +kernel
theorem dX10_canShow_77 : decode cX10_canShow 77 = .ok (.if_icmp .ne 7, 3) := by decide +kernel
theorem dX10_canShow_80 : decode cX10_canShow 80 = .ok (.iload_n 2, 1) := by decide +kernel
theorem dX10_canShow_81 : decode cX10_canShow 81 = .ok (.goto 4, 3) := by decide +kernel
theorem dX10_canShow_84 : decode cX10_canShow 84 = .ok (.iconst 0, 1) := by decide +kernel
theorem dX10_canShow_85 : decode cX10_canShow 85 = .ok (.isub, 1) := by decide +kernel
theorem dX10_canShow_86 : decode cX10_canShow 86 = .ok (.istore 7, 2) := by decide +kernel
theorem dX10_canShow_88 : decode cX10_canShow 88 = .ok (.iload_n 3, 1) := by decide +kernel
theorem dX10_canShow_89 : decode cX10_canShow 89 = .ok (.ifCond .eq 39, 3) := by decide +kernel
theorem dX10_canShow_92 : decode cX10_canShow 92 = .ok (.aload_n 0, 1) := by decide +kernel
theorem dX10_canShow_93 : decode cX10_canShow 93 = .ok (.getfield 45, 3) := by decide +kernel
theorem dX10_canShow_96 : decode cX10_canShow 96 = .ok (.iconst 3, 1) := by decide +kernel
theorem dX10_canShow_97 : decode cX10_canShow 97 = .ok (.iload 4, 2) := by decide +kernel
theorem dX10_canShow_99 : decode cX10_canShow 99 = .ok (.imul, 1) := by decide +kernel
theorem dX10_canShow_100 : decode cX10_canShow 100 = .ok (.iconst 1, 1) := by decide +kernel
theorem dX10_canShow_101 : decode cX10_canShow 101 = .ok (.iadd, 1) := by decide +kernel
theorem dX10_canShow_102 : decode cX10_canShow 102 = .ok (.iaload, 1) := by decide +kernel
theorem dX10_canShow_103 : decode cX10_canShow 103 = .ok (.aload_n 0, 1) := by decide +kernel
theorem dX10_canShow_104 : decode cX10_canShow 104 = .ok (.getfield 45, 3) := by decide +kernel
theorem dX10_canShow_107 : decode cX10_canShow 107 = .ok (.iconst 3, 1) := by decide +kernel
theorem dX10_canShow_108 : decode cX10_canShow 108 = .ok (.iload 5, 2) := by decide +kernel
theorem dX10_canShow_110 : decode cX10_canShow 110 = .ok (.imul, 1) := by decide +kernel
theorem dX10_canShow_111 : decode cX10_canShow 111 = .ok (.iconst 1, 1) := by decide +kernel
theorem dX10_canShow_112 : decode cX10_canShow 112 = .ok (.iadd, 1) := by decide +kernel
theorem dX10_canShow_113 : decode cX10_canShow 113 = .ok (.iaload, 1) := by decide +kernel
theorem dX10_canShow_114 : decode cX10_canShow 114 = .ok (.if_icmp .ne 10, 3) := by decide +kernel
theorem dX10_canShow_117 : decode cX10_canShow 117 = .ok (.iload 6, 2) := by decide +kernel
theorem dX10_canShow_119 : decode cX10_canShow 119 = .ok (.iload 7, 2) := by decide +kernel
theorem dX10_canShow_121 : decode cX10_canShow 121 = .ok (.if_icmp .ne 7, 3) := by decide +kernel
theorem dX10_canShow_124 : decode cX10_canShow 124 = .ok (.iconst 1, 1) := by decide +kernel
theorem dX10_canShow_125 : decode cX10_canShow 125 = .ok (.goto 4, 3) := by decide +kernel
theorem dX10_canShow_128 : decode cX10_canShow 128 = .ok (.iconst 0, 1) := by decide +kernel
theorem dX10_canShow_129 : decode cX10_canShow 129 = .ok (.istore_n 3, 1) := by decide +kernel
theorem dX10_canShow_130 : decode cX10_canShow 130 = .ok (.iinc 5 1, 3) := by decide +kernel
theorem dX10_canShow_133 : decode cX10_canShow 133 = .ok (.goto (-116), 3) := by decide +kernel
theorem dX10_canShow_136 : decode cX10_canShow 136 = .ok (.iinc 4 1, 3) := by decide +kernel
theorem dX10_canShow_139 : decode cX10_canShow 139 = .ok (.goto (-134), 3) := by decide +kernel
theorem dX10_canShow_142 : decode cX10_canShow 142 = .ok (.iload_n 3, 1) := by decide +kernel
theorem dX10_canShow_143 : decode cX10_canShow 143 = .ok (.ireturn, 1) := by decide +kernel
theorem dX10_scales_0 : decode cX10_scales 0 = .ok (.iload_n 1, 1) := by decide +kernel
theorem dX10_scales_1 : decode cX10_scales 1 = .ok (.iconst 0, 1) := by decide +kernel
theorem dX10_scales_2 : decode cX10_scales 2 = .ok (.iconst 1, 1) := by decide +kernel
theorem dX10_scales_3 : decode cX10_scales 3 = .ok (.invokestatic 73, 3) := by decide +kernel
theorem dX10_scales_6 : decode cX10_scales 6 = .ok (.ifCond .ne 6, 3) := by decide +kernel
theorem dX10_scales_9 : decode cX10_scales 9 = .ok (.bipush (-3), 2) := by decide +kernel
theorem dX10_scales_11 : decode cX10_scales 11 = .ok (.ireturn, 1) := by decide +kernel
theorem dX10_scales_12 : decode cX10_scales 12 = .ok (.iload_n 1, 1) := by decide +kernel
theorem dX10_scales_13 : decode cX10_scales 13 = .ok (.iconst 1, 1) := by decide +kernel
theorem dX10_scales_14 : decode cX10_scales 14 = .ok (.if_icmp .ne 18, 3) := by decide +kernel
theorem dX10_scales_17 : decode cX10_scales 17 = .ok (.aload_n 0, 1) := by decide +kernel
theorem dX10_scales_18 : decode cX10_scales 18 = .ok (.iconst (-1), 1) := by decide +kernel
theorem dX10_scales_19 : decode cX10_scales 19 = .ok (.iconst 0, 1) := by decide +kernel
theorem dX10_scales_20 : decode cX10_scales 20 = .ok (.invokevirtual 273, 3) := by decide +kernel
theorem dX10_scales_23 : decode cX10_scales 23 = .ok (.ifCond .eq 7, 3) := by decide +kernel
theorem dX10_scales_26 : decode cX10_scales 26 = .ok (.iconst 1, 1) := by decide +kernel
theorem dX10_scales_27 : decode cX10_scales 27 = .ok (.goto 4, 3) := by decide +kernel
theorem dX10_scales_30 : decode cX10_scales 30 = .ok (.iconst 0, 1) := by decide +kernel
theorem dX10_scales_31 : decode cX10_scales 31 = .ok (.ireturn, 1) := by decide +kernel
theorem dX10_scales_32 : decode cX10_scales 32 = .ok (.iconst 0, 1) := by decide +kernel
theorem dX10_scales_33 : decode cX10_scales 33 = .ok (.istore_n 2, 1) := by decide +kernel
theorem dX10_scales_34 : decode cX10_scales 34 = .ok (.iconst 0, 1) := by decide +kernel
theorem dX10_scales_35 : decode cX10_scales 35 = .ok (.istore_n 3, 1) := by decide +kernel
theorem dX10_scales_36 : decode cX10_scales 36 = .ok (.iload_n 3, 1) := by decide +kernel
theorem dX10_scales_37 : decode cX10_scales 37 = .ok (.aload_n 0, 1) := by decide +kernel
theorem dX10_scales_38 : decode cX10_scales 38 = .ok (.getfield 7, 3) := by decide +kernel
theorem dX10_scales_41 : decode cX10_scales 41 = .ok (.if_icmp .ge 73, 3) := by decide +kernel
theorem dX10_scales_44 : decode cX10_scales 44 = .ok (.iconst 0, 1) := by decide +kernel
theorem dX10_scales_45 : decode cX10_scales 45 = .ok (.istore 4, 2) := by decide +kernel
theorem dX10_scales_47 : decode cX10_scales 47 = .ok (.sipush (-200), 3) := by decide +kernel
theorem dX10_scales_50 : decode cX10_scales 50 = .ok (.istore 5, 2) := by decide +kernel
theorem dX10_scales_52 : decode cX10_scales 52 = .ok (.iload 5, 2) := by decide +kernel
theorem dX10_scales_54 : decode cX10_scales 54 = .ok (.sipush 201, 3) := by decide +kernel
theorem dX10_scales_57 : decode cX10_scales 57 = .ok (.if_icmp .ge 36, 3) := by decide +kernel
theorem dX10_scales_60 : decode cX10_scales 60 = .ok (.iload 4, 2) := by decide +kernel
theorem dX10_scales_62 : decode cX10_scales 62 = .ok (.ifCond .ne 18, 3) := by decide +kernel
theorem dX10_scales_65 : decode cX10_scales 65 = .ok (.iload 5, 2) := by decide +kernel
theorem dX10_scales_67 : decode cX10_scales 67 = .ok (.ifCond .eq 17, 3) := by decide +kernel
theorem dX10_scales_70 : decode cX10_scales 70 = .ok (.aload_n 0, 1) := by decide +kernel
theorem dX10_scales_71 : decode cX10_scales 71 = .ok (.iload_n 3, 1) := by decide +kernel
theorem dX10_scales_72 : decode cX10_scales 72 = .ok (.iload 5, 2) := by decide +kernel
theorem dX10_scales_74 : decode cX10_scales 74 = .ok (.invokevirtual 273, 3) := by decide +kernel
theorem dX10_scales_77 : decode cX10_scales 77 = .ok (.ifCond .eq 7, 3) := by decide +kernel
theorem dX10_scales_80 : decode cX10_scales 80 = .ok (.iconst 1, 1) := by decide +kernel
theorem dX10_scales_81 : decode cX10_scales 81 = .ok (.goto 4, 3) := by decide +kernel
theorem dX10_scales_84 : decode cX10_scales 84 = .ok (.iconst 0, 1) := by decide +kernel
theorem dX10_scales_85 : decode cX10_scales 85 = .ok (.istore 4, 2) := by decide +kernel
theorem dX10_scales_87 : decode cX10_scales 87 = .ok (.iinc 5 1, 3) := by decide +kernel
theorem dX10_scales_90 : decode cX10_scales 90 = .ok (.goto (-38), 3) := by decide +kernel
theorem dX10_scales_93 : decode cX10_scales 93 = .ok (.iload_n 2, 1) := by decide +kernel
theorem dX10_scales_94 : decode cX10_scales 94 = .ok (.iload 4, 2) := by decide +kernel
theorem dX10_scales_96 : decode cX10_scales 96 = .ok (.ifCond .eq 9, 3) := by decide +kernel
theorem dX10_scales_99 : decode cX10_scales 99 = .ok (.iconst 1, 1) := by decide +kernel
theorem dX10_scales_100 : decode cX10_scales 100 = .ok (.iload_n 3, 1) := by decide +kernel
theorem dX10_scales_101 : decode cX10_scales 101 = .ok (.ishl, 1) := by decide +kernel
theorem dX10_scales_102 : decode cX10_scales 102 = .ok (.goto 4, 3) := by decide +kernel
theorem dX10_scales_105 : decode cX10_scales 105 = .ok (.iconst 0, 1) := by decide +kernel
theorem dX10_scales_106 : decode cX10_scales 106 = .ok (.ior, 1) := by decide +kernel
theorem dX10_scales_107 : decode cX10_scales 107 = .ok (.istore_n 2, 1) := by decide +kernel
theorem dX10_scales_108 : decode cX10_scales 108 = .ok (.iinc 3 1, 3) := by decide +kernel
theorem dX10_scales_111 : decode cX10_scales 111 = .ok (.goto (-75), 3) := by decide +kernel
theorem dX10_scales_114 : decode cX10_scales 114 = .ok (.iload_n 2, 1) := by decide +kernel
theorem dX10_scales_115 : decode cX10_scales 115 = .ok (.ireturn, 1) := by decide +kernel
theorem dX10_road_0 : decode cX10_road 0 = .ok (.iload_n 1, 1) := by decide +kernel
theorem dX10_road_1 : decode cX10_road 1 = .ok (.iconst 1, 1) := by decide +kernel
theorem dX10_road_2 : decode cX10_road 2 = .ok (.bipush 99, 2) := by decide +kernel
theorem dX10_road_4 : decode cX10_road 4 = .ok (.invokestatic 73, 3) := by decide +kernel
theorem dX10_road_7 : decode cX10_road 7 = .ok (.ifCond .eq 12, 3) := by decide +kernel
theorem dX10_road_10 : decode cX10_road 10 = .ok (.iload_n 2, 1) := by decide +kernel
theorem dX10_road_11 : decode cX10_road 11 = .ok (.iconst 0, 1) := by decide +kernel
theorem dX10_road_12 : decode cX10_road 12 = .ok (.iconst 3, 1) := by decide +kernel
theorem dX10_road_13 : decode cX10_road 13 = .ok (.invokestatic 73, 3) := by decide +kernel
theorem dX10_road_16 : decode cX10_road 16 = .ok (.ifCond .ne 6, 3) := by decide +kernel
theorem dX10_road_19 : decode cX10_road 19 = .ok (.bipush (-3), 2) := by decide +kernel
theorem dX10_road_21 : decode cX10_road 21 = .ok (.ireturn, 1) := by decide +kernel
theorem dX10_road_22 : decode cX10_road 22 = .ok (.aload_n 0, 1) := by decide +kernel
theorem dX10_road_23 : decode cX10_road 23 = .ok (.getfield 200, 3) := by decide +kernel
theorem dX10_road_26 : decode cX10_road 26 = .ok (.bipush 6, 2) := by decide +kernel
theorem dX10_road_28 : decode cX10_road 28 = .ok (.if_icmp .ne 6, 3) := by decide +kernel
theorem dX10_road_31 : decode cX10_road 31 = .ok (.bipush (-5), 2) := by decide +kernel
theorem dX10_road_33 : decode cX10_road 33 = .ok (.ireturn, 1) := by decide +kernel
theorem dX10_road_34 : decode cX10_road 34 = .ok (.aload_n 0, 1) := by decide +kernel
theorem dX10_road_35 : decode cX10_road 35 = .ok (.getfield 48, 3) := by decide +kernel
theorem dX10_road_38 : decode cX10_road 38 = .ok (.iconst 2, 1) := by decide +kernel
theorem dX10_road_39 : decode cX10_road 39 = .ok (.aload_n 0, 1) := by decide +kernel
theorem dX10_road_40 : decode cX10_road 40 = .ok (.getfield 200, 3) := by decide +kernel
theorem dX10_road_43 : decode cX10_road 43 = .ok (.imul, 1) := by decide +kernel
theorem dX10_road_44 : decode cX10_road 44 = .ok (.iload_n 1, 1) := by decide +kernel
theorem dX10_road_45 : decode cX10_road 45 = .ok (.iastore, 1) := by decide +kernel
theorem dX10_road_46 : decode cX10_road 46 = .ok (.aload_n 0, 1) := by decide +kernel
theorem dX10_road_47 : decode cX10_road 47 = .ok (.getfield 48, 3) := by decide +kernel
theorem dX10_road_50 : decode cX10_road 50 = .ok (.iconst 2, 1) := by decide +kernel
theorem dX10_road_51 : decode cX10_road 51 = .ok (.aload_n 0, 1) := by decide +kernel
theorem dX10_road_52 : decode cX10_road 52 = .ok (.getfield 200, 3) := by decide +kernel
theorem dX10_road_55 : decode cX10_road 55 = .ok (.imul, 1) := by decide +kernel
theorem dX10_road_56 : decode cX10_road 56 = .ok (.iconst 1, 1) := by decide +kernel
theorem dX10_road_57 : decode cX10_road 57 = .ok (.iadd, 1) := by decide +kernel
theorem dX10_road_58 : decode cX10_road 58 = .ok (.iload_n 2, 1) := by decide +kernel
theorem dX10_road_59 : decode cX10_road 59 = .ok (.iastore, 1) := by decide +kernel
theorem dX10_road_60 : decode cX10_road 60 = .ok (.aload_n 0, 1) := by decide +kernel
theorem dX10_road_61 : decode cX10_road 61 = .ok (.dup, 1) := by decide +kernel
theorem dX10_road_62 : decode cX10_road 62 = .ok (.getfield 200, 3) := by decide +kernel
theorem dX10_road_65 : decode cX10_road 65 = .ok (.iconst 1, 1) := by decide +kernel
theorem dX10_road_66 : decode cX10_road 66 = .ok (.iadd, 1) := by decide +kernel
theorem dX10_road_67 : decode cX10_road 67 = .ok (.putfield 200, 3) := by decide +kernel
theorem dX10_road_70 : decode cX10_road 70 = .ok (.aload_n 0, 1) := by decide +kernel
theorem dX10_road_71 : decode cX10_road 71 = .ok (.getfield 200, 3) := by decide +kernel
theorem dX10_road_74 : decode cX10_road 74 = .ok (.ireturn, 1) := by decide +kernel
theorem dX10_arrive_0 : decode cX10_arrive 0 = .ok (.aload_n 0, 1) := by decide +kernel
theorem dX10_arrive_1 : decode cX10_arrive 1 = .ok (.getfield 200, 3) := by decide +kernel
theorem dX10_arrive_4 : decode cX10_arrive 4 = .ok (.istore_n 1, 1) := by decide +kernel
theorem dX10_arrive_5 : decode cX10_arrive 5 = .ok (.aload_n 0, 1) := by decide +kernel
theorem dX10_arrive_6 : decode cX10_arrive 6 = .ok (.iconst 0, 1) := by decide +kernel
theorem dX10_arrive_7 : decode cX10_arrive 7 = .ok (.putfield 200, 3) := by decide +kernel
theorem dX10_arrive_10 : decode cX10_arrive 10 = .ok (.iload_n 1, 1) := by decide +kernel
theorem dX10_arrive_11 : decode cX10_arrive 11 = .ok (.ireturn, 1) := by decide +kernel
theorem dX10_canBe_0 : decode cX10_canBe 0 = .ok (.aload_n 0, 1) := by decide +kernel
theorem dX10_canBe_1 : decode cX10_canBe 1 = .ok (.getfield 29, 3) := by decide +kernel
theorem dX10_canBe_4 : decode cX10_canBe 4 = .ok (.bipush 20, 2) := by decide +kernel
theorem dX10_canBe_6 : decode cX10_canBe 6 = .ok (.iload_n 2, 1) := by decide +kernel
theorem dX10_canBe_7 : decode cX10_canBe 7 = .ok (.iadd, 1) := by decide +kernel
theorem dX10_canBe_8 : decode cX10_canBe 8 = .ok (.iaload, 1) := by decide +kernel
theorem dX10_canBe_9 : decode cX10_canBe 9 = .ok (.aload_n 0, 1) := by decide +kernel
theorem dX10_canBe_10 : decode cX10_canBe 10 = .ok (.getfield 48, 3) := by decide +kernel
theorem dX10_canBe_13 : decode cX10_canBe 13 = .ok (.iconst 2, 1) := by decide +kernel
theorem dX10_canBe_14 : decode cX10_canBe 14 = .ok (.iload_n 1, 1) := by decide +kernel
theorem dX10_canBe_15 : decode cX10_canBe 15 = .ok (.imul, 1) := by decide +kernel
theorem dX10_canBe_16 : decode cX10_canBe 16 = .ok (.iconst 1, 1) := by decide +kernel
theorem dX10_canBe_17 : decode cX10_canBe 17 = .ok (.iadd, 1) := by decide +kernel
theorem dX10_canBe_18 : decode cX10_canBe 18 = .ok (.iaload, 1) := by decide +kernel
theorem dX10_canBe_19 : decode cX10_canBe 19 = .ok (.if_icmp .ne 33, 3) := by decide +kernel
theorem dX10_canBe_22 : decode cX10_canBe 22 = .ok (.aload_n 0, 1) := by decide +kernel
theorem dX10_canBe_23 : decode cX10_canBe 23 = .ok (.getfield 29, 3) := by decide +kernel
theorem dX10_canBe_26 : decode cX10_canBe 26 = .ok (.bipush 10, 2) := by decide +kernel
theorem dX10_canBe_28 : decode cX10_canBe 28 = .ok (.iload_n 2, 1) := by decide +kernel
theorem dX10_canBe_29 : decode cX10_canBe 29 = .ok (.iadd, 1) := by decide +kernel
theorem dX10_canBe_30 : decode cX10_canBe 30 = .ok (.iaload, 1) := by decide +kernel
theorem dX10_canBe_31 : decode cX10_canBe 31 = .ok (.aload_n 0, 1) := by decide +kernel
theorem dX10_canBe_32 : decode cX10_canBe 32 = .ok (.getfield 48, 3) := by decide +kernel
theorem dX10_canBe_35 : decode cX10_canBe 35 = .ok (.iconst 2, 1) := by decide +kernel
theorem dX10_canBe_36 : decode cX10_canBe 36 = .ok (.iload_n 1, 1) := by decide +kernel
theorem dX10_canBe_37 : decode cX10_canBe 37 = .ok (.imul, 1) := by decide +kernel
theorem dX10_canBe_38 : decode cX10_canBe 38 = .ok (.iaload, 1) := by decide +kernel
theorem dX10_canBe_39 : decode cX10_canBe 39 = .ok (.isub, 1) := by decide +kernel
theorem dX10_canBe_40 : decode cX10_canBe 40 = .ok (.iconst (-1), 1) := by decide +kernel
theorem dX10_canBe_41 : decode cX10_canBe 41 = .ok (.iconst 1, 1) := by decide +kernel
theorem dX10_canBe_42 : decode cX10_canBe 42 = .ok (.invokestatic 73, 3) := by decide +kernel
theorem dX10_canBe_45 : decode cX10_canBe 45 = .ok (.ifCond .eq 7, 3) := by decide +kernel
theorem dX10_canBe_48 : decode cX10_canBe 48 = .ok (.iconst 1, 1) := by decide +kernel
theorem dX10_canBe_49 : decode cX10_canBe 49 = .ok (.goto 4, 3) := by decide +kernel
theorem dX10_canBe_52 : decode cX10_canBe 52 = .ok (.iconst 0, 1) := by decide +kernel
theorem dX10_canBe_53 : decode cX10_canBe 53 = .ok (.ireturn, 1) := by decide +kernel
theorem dX10_isFree_0 : decode cX10_isFree 0 = .ok (.iconst 1, 1) := by decide +kernel
theorem dX10_isFree_1 : decode cX10_isFree 1 = .ok (.istore_n 2, 1) := by decide +kernel
theorem dX10_isFree_2 : decode cX10_isFree 2 = .ok (.iconst 0, 1) := by decide +kernel
theorem dX10_isFree_3 : decode cX10_isFree 3 = .ok (.istore_n 3, 1) := by decide +kernel
theorem dX10_isFree_4 : decode cX10_isFree 4 = .ok (.iload_n 3, 1) := by decide +kernel
theorem dX10_isFree_5 : decode cX10_isFree 5 = .ok (.iload_n 1, 1) := by decide +kernel
theorem dX10_isFree_6 : decode cX10_isFree 6 = .ok (.if_icmp .ge 34, 3) := by decide +kernel
theorem dX10_isFree_9 : decode cX10_isFree 9 = .ok (.iload_n 2, 1) := by decide +kernel
theorem dX10_isFree_10 : decode cX10_isFree 10 = .ok (.ifCond .eq 22, 3) := by decide +kernel
theorem dX10_isFree_13 : decode cX10_isFree 13 = .ok (.aload_n 0, 1) := by decide +kernel
theorem dX10_isFree_14 : decode cX10_isFree 14 = .ok (.getfield 63, 3) := by decide +kernel
theorem dX10_isFree_17 : decode cX10_isFree 17 = .ok (.iload_n 3, 1) := by decide +kernel
theorem dX10_isFree_18 : decode cX10_isFree 18 = .ok (.iaload, 1) := by decide +kernel
theorem dX10_isFree_19 : decode cX10_isFree 19 = .ok (.aload_n 0, 1) := by decide +kernel
theorem dX10_isFree_20 : decode cX10_isFree 20 = .ok (.getfield 63, 3) := by decide +kernel
theorem dX10_isFree_23 : decode cX10_isFree 23 = .ok (.iload_n 1, 1) := by decide +kernel
theorem dX10_isFree_24 : decode cX10_isFree 24 = .ok (.iaload, 1) := by decide +kernel
theorem dX10_isFree_25 : decode cX10_isFree 25 = .ok (.if_icmp .eq 7, 3) := by decide +kernel
theorem dX10_isFree_28 : decode cX10_isFree 28 = .ok (.iconst 1, 1) := by decide +kernel
theorem dX10_isFree_29 : decode cX10_isFree 29 = .ok (.goto 4, 3) := by decide +kernel
theorem dX10_isFree_32 : decode cX10_isFree 32 = .ok (.iconst 0, 1) := by decide +kernel
theorem dX10_isFree_33 : decode cX10_isFree 33 = .ok (.istore_n 2, 1) := by decide +kernel
theorem dX10_isFree_34 : decode cX10_isFree 34 = .ok (.iinc 3 1, 3) := by decide +kernel
theorem dX10_isFree_37 : decode cX10_isFree 37 = .ok (.goto (-33), 3) := by decide +kernel
theorem dX10_isFree_40 : decode cX10_isFree 40 = .ok (.iload_n 2, 1) := by decide +kernel
theorem dX10_isFree_41 : decode cX10_isFree 41 = .ok (.ireturn, 1) := by decide +kernel
