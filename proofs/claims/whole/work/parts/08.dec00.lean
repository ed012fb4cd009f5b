theorem dX0_init_0 : decode cX0_init 0 = .ok (.aload_n 0, 1) := by decide +kernel
theorem dX0_init_1 : decode cX0_init 1 = .ok (.invokespecial 3, 3) := by decide +kernel
theorem dX0_init_4 : decode cX0_init 4 = .ok (.aload_n 0, 1) := by decide +kernel
theorem dX0_init_5 : decode cX0_init 5 = .ok (.bipush 6, 2) := by decide +kernel
theorem dX0_init_7 : decode cX0_init 7 = .ok (.newarray .int, 2) := by decide +kernel
theorem dX0_init_9 : decode cX0_init 9 = .ok (.putfield 9, 3) := by decide +kernel
theorem dX0_init_12 : decode cX0_init 12 = .ok (.return_, 1) := by decide +kernel
theorem dX0_pass_0 : decode cX0_pass 0 = .ok (.iconst 0, 1) := by decide +kernel
theorem dX0_pass_1 : decode cX0_pass 1 = .ok (.istore 5, 2) := by decide +kernel
theorem dX0_pass_3 : decode cX0_pass 3 = .ok (.iload 5, 2) := by decide +kernel
theorem dX0_pass_5 : decode cX0_pass 5 = .ok (.iload_n 1, 1) := by decide +kernel
theorem dX0_pass_6 : decode cX0_pass 6 = .ok (.if_icmp .ge 91, 3) := by decide +kernel
theorem dX0_pass_9 : decode cX0_pass 9 = .ok (.iconst 0, 1) := by decide +kernel
theorem dX0_pass_10 : decode cX0_pass 10 = .ok (.istore 6, 2) := by decide +kernel
theorem dX0_pass_12 : decode cX0_pass 12 = .ok (.iload 6, 2) := by decide +kernel
theorem dX0_pass_14 : decode cX0_pass 14 = .ok (.aload_n 2, 1) := by decide +kernel
theorem dX0_pass_15 : decode cX0_pass 15 = .ok (.getfield 15, 3) := by decide +kernel
theorem dX0_pass_18 : decode cX0_pass 18 = .ok (.if_icmp .ge 55, 3) := by decide +kernel
theorem dX0_pass_21 : decode cX0_pass 21 = .ok (.aload_n 2, 1) := by decide +kernel
theorem dX0_pass_22 : decode cX0_pass 22 = .ok (.getfield 21, 3) := by decide +kernel
theorem dX0_pass_25 : decode cX0_pass 25 = .ok (.iload 6, 2) := by decide +kernel
theorem dX0_pass_27 : decode cX0_pass 27 = .ok (.iaload, 1) := by decide +kernel
theorem dX0_pass_28 : decode cX0_pass 28 = .ok (.istore 7, 2) := by decide +kernel
theorem dX0_pass_30 : decode cX0_pass 30 = .ok (.aload_n 2, 1) := by decide +kernel
theorem dX0_pass_31 : decode cX0_pass 31 = .ok (.getfield 24, 3) := by decide +kernel
theorem dX0_pass_34 : decode cX0_pass 34 = .ok (.iload 6, 2) := by decide +kernel
theorem dX0_pass_36 : decode cX0_pass 36 = .ok (.aload_n 2, 1) := by decide +kernel
theorem dX0_pass_37 : decode cX0_pass 37 = .ok (.getfield 24, 3) := by decide +kernel
theorem dX0_pass_40 : decode cX0_pass 40 = .ok (.iload 6, 2) := by decide +kernel
theorem dX0_pass_42 : decode cX0_pass 42 = .ok (.iaload, 1) := by decide +kernel
theorem dX0_pass_43 : decode cX0_pass 43 = .ok (.aload_n 3, 1) := by decide +kernel
theorem dX0_pass_44 : decode cX0_pass 44 = .ok (.getfield 27, 3) := by decide +kernel
theorem dX0_pass_47 : decode cX0_pass 47 = .ok (.iload 7, 2) := by decide +kernel
theorem dX0_pass_49 : decode cX0_pass 49 = .ok (.iaload, 1) := by decide +kernel
theorem dX0_pass_50 : decode cX0_pass 50 = .ok (.invokestatic 32, 3) := by decide +kernel
theorem dX0_pass_53 : decode cX0_pass 53 = .ok (.iastore, 1) := by decide +kernel
theorem dX0_pass_54 : decode cX0_pass 54 = .ok (.iload 6, 2) := by decide +kernel
theorem dX0_pass_56 : decode cX0_pass 56 = .ok (.aload_n 2, 1) := by decide +kernel
theorem dX0_pass_57 : decode cX0_pass 57 = .ok (.aload_n 3, 1) := by decide +kernel
theorem dX0_pass_58 : decode cX0_pass 58 = .ok (.getfield 36, 3) := by decide +kernel
theorem dX0_pass_61 : decode cX0_pass 61 = .ok (.iload 7, 2) := by decide +kernel
theorem dX0_pass_63 : decode cX0_pass 63 = .ok (.iaload, 1) := by decide +kernel
theorem dX0_pass_64 : decode cX0_pass 64 = .ok (.invokestatic 39, 3) := by decide +kernel
theorem dX0_pass_67 : decode cX0_pass 67 = .ok (.iinc 6 1, 3) := by decide +kernel
theorem dX0_pass_70 : decode cX0_pass 70 = .ok (.goto (-58), 3) := by decide +kernel
theorem dX0_pass_73 : decode cX0_pass 73 = .ok (.aload_n 0, 1) := by decide +kernel
theorem dX0_pass_74 : decode cX0_pass 74 = .ok (.aload_n 2, 1) := by decide +kernel
theorem dX0_pass_75 : decode cX0_pass 75 = .ok (.aload_n 3, 1) := by decide +kernel
theorem dX0_pass_76 : decode cX0_pass 76 = .ok (.aload 4, 2) := by decide +kernel
theorem dX0_pass_78 : decode cX0_pass 78 = .ok (.invokevirtual 43, 3) := by decide +kernel
theorem dX0_pass_81 : decode cX0_pass 81 = .ok (.aload_n 2, 1) := by decide +kernel
theorem dX0_pass_82 : decode cX0_pass 82 = .ok (.dup, 1) := by decide +kernel
theorem dX0_pass_83 : decode cX0_pass 83 = .ok (.getfield 47, 3) := by decide +kernel
theorem dX0_pass_86 : decode cX0_pass 86 = .ok (.iconst 1, 1) := by decide +kernel
theorem dX0_pass_87 : decode cX0_pass 87 = .ok (.iadd, 1) := by decide +kernel
theorem dX0_pass_88 : decode cX0_pass 88 = .ok (.putfield 47, 3) := by decide +kernel
theorem dX0_pass_91 : decode cX0_pass 91 = .ok (.iinc 5 1, 3) := by decide +kernel
theorem dX0_pass_94 : decode cX0_pass 94 = .ok (.goto (-91), 3) := by decide +kernel
theorem dX0_pass_97 : decode cX0_pass 97 = .ok (.return_, 1) := by decide +kernel
theorem dX0_train_0 : decode cX0_train 0 = .ok (.aload_n 1, 1) := by decide +kernel
theorem dX0_train_1 : decode cX0_train 1 = .ok (.getfield 50, 3) := by decide +kernel
theorem dX0_train_4 : decode cX0_train 4 = .ok (.iload_n 0, 1) := by decide +kernel
theorem dX0_train_5 : decode cX0_train 5 = .ok (.iaload, 1) := by decide +kernel
theorem dX0_train_6 : decode cX0_train 6 = .ok (.istore_n 3, 1) := by decide +kernel
theorem dX0_train_7 : decode cX0_train 7 = .ok (.aload_n 1, 1) := by decide +kernel
theorem dX0_train_8 : decode cX0_train 8 = .ok (.getfield 53, 3) := by decide +kernel
theorem dX0_train_11 : decode cX0_train 11 = .ok (.iload_n 0, 1) := by decide +kernel
theorem dX0_train_12 : decode cX0_train 12 = .ok (.iaload, 1) := by decide +kernel
theorem dX0_train_13 : decode cX0_train 13 = .ok (.iload_n 2, 1) := by decide +kernel
theorem dX0_train_14 : decode cX0_train 14 = .ok (.if_icmp .ne 27, 3) := by decide +kernel
theorem dX0_train_17 : decode cX0_train 17 = .ok (.aload_n 1, 1) := by decide +kernel
theorem dX0_train_18 : decode cX0_train 18 = .ok (.getfield 50, 3) := by decide +kernel
theorem dX0_train_21 : decode cX0_train 21 = .ok (.iload_n 0, 1) := by decide +kernel
theorem dX0_train_22 : decode cX0_train 22 = .ok (.bipush 9, 2) := by decide +kernel
theorem dX0_train_24 : decode cX0_train 24 = .ok (.iload_n 3, 1) := by decide +kernel
theorem dX0_train_25 : decode cX0_train 25 = .ok (.getstatic 56, 3) := by decide +kernel
theorem dX0_train_28 : decode cX0_train 28 = .ok (.aload_n 1, 1) := by decide +kernel
theorem dX0_train_29 : decode cX0_train 29 = .ok (.getfield 59, 3) := by decide +kernel
theorem dX0_train_32 : decode cX0_train 32 = .ok (.iload_n 0, 1) := by decide +kernel
theorem dX0_train_33 : decode cX0_train 33 = .ok (.iaload, 1) := by decide +kernel
theorem dX0_train_34 : decode cX0_train 34 = .ok (.iaload, 1) := by decide +kernel
theorem dX0_train_35 : decode cX0_train 35 = .ok (.iadd, 1) := by decide +kernel
theorem dX0_train_36 : decode cX0_train 36 = .ok (.invokestatic 62, 3) := by decide +kernel
theorem dX0_train_39 : decode cX0_train 39 = .ok (.iastore, 1) := by decide +kernel
theorem dX0_train_40 : decode cX0_train 40 = .ok (.return_, 1) := by decide +kernel
theorem dX0_train_41 : decode cX0_train 41 = .ok (.aload_n 1, 1) := by decide +kernel
theorem dX0_train_42 : decode cX0_train 42 = .ok (.getfield 50, 3) := by decide +kernel
theorem dX0_train_45 : decode cX0_train 45 = .ok (.iload_n 0, 1) := by decide +kernel
theorem dX0_train_46 : decode cX0_train 46 = .ok (.iconst 0, 1) := by decide +kernel
theorem dX0_train_47 : decode cX0_train 47 = .ok (.iload_n 3, 1) := by decide +kernel
theorem dX0_train_48 : decode cX0_train 48 = .ok (.iconst 1, 1) := by decide +kernel
theorem dX0_train_49 : decode cX0_train 49 = .ok (.isub, 1) := by decide +kernel
theorem dX0_train_50 : decode cX0_train 50 = .ok (.invokestatic 67, 3) := by decide +kernel
theorem dX0_train_53 : decode cX0_train 53 = .ok (.iastore, 1) := by decide +kernel
theorem dX0_train_54 : decode cX0_train 54 = .ok (.aload_n 1, 1) := by decide +kernel
theorem dX0_train_55 : decode cX0_train 55 = .ok (.getfield 50, 3) := by decide +kernel
theorem dX0_train_58 : decode cX0_train 58 = .ok (.iload_n 0, 1) := by decide +kernel
theorem dX0_train_59 : decode cX0_train 59 = .ok (.iaload, 1) := by decide +kernel
theorem dX0_train_60 : decode cX0_train 60 = .ok (.ifCond .ne 10, 3) := by decide +kernel
theorem dX0_train_63 : decode cX0_train 63 = .ok (.aload_n 1, 1) := by decide +kernel
theorem dX0_train_64 : decode cX0_train 64 = .ok (.getfield 53, 3) := by decide +kernel
theorem dX0_train_67 : decode cX0_train 67 = .ok (.iload_n 0, 1) := by decide +kernel
theorem dX0_train_68 : decode cX0_train 68 = .ok (.iload_n 2, 1) := by decide +kernel
theorem dX0_train_69 : decode cX0_train 69 = .ok (.iastore, 1) := by decide +kernel
theorem dX0_train_70 : decode cX0_train 70 = .ok (.return_, 1) := by decide +kernel
theorem dX0_keepLent_0 : decode cX0_keepLent 0 = .ok (.aload_n 2, 1) := by decide +kernel
theorem dX0_keepLent_1 : decode cX0_keepLent 1 = .ok (.getfield 70, 3) := by decide +kernel
theorem dX0_keepLent_4 : decode cX0_keepLent 4 = .ok (.iconst 3, 1) := by decide +kernel
theorem dX0_keepLent_5 : decode cX0_keepLent 5 = .ok (.if_icmp .ne 4, 3) := by decide +kernel
theorem dX0_keepLent_8 : decode cX0_keepLent 8 = .ok (.return_, 1) := by decide +kernel
theorem dX0_keepLent_9 : decode cX0_keepLent 9 = .ok (.aload_n 0, 1) := by decide +kernel
theorem dX0_keepLent_10 : decode cX0_keepLent 10 = .ok (.aload_n 1, 1) := by decide +kernel
theorem dX0_keepLent_11 : decode cX0_keepLent 11 = .ok (.aload_n 2, 1) := by decide +kernel
theorem dX0_keepLent_12 : decode cX0_keepLent 12 = .ok (.invokevirtual 73, 3) := by decide +kernel
theorem dX0_keepLent_15 : decode cX0_keepLent 15 = .ok (.iconst 0, 1) := by decide +kernel
theorem dX0_keepLent_16 : decode cX0_keepLent 16 = .ok (.istore 4, 2) := by decide +kernel
theorem dX0_keepLent_18 : decode cX0_keepLent 18 = .ok (.iload 4, 2) := by decide +kernel
theorem dX0_keepLent_20 : decode cX0_keepLent 20 = .ok (.aload_n 2, 1) := by decide +kernel
theorem dX0_keepLent_21 : decode cX0_keepLent 21 = .ok (.getfield 77, 3) := by decide +kernel
theorem dX0_keepLent_24 : decode cX0_keepLent 24 = .ok (.if_icmp .ge 75, 3) := by decide +kernel
theorem dX0_keepLent_27 : decode cX0_keepLent 27 = .ok (.aload_n 0, 1) := by decide +kernel
theorem dX0_keepLent_28 : decode cX0_keepLent 28 = .ok (.getfield 9, 3) := by decide +kernel
theorem dX0_keepLent_31 : decode cX0_keepLent 31 = .ok (.iload 4, 2) := by decide +kernel
theorem dX0_keepLent_33 : decode cX0_keepLent 33 = .ok (.iaload, 1) := by decide +kernel
theorem dX0_keepLent_34 : decode cX0_keepLent 34 = .ok (.istore 5, 2) := by decide +kernel
theorem dX0_keepLent_36 : decode cX0_keepLent 36 = .ok (.iload 5, 2) := by decide +kernel
theorem dX0_keepLent_38 : decode cX0_keepLent 38 = .ok (.iconst (-1), 1) := by decide +kernel
theorem dX0_keepLent_39 : decode cX0_keepLent 39 = .ok (.if_icmp .eq 54, 3) := by decide +kernel
theorem dX0_keepLent_42 : decode cX0_keepLent 42 = .ok (.aload_n 1, 1) := by decide +kernel
theorem dX0_keepLent_43 : decode cX0_keepLent 43 = .ok (.iload 5, 2) := by decide +kernel
theorem dX0_keepLent_45 : decode cX0_keepLent 45 = .ok (.aload_n 3, 1) := by decide +kernel
theorem dX0_keepLent_46 : decode cX0_keepLent 46 = .ok (.invokevirtual 80, 3) := by decide +kernel
theorem dX0_keepLent_49 : decode cX0_keepLent 49 = .ok (.istore 6, 2) := by decide +kernel
theorem dX0_keepLent_51 : decode cX0_keepLent 51 = .ok (.aload_n 2, 1) := by decide +kernel
theorem dX0_keepLent_52 : decode cX0_keepLent 52 = .ok (.getfield 84, 3) := by decide +kernel
theorem dX0_keepLent_55 : decode cX0_keepLent 55 = .ok (.iload 4, 2) := by decide +kernel
theorem dX0_keepLent_57 : decode cX0_keepLent 57 = .ok (.iaload, 1) := by decide +kernel
theorem dX0_keepLent_58 : decode cX0_keepLent 58 = .ok (.istore 7, 2) := by decide +kernel
theorem dX0_keepLent_60 : decode cX0_keepLent 60 = .ok (.aload_n 1, 1) := by decide +kernel
theorem dX0_keepLent_61 : decode cX0_keepLent 61 = .ok (.getfield 87, 3) := by decide +kernel
theorem dX0_keepLent_64 : decode cX0_keepLent 64 = .ok (.iload 4, 2) := by decide +kernel
theorem dX0_keepLent_66 : decode cX0_keepLent 66 = .ok (.dup2, 1) := by decide +kernel
theorem dX0_keepLent_67 : decode cX0_keepLent 67 = .ok (.iaload, 1) := by decide +kernel
theorem dX0_keepLent_68 : decode cX0_keepLent 68 = .ok (.iload 6, 2) := by decide +kernel
theorem dX0_keepLent_70 : decode cX0_keepLent 70 = .ok (.iadd, 1) := by decide +kernel
theorem dX0_keepLent_71 : decode cX0_keepLent 71 = .ok (.iastore, 1) := by decide +kernel
theorem dX0_keepLent_72 : decode cX0_keepLent 72 = .ok (.aload_n 1, 1) := by decide +kernel
theorem dX0_keepLent_73 : decode cX0_keepLent 73 = .ok (.getfield 87, 3) := by decide +kernel
theorem dX0_keepLent_76 : decode cX0_keepLent 76 = .ok (.iload 7, 2) := by decide +kernel
theorem dX0_keepLent_78 : decode cX0_keepLent 78 = .ok (.dup2, 1) := by decide +kernel
theorem dX0_keepLent_79 : decode cX0_keepLent 79 = .ok (.iaload, 1) := by decide +kernel
theorem dX0_keepLent_80 : decode cX0_keepLent 80 = .ok (.iload 6, 2) := by decide +kernel
theorem dX0_keepLent_82 : decode cX0_keepLent 82 = .ok (.isub, 1) := by decide +kernel
theorem dX0_keepLent_83 : decode cX0_keepLent 83 = .ok (.iastore, 1) := by decide +kernel
theorem dX0_keepLent_84 : decode cX0_keepLent 84 = .ok (.aload_n 1, 1) := by decide +kernel
theorem dX0_keepLent_85 : decode cX0_keepLent 85 = .ok (.getfield 21, 3) := by decide +kernel
theorem dX0_keepLent_88 : decode cX0_keepLent 88 = .ok (.iload 5, 2) := by decide +kernel
theorem dX0_keepLent_90 : decode cX0_keepLent 90 = .ok (.iload 7, 2) := by decide +kernel
theorem dX0_keepLent_92 : decode cX0_keepLent 92 = .ok (.iastore, 1) := by decide +kernel
theorem dX0_keepLent_93 : decode cX0_keepLent 93 = .ok (.iinc 4 1, 3) := by decide +kernel
theorem dX0_keepLent_96 : decode cX0_keepLent 96 = .ok (.goto (-78), 3) := by decide +kernel
theorem dX0_keepLent_99 : decode cX0_keepLent 99 = .ok (.return_, 1) := by decide +kernel
theorem dX0_chooseSent_0 : decode cX0_chooseSent 0 = .ok (.iconst 0, 1) := by decide +kernel
theorem dX0_chooseSent_1 : decode cX0_chooseSent 1 = .ok (.istore_n 3, 1) := by decide +kernel
theorem dX0_chooseSent_2 : decode cX0_chooseSent 2 = .ok (.iload_n 3, 1) := by decide +kernel
theorem dX0_chooseSent_3 : decode cX0_chooseSent 3 = .ok (.bipush 6, 2) := by decide +kernel
theorem dX0_chooseSent_5 : decode cX0_chooseSent 5 = .ok (.if_icmp .ge 16, 3) := by decide +kernel
theorem dX0_chooseSent_8 : decode cX0_chooseSent 8 = .ok (.aload_n 0, 1) := by decide +kernel
theorem dX0_chooseSent_9 : decode cX0_chooseSent 9 = .ok (.getfield 9, 3) := by decide +kernel
theorem dX0_chooseSent_12 : decode cX0_chooseSent 12 = .ok (.iload_n 3, 1) := by decide +kernel
theorem dX0_chooseSent_13 : decode cX0_chooseSent 13 = .ok (.iconst (-1), 1) := by decide +kernel
theorem dX0_chooseSent_14 : decode cX0_chooseSent 14 = .ok (.iastore, 1) := by decide +kernel
theorem dX0_chooseSent_15 : decode cX0_chooseSent 15 = .ok (.iinc 3 1, 3) := by decide +kernel
theorem dX0_chooseSent_18 : decode cX0_chooseSent 18 = .ok (.goto (-16), 3) := by decide +kernel
theorem dX0_chooseSent_21 : decode cX0_chooseSent 21 = .ok (.iconst 0, 1) := by decide +kernel
theorem dX0_chooseSent_22 : decode cX0_chooseSent 22 = .ok (.istore_n 3, 1) := by decide +kernel
theorem dX0_chooseSent_23 : decode cX0_chooseSent 23 = .ok (.iload_n 3, 1) := by decide +kernel
theorem dX0_chooseSent_24 : decode cX0_chooseSent 24 = .ok (.aload_n 1, 1) := by decide +kernel
theorem dX0_chooseSent_25 : decode cX0_chooseSent 25 = .ok (.getfield 15, 3) := by decide +kernel
theorem dX0_chooseSent_28 : decode cX0_chooseSent 28 = .ok (.if_icmp .ge 68, 3) := by decide +kernel
theorem dX0_chooseSent_31 : decode cX0_chooseSent 31 = .ok (.aload_n 1, 1) := by decide +kernel
theorem dX0_chooseSent_32 : decode cX0_chooseSent 32 = .ok (.getfield 21, 3) := by decide +kernel
theorem dX0_chooseSent_35 : decode cX0_chooseSent 35 = .ok (.iload_n 3, 1) := by decide +kernel
theorem dX0_chooseSent_36 : decode cX0_chooseSent 36 = .ok (.iaload, 1) := by decide +kernel
theorem dX0_chooseSent_37 : decode cX0_chooseSent 37 = .ok (.istore 4, 2) := by decide +kernel
theorem dX0_chooseSent_39 : decode cX0_chooseSent 39 = .ok (.aload_n 1, 1) := by decide +kernel
theorem dX0_chooseSent_40 : decode cX0_chooseSent 40 = .ok (.getfield 59, 3) := by decide +kernel
theorem dX0_chooseSent_43 : decode cX0_chooseSent 43 = .ok (.iload_n 3, 1) := by decide +kernel
theorem dX0_chooseSent_44 : decode cX0_chooseSent 44 = .ok (.iaload, 1) := by decide +kernel
theorem dX0_chooseSent_45 : decode cX0_chooseSent 45 = .ok (.iconst 3, 1) := by decide +kernel
theorem dX0_chooseSent_46 : decode cX0_chooseSent 46 = .ok (.if_icmp .ne 6, 3) := by decide +kernel
theorem dX0_chooseSent_49 : decode cX0_chooseSent 49 = .ok (.goto 41, 3) := by decide +kernel
theorem dX0_chooseSent_52 : decode cX0_chooseSent 52 = .ok (.aload_n 0, 1) := by decide +kernel
theorem dX0_chooseSent_53 : decode cX0_chooseSent 53 = .ok (.getfield 9, 3) := by decide +kernel
theorem dX0_chooseSent_56 : decode cX0_chooseSent 56 = .ok (.iload 4, 2) := by decide +kernel
theorem dX0_chooseSent_58 : decode cX0_chooseSent 58 = .ok (.iaload, 1) := by decide +kernel
theorem dX0_chooseSent_59 : decode cX0_chooseSent 59 = .ok (.iconst (-1), 1) := by decide +kernel
theorem dX0_chooseSent_60 : decode cX0_chooseSent 60 = .ok (.if_icmp .eq 22, 3) := by decide +kernel
theorem dX0_chooseSent_63 : decode cX0_chooseSent 63 = .ok (.iload_n 3, 1) := by decide +kernel
theorem dX0_chooseSent_64 : decode cX0_chooseSent 64 = .ok (.aload_n 0, 1) := by decide +kernel
theorem dX0_chooseSent_65 : decode cX0_chooseSent 65 = .ok (.getfield 9, 3) := by decide +kernel
theorem dX0_chooseSent_68 : decode cX0_chooseSent 68 = .ok (.iload 4, 2) := by decide +kernel
theorem dX0_chooseSent_70 : decode cX0_chooseSent 70 = .ok (.iaload, 1) := by decide +kernel
theorem dX0_chooseSent_71 : decode cX0_chooseSent 71 = .ok (.aload_n 1, 1) := by decide +kernel
theorem dX0_chooseSent_72 : decode cX0_chooseSent 72 = .ok (.aload_n 2, 1) := by decide +kernel
theorem dX0_chooseSent_73 : decode cX0_chooseSent 73 = .ok (.getfield 70, 3) := by decide +kernel
theorem dX0_chooseSent_76 : decode cX0_chooseSent 76 = .ok (.invokestatic 90, 3) := by decide +kernel
theorem dX0_chooseSent_79 : decode cX0_chooseSent 79 = .ok (.ifCond .eq 11, 3) := by decide +kernel
theorem dX0_chooseSent_82 : decode cX0_chooseSent 82 = .ok (.aload_n 0, 1) := by decide +kernel
theorem dX0_chooseSent_83 : decode cX0_chooseSent 83 = .ok (.getfield 9, 3) := by decide +kernel
theorem dX0_chooseSent_86 : decode cX0_chooseSent 86 = .ok (.iload 4, 2) := by decide +kernel
theorem dX0_chooseSent_88 : decode cX0_chooseSent 88 = .ok (.iload_n 3, 1) := by decide +kernel
theorem dX0_chooseSent_89 : decode cX0_chooseSent 89 = .ok (.iastore, 1) := by decide +kernel
theorem dX0_chooseSent_90 : decode cX0_chooseSent 90 = .ok (.iinc 3 1, 3) := by decide +kernel
theorem dX0_chooseSent_93 : decode cX0_chooseSent 93 = .ok (.goto (-70), 3) := by decide +kernel
theorem dX0_chooseSent_96 : decode cX0_chooseSent 96 = .ok (.return_, 1) := by decide +kernel
theorem dX0_goesRather_0 : decode cX0_goesRather 0 = .ok (.iload_n 3, 1) := by decide +kernel
theorem dX0_goesRather_1 : decode cX0_goesRather 1 = .ok (.lookupswitch 69 #[(0, 27), (1, 48)], 27) := by decide +kernel
theorem dX0_goesRather_28 : decode cX0_goesRather 28 = .ok (.aload_n 2, 1) := by decide +kernel
theorem dX0_goesRather_29 : decode cX0_goesRather 29 = .ok (.getfield 24, 3) := by decide +kernel
theorem dX0_goesRather_32 : decode cX0_goesRather 32 = .ok (.iload_n 0, 1) := by decide +kernel
theorem dX0_goesRather_33 : decode cX0_goesRather 33 = .ok (.iaload, 1) := by decide +kernel
theorem dX0_goesRather_34 : decode cX0_goesRather 34 = .ok (.aload_n 2, 1) := by decide +kernel
theorem dX0_goesRather_35 : decode cX0_goesRather 35 = .ok (.getfield 24, 3) := by decide +kernel
theorem dX0_goesRather_38 : decode cX0_goesRather 38 = .ok (.iload_n 1, 1) := by decide +kernel
theorem dX0_goesRather_39 : decode cX0_goesRather 39 = .ok (.iaload, 1) := by decide +kernel
theorem dX0_goesRather_40 : decode cX0_goesRather 40 = .ok (.if_icmp .le 7, 3) := by decide +kernel
theorem dX0_goesRather_43 : decode cX0_goesRather 43 = .ok (.iconst 1, 1) := by decide +kernel
theorem dX0_goesRather_44 : decode cX0_goesRather 44 = .ok (.goto 4, 3) := by decide +kernel
theorem dX0_goesRather_47 : decode cX0_goesRather 47 = .ok (.iconst 0, 1) := by decide +kernel
theorem dX0_goesRather_48 : decode cX0_goesRather 48 = .ok (.ireturn, 1) := by decide +kernel
theorem dX0_goesRather_49 : decode cX0_goesRather 49 = .ok (.aload_n 2, 1) := by decide +kernel
theorem dX0_goesRather_50 : decode cX0_goesRather 50 = .ok (.getfield 24, 3) := by decide +kernel
theorem dX0_goesRather_53 : decode cX0_goesRather 53 = .ok (.iload_n 0, 1) := by decide +kernel
theorem dX0_goesRather_54 : decode cX0_goesRather 54 = .ok (.iaload, 1) := by decide +kernel
theorem dX0_goesRather_55 : decode cX0_goesRather 55 = .ok (.aload_n 2, 1) := by decide +kernel
theorem dX0_goesRather_56 : decode cX0_goesRather 56 = .ok (.getfield 24, 3) := by decide +kernel
theorem dX0_goesRather_59 : decode cX0_goesRather 59 = .ok (.iload_n 1, 1) := by decide +kernel
theorem dX0_goesRather_60 : decode cX0_goesRather 60 = .ok (.iaload, 1) := by decide +kernel
theorem dX0_goesRather_61 : decode cX0_goesRather 61 = .ok (.if_icmp .ge 7, 3) := by decide +kernel
theorem dX0_goesRather_64 : decode cX0_goesRather 64 = .ok (.iconst 1, 1) := by decide +kernel
theorem dX0_goesRather_65 : decode cX0_goesRather 65 = .ok (.goto 4, 3) := by decide +kernel
theorem dX0_goesRather_68 : decode cX0_goesRather 68 = .ok (.iconst 0, 1) := by decide +kernel
theorem dX0_goesRather_69 : decode cX0_goesRather 69 = .ok (.ireturn, 1) := by decide +kernel
theorem dX0_goesRather_70 : decode cX0_goesRather 70 = .ok (.aload_n 2, 1) := by decide +kernel
theorem dX0_goesRather_71 : decode cX0_goesRather 71 = .ok (.getfield 50, 3) := by decide +kernel
theorem dX0_goesRather_74 : decode cX0_goesRather 74 = .ok (.iload_n 0, 1) := by decide +kernel
theorem dX0_goesRather_75 : decode cX0_goesRather 75 = .ok (.iaload, 1) := by decide +kernel
theorem dX0_goesRather_76 : decode cX0_goesRather 76 = .ok (.aload_n 2, 1) := by decide +kernel
theorem dX0_goesRather_77 : decode cX0_goesRather 77 = .ok (.getfield 50, 3) := by decide +kernel
theorem dX0_goesRather_80 : decode cX0_goesRather 80 = .ok (.iload_n 1, 1) := by decide +kernel
theorem dX0_goesRather_81 : decode cX0_goesRather 81 = .ok (.iaload, 1) := by decide +kernel
theorem dX0_goesRather_82 : decode cX0_goesRather 82 = .ok (.if_icmp .ge 7, 3) := by decide +kernel
theorem dX0_goesRather_85 : decode cX0_goesRather 85 = .ok (.iconst 1, 1) := by decide +kernel
theorem dX0_goesRather_86 : decode cX0_goesRather 86 = .ok (.goto 4, 3) := by decide +kernel
theorem dX0_goesRather_89 : decode cX0_goesRather 89 = .ok (.iconst 0, 1) := by decide +kernel
theorem dX0_goesRather_90 : decode cX0_goesRather 90 = .ok (.ireturn, 1) := by decide +kernel
theorem dX1_init_0 : decode cX1_init 0 = .ok (.aload_n 0, 1) := by decide +kernel
theorem dX1_init_1 : decode cX1_init 1 = .ok (.invokespecial 3, 3) := by decide +kernel
theorem dX1_init_4 : decode cX1_init 4 = .ok (.aload_n 0, 1) := by decide +kernel
theorem dX1_init_5 : decode cX1_init 5 = .ok (.bipush 8, 2) := by decide +kernel
theorem dX1_init_7 : decode cX1_init 7 = .ok (.newarray .int, 2) := by decide +kernel
theorem dX1_init_9 : decode cX1_init 9 = .ok (.putfield 9, 3) := by decide +kernel
theorem dX1_init_12 : decode cX1_init 12 = .ok (.aload_n 0, 1) := by decide +kernel
theorem dX1_init_13 : decode cX1_init 13 = .ok (.bipush 8, 2) := by decide +kernel
theorem dX1_init_15 : decode cX1_init 15 = .ok (.newarray .int, 2) := by decide +kernel
theorem dX1_init_17 : decode cX1_init 17 = .ok (.putfield 15, 3) := by decide +kernel
theorem dX1_init_20 : decode cX1_init 20 = .ok (.return_, 1) := by decide +kernel
theorem dX1_add_0 : decode cX1_add 0 = .ok (.aload_n 0, 1) := by decide +kernel
theorem dX1_add_1 : decode cX1_add 1 = .ok (.getfield 18, 3) := by decide +kernel
theorem dX1_add_4 : decode cX1_add 4 = .ok (.bipush 8, 2) := by decide +kernel
theorem dX1_add_6 : decode cX1_add 6 = .ok (.if_icmp .ge 33, 3) := by decide +kernel
theorem dX1_add_9 : decode cX1_add 9 = .ok (.aload_n 0, 1) := by decide +kernel
theorem dX1_add_10 : decode cX1_add 10 = .ok (.getfield 9, 3) := by decide +kernel
theorem dX1_add_13 : decode cX1_add 13 = .ok (.aload_n 0, 1) := by decide +kernel
theorem dX1_add_14 : decode cX1_add 14 = .ok (.getfield 18, 3) := by decide +kernel
theorem dX1_add_17 : decode cX1_add 17 = .ok (.iload_n 1, 1) := by decide +kernel
theorem dX1_add_18 : decode cX1_add 18 = .ok (.iastore, 1) := by decide +kernel
theorem dX1_add_19 : decode cX1_add 19 = .ok (.aload_n 0, 1) := by decide +kernel
theorem dX1_add_20 : decode cX1_add 20 = .ok (.getfield 15, 3) := by decide +kernel
theorem dX1_add_23 : decode cX1_add 23 = .ok (.aload_n 0, 1) := by decide +kernel
theorem dX1_add_24 : decode cX1_add 24 = .ok (.getfield 18, 3) := by decide +kernel
theorem dX1_add_27 : decode cX1_add 27 = .ok (.iload_n 2, 1) := by decide +kernel
theorem dX1_add_28 : decode cX1_add 28 = .ok (.iastore, 1) := by decide +kernel
theorem dX1_add_29 : decode cX1_add 29 = .ok (.aload_n 0, 1) := by decide +kernel
theorem dX1_add_30 : decode cX1_add 30 = .ok (.dup, 1) := by decide +kernel
theorem dX1_add_31 : decode cX1_add 31 = .ok (.getfield 18, 3) := by decide +kernel
theorem dX1_add_34 : decode cX1_add 34 = .ok (.iconst 1, 1) := by decide +kernel
theorem dX1_add_35 : decode cX1_add 35 = .ok (.iadd, 1) := by decide +kernel
theorem dX1_add_36 : decode cX1_add 36 = .ok (.putfield 18, 3) := by decide +kernel
theorem dX1_add_39 : decode cX1_add 39 = .ok (.return_, 1) := by decide +kernel
theorem dX1_has_0 : decode cX1_has 0 = .ok (.iconst 0, 1) := by decide +kernel
theorem dX1_has_1 : decode cX1_has 1 = .ok (.istore_n 2, 1) := by decide +kernel
theorem dX1_has_2 : decode cX1_has 2 = .ok (.iload_n 2, 1) := by decide +kernel
theorem dX1_has_3 : decode cX1_has 3 = .ok (.aload_n 0, 1) := by decide +kernel
theorem dX1_has_4 : decode cX1_has 4 = .ok (.getfield 18, 3) := by decide +kernel
theorem dX1_has_7 : decode cX1_has 7 = .ok (.if_icmp .ge 21, 3) := by decide +kernel
theorem dX1_has_10 : decode cX1_has 10 = .ok (.aload_n 0, 1) := by decide +kernel
theorem dX1_has_11 : decode cX1_has 11 = .ok (.getfield 9, 3) := by decide +kernel
theorem dX1_has_14 : decode cX1_has 14 = .ok (.iload_n 2, 1) := by decide +kernel
theorem dX1_has_15 : decode cX1_has 15 = .ok (.iaload, 1) := by decide +kernel
theorem dX1_has_16 : decode cX1_has 16 = .ok (.iload_n 1, 1) := by decide +kernel
theorem dX1_has_17 : decode cX1_has 17 = .ok (.if_icmp .ne 5, 3) := by decide +kernel
theorem dX1_has_20 : decode cX1_has 20 = .ok (.iconst 1, 1) := by decide +kernel
theorem dX1_has_21 : decode cX1_has 21 = .ok (.ireturn, 1) := by decide +kernel
theorem dX1_has_22 : decode cX1_has 22 = .ok (.iinc 2 1, 3) := by decide +kernel
theorem dX1_has_25 : decode cX1_has 25 = .ok (.goto (-23), 3) := by decide +kernel
theorem dX1_has_28 : decode cX1_has 28 = .ok (.iconst 0, 1) := by decide +kernel
theorem dX1_has_29 : decode cX1_has 29 = .ok (.ireturn, 1) := by decide +kernel
theorem dX1_balanceOf_0 : decode cX1_balanceOf 0 = .ok (.iconst 0, 1) := by decide +kernel
theorem dX1_balanceOf_1 : decode cX1_balanceOf 1 = .ok (.istore 4, 2) := by decide +kernel
theorem dX1_balanceOf_3 : decode cX1_balanceOf 3 = .ok (.iconst 0, 1) := by decide +kernel
theorem dX1_balanceOf_4 : decode cX1_balanceOf 4 = .ok (.istore 5, 2) := by decide +kernel
theorem dX1_balanceOf_6 : decode cX1_balanceOf 6 = .ok (.iload 5, 2) := by decide +kernel
theorem dX1_balanceOf_8 : decode cX1_balanceOf 8 = .ok (.aload_n 0, 1) := by decide +kernel
theorem dX1_balanceOf_9 : decode cX1_balanceOf 9 = .ok (.getfield 18, 3) := by decide +kernel
theorem dX1_balanceOf_12 : decode cX1_balanceOf 12 = .ok (.if_icmp .ge 35, 3) := by decide +kernel
theorem dX1_balanceOf_15 : decode cX1_balanceOf 15 = .ok (.iload 4, 2) := by decide +kernel
theorem dX1_balanceOf_17 : decode cX1_balanceOf 17 = .ok (.aload_n 0, 1) := by decide +kernel
theorem dX1_balanceOf_18 : decode cX1_balanceOf 18 = .ok (.iload_n 1, 1) := by decide +kernel
theorem dX1_balanceOf_19 : decode cX1_balanceOf 19 = .ok (.iload 5, 2) := by decide +kernel
theorem dX1_balanceOf_21 : decode cX1_balanceOf 21 = .ok (.aload_n 2, 1) := by decide +kernel
theorem dX1_balanceOf_22 : decode cX1_balanceOf 22 = .ok (.invokevirtual 22, 3) := by decide +kernel
theorem dX1_balanceOf_25 : decode cX1_balanceOf 25 = .ok (.aload_n 2, 1) := by decide +kernel
theorem dX1_balanceOf_26 : decode cX1_balanceOf 26 = .ok (.aload_n 0, 1) := by decide +kernel
theorem dX1_balanceOf_27 : decode cX1_balanceOf 27 = .ok (.getfield 9, 3) := by decide +kernel
theorem dX1_balanceOf_30 : decode cX1_balanceOf 30 = .ok (.iload 5, 2) := by decide +kernel
theorem dX1_balanceOf_32 : decode cX1_balanceOf 32 = .ok (.iaload, 1) := by decide +kernel
theorem dX1_balanceOf_33 : decode cX1_balanceOf 33 = .ok (.aload_n 3, 1) := by decide +kernel
theorem dX1_balanceOf_34 : decode cX1_balanceOf 34 = .ok (.invokevirtual 26, 3) := by decide +kernel
theorem dX1_balanceOf_37 : decode cX1_balanceOf 37 = .ok (.imul, 1) := by decide +kernel
theorem dX1_balanceOf_38 : decode cX1_balanceOf 38 = .ok (.iadd, 1) := by decide +kernel
theorem dX1_balanceOf_39 : decode cX1_balanceOf 39 = .ok (.istore 4, 2) := by decide +kernel
theorem dX1_balanceOf_41 : decode cX1_balanceOf 41 = .ok (.iinc 5 1, 3) := by decide +kernel
theorem dX1_balanceOf_44 : decode cX1_balanceOf 44 = .ok (.goto (-38), 3) := by decide +kernel
theorem dX1_balanceOf_47 : decode cX1_balanceOf 47 = .ok (.iload 4, 2) := by decide +kernel
theorem dX1_balanceOf_49 : decode cX1_balanceOf 49 = .ok (.ireturn, 1) := by decide +kernel
theorem dX1_closesAt_0 : decode cX1_closesAt 0 = .ok (.iconst 0, 1) := by decide +kernel
theorem dX1_closesAt_1 : decode cX1_closesAt 1 = .ok (.istore 4, 2) := by decide +kernel
theorem dX1_closesAt_3 : decode cX1_closesAt 3 = .ok (.iconst 0, 1) := by decide +kernel
theorem dX1_closesAt_4 : decode cX1_closesAt 4 = .ok (.istore 5, 2) := by decide +kernel
theorem dX1_closesAt_6 : decode cX1_closesAt 6 = .ok (.iload 5, 2) := by decide +kernel
theorem dX1_closesAt_8 : decode cX1_closesAt 8 = .ok (.aload_n 0, 1) := by decide +kernel
theorem dX1_closesAt_9 : decode cX1_closesAt 9 = .ok (.getfield 18, 3) := by decide +kernel
theorem dX1_closesAt_12 : decode cX1_closesAt 12 = .ok (.if_icmp .ge 22, 3) := by decide +kernel
theorem dX1_closesAt_15 : decode cX1_closesAt 15 = .ok (.iload 4, 2) := by decide +kernel
theorem dX1_closesAt_17 : decode cX1_closesAt 17 = .ok (.aload_n 0, 1) := by decide +kernel
theorem dX1_closesAt_18 : decode cX1_closesAt 18 = .ok (.iload_n 1, 1) := by decide +kernel
theorem dX1_closesAt_19 : decode cX1_closesAt 19 = .ok (.iload 5, 2) := by decide +kernel
theorem dX1_closesAt_21 : decode cX1_closesAt 21 = .ok (.aload_n 2, 1) := by decide +kernel
theorem dX1_closesAt_22 : decode cX1_closesAt 22 = .ok (.invokevirtual 22, 3) := by decide +kernel
theorem dX1_closesAt_25 : decode cX1_closesAt 25 = .ok (.iadd, 1) := by decide +kernel
theorem dX1_closesAt_26 : decode cX1_closesAt 26 = .ok (.istore 4, 2) := by decide +kernel
theorem dX1_closesAt_28 : decode cX1_closesAt 28 = .ok (.iinc 5 1, 3) := by decide +kernel
theorem dX1_closesAt_31 : decode cX1_closesAt 31 = .ok (.goto (-25), 3) := by decide +kernel
theorem dX1_closesAt_34 : decode cX1_closesAt 34 = .ok (.iload 4, 2) := by decide +kernel
theorem dX1_closesAt_36 : decode cX1_closesAt 36 = .ok (.ifCond .ne 27, 3) := by decide +kernel
theorem dX1_closesAt_39 : decode cX1_closesAt 39 = .ok (.aload_n 0, 1) := by decide +kernel
theorem dX1_closesAt_40 : decode cX1_closesAt 40 = .ok (.iload_n 1, 1) := by decide +kernel
theorem dX1_closesAt_41 : decode cX1_closesAt 41 = .ok (.aload_n 2, 1) := by decide +kernel
theorem dX1_closesAt_42 : decode cX1_closesAt 42 = .ok (.aload_n 3, 1) := by decide +kernel
theorem dX1_closesAt_43 : decode cX1_closesAt 43 = .ok (.getfield 32, 3) := by decide +kernel
theorem dX1_closesAt_46 : decode cX1_closesAt 46 = .ok (.invokevirtual 37, 3) := by decide +kernel
theorem dX1_closesAt_49 : decode cX1_closesAt 49 = .ok (.invokestatic 41, 3) := by decide +kernel
theorem dX1_closesAt_52 : decode cX1_closesAt 52 = .ok (.aload_n 3, 1) := by decide +kernel
theorem dX1_closesAt_53 : decode cX1_closesAt 53 = .ok (.getfield 47, 3) := by decide +kernel
theorem dX1_closesAt_56 : decode cX1_closesAt 56 = .ok (.if_icmp .gt 7, 3) := by decide +kernel
theorem dX1_closesAt_59 : decode cX1_closesAt 59 = .ok (.iconst 1, 1) := by decide +kernel
theorem dX1_closesAt_60 : decode cX1_closesAt 60 = .ok (.goto 4, 3) := by decide +kernel
theorem dX1_closesAt_63 : decode cX1_closesAt 63 = .ok (.iconst 0, 1) := by decide +kernel
theorem dX1_closesAt_64 : decode cX1_closesAt 64 = .ok (.ireturn, 1) := by decide +kernel
theorem dX1_comesTo_0 : decode cX1_comesTo 0 = .ok (.aload_n 0, 1) := by decide +kernel
theorem dX1_comesTo_1 : decode cX1_comesTo 1 = .ok (.getfield 15, 3) := by decide +kernel
theorem dX1_comesTo_4 : decode cX1_comesTo 4 = .ok (.iload_n 2, 1) := by decide +kernel
theorem dX1_comesTo_5 : decode cX1_comesTo 5 = .ok (.iaload, 1) := by decide +kernel
theorem dX1_comesTo_6 : decode cX1_comesTo 6 = .ok (.iload_n 1, 1) := by decide +kernel
theorem dX1_comesTo_7 : decode cX1_comesTo 7 = .ok (.if_icmp .ne 5, 3) := by decide +kernel
theorem dX1_comesTo_10 : decode cX1_comesTo 10 = .ok (.iconst 1, 1) := by decide +kernel
theorem dX1_comesTo_11 : decode cX1_comesTo 11 = .ok (.ireturn, 1) := by decide +kernel
theorem dX1_comesTo_12 : decode cX1_comesTo 12 = .ok (.aload_n 3, 1) := by decide +kernel
theorem dX1_comesTo_13 : decode cX1_comesTo 13 = .ok (.getfield 50, 3) := by decide +kernel
theorem dX1_comesTo_16 : decode cX1_comesTo 16 = .ok (.aload_n 0, 1) := by decide +kernel
theorem dX1_comesTo_17 : decode cX1_comesTo 17 = .ok (.getfield 9, 3) := by decide +kernel
theorem dX1_comesTo_20 : decode cX1_comesTo 20 = .ok (.iload_n 2, 1) := by decide +kernel
theorem dX1_comesTo_21 : decode cX1_comesTo 21 = .ok (.iaload, 1) := by decide +kernel
theorem dX1_comesTo_22 : decode cX1_comesTo 22 = .ok (.iaload, 1) := by decide +kernel
theorem dX1_comesTo_23 : decode cX1_comesTo 23 = .ok (.iload_n 1, 1) := by decide +kernel
theorem dX1_comesTo_24 : decode cX1_comesTo 24 = .ok (.if_icmp .ne 7, 3) := by decide +kernel
theorem dX1_comesTo_27 : decode cX1_comesTo 27 = .ok (.iconst (-1), 1) := by decide +kernel
theorem dX1_comesTo_28 : decode cX1_comesTo 28 = .ok (.goto 4, 3) := by decide +kernel
theorem dX1_comesTo_31 : decode cX1_comesTo 31 = .ok (.iconst 0, 1) := by decide +kernel
theorem dX1_comesTo_32 : decode cX1_comesTo 32 = .ok (.ireturn, 1) := by decide +kernel
theorem dX1_doIn_0 : decode cX1_doIn 0 = .ok (.iconst 0, 1) := by decide +kernel
theorem dX1_doIn_1 : decode cX1_doIn 1 = .ok (.istore_n 3, 1) := by decide +kernel
theorem dX1_doIn_2 : decode cX1_doIn 2 = .ok (.iload_n 3, 1) := by decide +kernel
theorem dX1_doIn_3 : decode cX1_doIn 3 = .ok (.aload_n 2, 1) := by decide +kernel
theorem dX1_doIn_4 : decode cX1_doIn 4 = .ok (.getfield 53, 3) := by decide +kernel
theorem dX1_doIn_7 : decode cX1_doIn 7 = .ok (.if_icmp .ge 28, 3) := by decide +kernel
theorem dX1_doIn_10 : decode cX1_doIn 10 = .ok (.aload_n 1, 1) := by decide +kernel
theorem dX1_doIn_11 : decode cX1_doIn 11 = .ok (.getfield 56, 3) := by decide +kernel
theorem dX1_doIn_14 : decode cX1_doIn 14 = .ok (.iload_n 3, 1) := by decide +kernel
theorem dX1_doIn_15 : decode cX1_doIn 15 = .ok (.dup2, 1) := by decide +kernel
theorem dX1_doIn_16 : decode cX1_doIn 16 = .ok (.iaload, 1) := by decide +kernel
theorem dX1_doIn_17 : decode cX1_doIn 17 = .ok (.aload_n 0, 1) := by decide +kernel
theorem dX1_doIn_18 : decode cX1_doIn 18 = .ok (.iload_n 3, 1) := by decide +kernel
theorem dX1_doIn_19 : decode cX1_doIn 19 = .ok (.aload_n 1, 1) := by decide +kernel
theorem dX1_doIn_20 : decode cX1_doIn 20 = .ok (.aload_n 2, 1) := by decide +kernel
theorem dX1_doIn_21 : decode cX1_doIn 21 = .ok (.getfield 32, 3) := by decide +kernel
theorem dX1_doIn_24 : decode cX1_doIn 24 = .ok (.invokevirtual 37, 3) := by decide +kernel
theorem dX1_doIn_27 : decode cX1_doIn 27 = .ok (.isub, 1) := by decide +kernel
theorem dX1_doIn_28 : decode cX1_doIn 28 = .ok (.iastore, 1) := by decide +kernel
theorem dX1_doIn_29 : decode cX1_doIn 29 = .ok (.iinc 3 1, 3) := by decide +kernel
theorem dX1_doIn_32 : decode cX1_doIn 32 = .ok (.goto (-30), 3) := by decide +kernel
theorem dX1_doIn_35 : decode cX1_doIn 35 = .ok (.iconst 0, 1) := by decide +kernel
theorem dX1_doIn_36 : decode cX1_doIn 36 = .ok (.istore_n 3, 1) := by decide +kernel
theorem dX1_doIn_37 : decode cX1_doIn 37 = .ok (.iload_n 3, 1) := by decide +kernel
theorem dX1_doIn_38 : decode cX1_doIn 38 = .ok (.aload_n 0, 1) := by decide +kernel
theorem dX1_doIn_39 : decode cX1_doIn 39 = .ok (.getfield 18, 3) := by decide +kernel
theorem dX1_doIn_42 : decode cX1_doIn 42 = .ok (.if_icmp .ge 26, 3) := by decide +kernel
theorem dX1_doIn_45 : decode cX1_doIn 45 = .ok (.aload_n 1, 1) := by decide +kernel
theorem dX1_doIn_46 : decode cX1_doIn 46 = .ok (.getfield 50, 3) := by decide +kernel
theorem dX1_doIn_49 : decode cX1_doIn 49 = .ok (.aload_n 0, 1) := by decide +kernel
theorem dX1_doIn_50 : decode cX1_doIn 50 = .ok (.getfield 9, 3) := by decide +kernel
theorem dX1_doIn_53 : decode cX1_doIn 53 = .ok (.iload_n 3, 1) := by decide +kernel
theorem dX1_doIn_54 : decode cX1_doIn 54 = .ok (.iaload, 1) := by decide +kernel
theorem dX1_doIn_55 : decode cX1_doIn 55 = .ok (.aload_n 0, 1) := by decide +kernel
theorem dX1_doIn_56 : decode cX1_doIn 56 = .ok (.getfield 15, 3) := by decide +kernel
theorem dX1_doIn_59 : decode cX1_doIn 59 = .ok (.iload_n 3, 1) := by decide +kernel
theorem dX1_doIn_60 : decode cX1_doIn 60 = .ok (.iaload, 1) := by decide +kernel
theorem dX1_doIn_61 : decode cX1_doIn 61 = .ok (.iastore, 1) := by decide +kernel
theorem dX1_doIn_62 : decode cX1_doIn 62 = .ok (.iinc 3 1, 3) := by decide +kernel
theorem dX1_doIn_65 : decode cX1_doIn 65 = .ok (.goto (-28), 3) := by decide +kernel
theorem dX1_doIn_68 : decode cX1_doIn 68 = .ok (.return_, 1) := by decide +kernel
theorem dX2_init_0 : decode cX2_init 0 = .ok (.aload_n 0, 1) := by decide +kernel
theorem dX2_init_1 : decode cX2_init 1 = .ok (.invokespecial 3, 3) := by decide +kernel
theorem dX2_init_4 : decode cX2_init 4 = .ok (.aload_n 0, 1) := by decide +kernel
theorem dX2_init_5 : decode cX2_init 5 = .ok (.bipush 10, 2) := by decide +kernel
theorem dX2_init_7 : decode cX2_init 7 = .ok (.newarray .int, 2) := by decide +kernel
theorem dX2_init_9 : decode cX2_init 9 = .ok (.putfield 9, 3) := by decide +kernel
theorem dX2_init_12 : decode cX2_init 12 = .ok (.aload_n 0, 1) := by decide +kernel
theorem dX2_init_13 : decode cX2_init 13 = .ok (.bipush 10, 2) := by decide +kernel
theorem dX2_init_15 : decode cX2_init 15 = .ok (.newarray .int, 2) := by decide +kernel
theorem dX2_init_17 : decode cX2_init 17 = .ok (.putfield 15, 3) := by decide +kernel
theorem dX2_init_20 : decode cX2_init 20 = .ok (.aload_n 0, 1) := by decide +kernel
theorem dX2_init_21 : decode cX2_init 21 = .ok (.bipush 10, 2) := by decide +kernel
theorem dX2_init_23 : decode cX2_init 23 = .ok (.newarray .int, 2) := by decide +kernel
theorem dX2_init_25 : decode cX2_init 25 = .ok (.putfield 18, 3) := by decide +kernel
theorem dX2_init_28 : decode cX2_init 28 = .ok (.aload_n 0, 1) := by decide +kernel
theorem dX2_init_29 : decode cX2_init 29 = .ok (.bipush 10, 2) := by decide +kernel
theorem dX2_init_31 : decode cX2_init 31 = .ok (.newarray .int, 2) := by decide +kernel
theorem dX2_init_33 : decode cX2_init 33 = .ok (.putfield 21, 3) := by decide +kernel
theorem dX2_init_36 : decode cX2_init 36 = .ok (.aload_n 0, 1) := by decide +kernel
theorem dX2_init_37 : decode cX2_init 37 = .ok (.bipush 10, 2) := by decide +kernel
theorem dX2_init_39 : decode cX2_init 39 = .ok (.newarray .int, 2) := by decide +kernel
theorem dX2_init_41 : decode cX2_init 41 = .ok (.putfield 24, 3) := by decide +kernel
theorem dX2_init_44 : decode cX2_init 44 = .ok (.aload_n 0, 1) := by decide +kernel
theorem dX2_init_45 : decode cX2_init 45 = .ok (.bipush 6, 2) := by decide +kernel
theorem dX2_init_47 : decode cX2_init 47 = .ok (.newarray .int, 2) := by decide +kernel
theorem dX2_init_49 : decode cX2_init 49 = .ok (.putfield 27, 3) := by decide +kernel
theorem dX2_init_52 : decode cX2_init 52 = .ok (.return_, 1) := by decide +kernel
theorem dX2_become_0 : decode cX2_become 0 = .ok (.aload_n 0, 1) := by decide +kernel
theorem dX2_become_1 : decode cX2_become 1 = .ok (.aload_n 1, 1) := by decide +kernel
theorem dX2_become_2 : decode cX2_become 2 = .ok (.getfield 30, 3) := by decide +kernel
theorem dX2_become_5 : decode cX2_become 5 = .ok (.putfield 30, 3) := by decide +kernel
theorem dX2_become_8 : decode cX2_become 8 = .ok (.aload_n 0, 1) := by decide +kernel
theorem dX2_become_9 : decode cX2_become 9 = .ok (.aload_n 1, 1) := by decide +kernel
theorem dX2_become_10 : decode cX2_become 10 = .ok (.getfield 34, 3) := by decide +kernel
theorem dX2_become_13 : decode cX2_become 13 = .ok (.putfield 34, 3) := by decide +kernel
theorem dX2_become_16 : decode cX2_become 16 = .ok (.aload_n 1, 1) := by decide +kernel
theorem dX2_become_17 : decode cX2_become 17 = .ok (.getfield 9, 3) := by decide +kernel
theorem dX2_become_20 : decode cX2_become 20 = .ok (.iconst 0, 1) := by decide +kernel
theorem dX2_become_21 : decode cX2_become 21 = .ok (.aload_n 0, 1) := by decide +kernel
theorem dX2_become_22 : decode cX2_become 22 = .ok (.getfield 9, 3) := by decide +kernel
theorem dX2_become_25 : decode cX2_become 25 = .ok (.iconst 0, 1) := by decide +kernel
theorem dX2_become_26 : decode cX2_become 26 = .ok (.bipush 10, 2) := by decide +kernel
theorem dX2_become_28 : decode cX2_become 28 = .ok (.invokestatic 37, 3) := by decide +kernel
theorem dX2_become_31 : decode cX2_become 31 = .ok (.aload_n 1, 1) := by decide +kernel
theorem dX2_become_32 : decode cX2_become 32 = .ok (.getfield 15, 3) := by decide +kernel
theorem dX2_become_35 : decode cX2_become 35 = .ok (.iconst 0, 1) := by decide +kernel
theorem dX2_become_36 : decode cX2_become 36 = .ok (.aload_n 0, 1) := by decide +kernel
theorem dX2_become_37 : decode cX2_become 37 = .ok (.getfield 15, 3) := by decide +kernel
theorem dX2_become_40 : decode cX2_become 40 = .ok (.iconst 0, 1) := by decide +kernel
theorem dX2_become_41 : decode cX2_become 41 = .ok (.bipush 10, 2) := by decide +kernel
theorem dX2_become_43 : decode cX2_become 43 = .ok (.invokestatic 37, 3) := by decide +kernel
theorem dX2_become_46 : decode cX2_become 46 = .ok (.aload_n 1, 1) := by decide +kernel
theorem dX2_become_47 : decode cX2_become 47 = .ok (.getfield 18, 3) := by decide +kernel
theorem dX2_become_50 : decode cX2_become 50 = .ok (.iconst 0, 1) := by decide +kernel
theorem dX2_become_51 : decode cX2_become 51 = .ok (.aload_n 0, 1) := by decide +kernel
theorem dX2_become_52 : decode cX2_become 52 = .ok (.getfield 18, 3) := by decide +kernel
theorem dX2_become_55 : decode cX2_become 55 = .ok (.iconst 0, 1) := by decide +kernel
theorem dX2_become_56 : decode cX2_become 56 = .ok (.bipush 10, 2) := by decide +kernel
theorem dX2_become_58 : decode cX2_become 58 = .ok (.invokestatic 37, 3) := by decide +kernel
theorem dX2_become_61 : decode cX2_become 61 = .ok (.aload_n 1, 1) := by decide +kernel
theorem dX2_become_62 : decode cX2_become 62 = .ok (.getfield 21, 3) := by decide +kernel
theorem dX2_become_65 : decode cX2_become 65 = .ok (.iconst 0, 1) := by decide +kernel
theorem dX2_become_66 : decode cX2_become 66 = .ok (.aload_n 0, 1) := by decide +kernel
theorem dX2_become_67 : decode cX2_become 67 = .ok (.getfield 21, 3) := by decide +kernel
theorem dX2_become_70 : decode cX2_become 70 = .ok (.iconst 0, 1) := by decide +kernel
theorem dX2_become_71 : decode cX2_become 71 = .ok (.bipush 10, 2) := by decide +kernel
theorem dX2_become_73 : decode cX2_become 73 = .ok (.invokestatic 37, 3) := by decide +kernel
theorem dX2_become_76 : decode cX2_become 76 = .ok (.aload_n 1, 1) := by decide +kernel
theorem dX2_become_77 : decode cX2_become 77 = .ok (.getfield 24, 3) := by decide +kernel
theorem dX2_become_80 : decode cX2_become 80 = .ok (.iconst 0, 1) := by decide +kernel
theorem dX2_become_81 : decode cX2_become 81 = .ok (.aload_n 0, 1) := by decide +kernel
theorem dX2_become_82 : decode cX2_become 82 = .ok (.getfield 24, 3) := by decide +kernel
theorem dX2_become_85 : decode cX2_become 85 = .ok (.iconst 0, 1) := by decide +kernel
theorem dX2_become_86 : decode cX2_become 86 = .ok (.bipush 10, 2) := by decide +kernel
theorem dX2_become_88 : decode cX2_become 88 = .ok (.invokestatic 37, 3) := by decide +kernel
theorem dX2_become_91 : decode cX2_become 91 = .ok (.aload_n 1, 1) := by decide +kernel
theorem dX2_become_92 : decode cX2_become 92 = .ok (.getfield 27, 3) := by decide +kernel
theorem dX2_become_95 : decode cX2_become 95 = .ok (.iconst 0, 1) := by decide +kernel
theorem dX2_become_96 : decode cX2_become 96 = .ok (.aload_n 0, 1) := by decide +kernel
theorem dX2_become_97 : decode cX2_become 97 = .ok (.getfield 27, 3) := by decide +kernel
theorem dX2_become_100 : decode cX2_become 100 = .ok (.iconst 0, 1) := by decide +kernel
theorem dX2_become_101 : decode cX2_become 101 = .ok (.bipush 6, 2) := by decide +kernel
theorem dX2_become_103 : decode cX2_become 103 = .ok (.invokestatic 37, 3) := by decide +kernel
theorem dX2_become_106 : decode cX2_become 106 = .ok (.return_, 1) := by decide +kernel
theorem dX2_pounds_0 : decode cX2_pounds 0 = .ok (.aload_n 0, 1) := by decide +kernel
theorem dX2_pounds_1 : decode cX2_pounds 1 = .ok (.getfield 9, 3) := by decide +kernel
theorem dX2_pounds_4 : decode cX2_pounds 4 = .ok (.iload_n 1, 1) := by decide +kernel
theorem dX2_pounds_5 : decode cX2_pounds 5 = .ok (.iaload, 1) := by decide +kernel
theorem dX2_pounds_6 : decode cX2_pounds 6 = .ok (.aload_n 0, 1) := by decide +kernel
theorem dX2_pounds_7 : decode cX2_pounds 7 = .ok (.getfield 18, 3) := by decide +kernel
theorem dX2_pounds_10 : decode cX2_pounds 10 = .ok (.iload_n 1, 1) := by decide +kernel
theorem dX2_pounds_11 : decode cX2_pounds 11 = .ok (.iaload, 1) := by decide +kernel
theorem dX2_pounds_12 : decode cX2_pounds 12 = .ok (.invokestatic 43, 3) := by decide +kernel
theorem dX2_pounds_15 : decode cX2_pounds 15 = .ok (.ireturn, 1) := by decide +kernel
theorem dX2_worth_0 : decode cX2_worth 0 = .ok (.aload_n 0, 1) := by decide +kernel
theorem dX2_worth_1 : decode cX2_worth 1 = .ok (.iload_n 1, 1) := by decide +kernel
theorem dX2_worth_2 : decode cX2_worth 2 = .ok (.invokevirtual 47, 3) := by decide +kernel
theorem dX2_worth_5 : decode cX2_worth 5 = .ok (.aload_n 2, 1) := by decide +kernel
theorem dX2_worth_6 : decode cX2_worth 6 = .ok (.aload_n 0, 1) := by decide +kernel
theorem dX2_worth_7 : decode cX2_worth 7 = .ok (.getfield 15, 3) := by decide +kernel
theorem dX2_worth_10 : decode cX2_worth 10 = .ok (.iload_n 1, 1) := by decide +kernel
theorem dX2_worth_11 : decode cX2_worth 11 = .ok (.iaload, 1) := by decide +kernel
theorem dX2_worth_12 : decode cX2_worth 12 = .ok (.iaload, 1) := by decide +kernel
theorem dX2_worth_13 : decode cX2_worth 13 = .ok (.imul, 1) := by decide +kernel
theorem dX2_worth_14 : decode cX2_worth 14 = .ok (.ireturn, 1) := by decide +kernel
theorem dX2_isOf_0 : decode cX2_isOf 0 = .ok (.aload_n 0, 1) := by decide +kernel
theorem dX2_isOf_1 : decode cX2_isOf 1 = .ok (.getfield 9, 3) := by decide +kernel
theorem dX2_isOf_4 : decode cX2_isOf 4 = .ok (.iload_n 1, 1) := by decide +kernel
theorem dX2_isOf_5 : decode cX2_isOf 5 = .ok (.iaload, 1) := by decide +kernel
theorem dX2_isOf_6 : decode cX2_isOf 6 = .ok (.iconst 1, 1) := by decide +kernel
theorem dX2_isOf_7 : decode cX2_isOf 7 = .ok (.iadd, 1) := by decide +kernel
theorem dX2_isOf_8 : decode cX2_isOf 8 = .ok (.istore_n 3, 1) := by decide +kernel
theorem dX2_isOf_9 : decode cX2_isOf 9 = .ok (.iconst 0, 1) := by decide +kernel
theorem dX2_isOf_10 : decode cX2_isOf 10 = .ok (.istore 4, 2) := by decide +kernel
theorem dX2_isOf_12 : decode cX2_isOf 12 = .ok (.iload 4, 2) := by decide +kernel
theorem dX2_isOf_14 : decode cX2_isOf 14 = .ok (.getstatic 51, 3) := by decide +kernel
theorem dX2_isOf_17 : decode cX2_isOf 17 = .ok (.arraylength, 1) := by decide +kernel
theorem dX2_isOf_18 : decode cX2_isOf 18 = .ok (.if_icmp .ge 27, 3) := by decide +kernel
theorem dX2_isOf_21 : decode cX2_isOf 21 = .ok (.iload_n 3, 1) := by decide +kernel
theorem dX2_isOf_22 : decode cX2_isOf 22 = .ok (.iconst (-1), 1) := by decide +kernel
theorem dX2_isOf_23 : decode cX2_isOf 23 = .ok (.if_icmp .eq 22, 3) := by decide +kernel
theorem dX2_isOf_26 : decode cX2_isOf 26 = .ok (.iload_n 3, 1) := by decide +kernel
theorem dX2_isOf_27 : decode cX2_isOf 27 = .ok (.iload_n 2, 1) := by decide +kernel
theorem dX2_isOf_28 : decode cX2_isOf 28 = .ok (.if_icmp .ne 5, 3) := by decide +kernel
theorem dX2_isOf_31 : decode cX2_isOf 31 = .ok (.iconst 1, 1) := by decide +kernel
theorem dX2_isOf_32 : decode cX2_isOf 32 = .ok (.ireturn, 1) := by decide +kernel
theorem dX2_isOf_33 : decode cX2_isOf 33 = .ok (.getstatic 51, 3) := by decide +kernel
theorem dX2_isOf_36 : decode cX2_isOf 36 = .ok (.iload_n 3, 1) := by decide +kernel
theorem dX2_isOf_37 : decode cX2_isOf 37 = .ok (.iaload, 1) := by decide +kernel
theorem dX2_isOf_38 : decode cX2_isOf 38 = .ok (.istore_n 3, 1) := by decide +kernel
theorem dX2_isOf_39 : decode cX2_isOf 39 = .ok (.iinc 4 1, 3) := by decide +kernel
theorem dX2_isOf_42 : decode cX2_isOf 42 = .ok (.goto (-30), 3) := by decide +kernel
theorem dX2_isOf_45 : decode cX2_isOf 45 = .ok (.iconst 0, 1) := by decide +kernel
theorem dX2_isOf_46 : decode cX2_isOf 46 = .ok (.ireturn, 1) := by decide +kernel
theorem dX2_boysIn_0 : decode cX2_boysIn 0 = .ok (.iconst 0, 1) := by decide +kernel
theorem dX2_boysIn_1 : decode cX2_boysIn 1 = .ok (.istore_n 2, 1) := by decide +kernel
theorem dX2_boysIn_2 : decode cX2_boysIn 2 = .ok (.iconst 0, 1) := by decide +kernel
theorem dX2_boysIn_3 : decode cX2_boysIn 3 = .ok (.istore_n 3, 1) := by decide +kernel
theorem dX2_boysIn_4 : decode cX2_boysIn 4 = .ok (.iload_n 3, 1) := by decide +kernel
theorem dX2_boysIn_5 : decode cX2_boysIn 5 = .ok (.aload_n 0, 1) := by decide +kernel
theorem dX2_boysIn_6 : decode cX2_boysIn 6 = .ok (.getfield 30, 3) := by decide +kernel
theorem dX2_boysIn_9 : decode cX2_boysIn 9 = .ok (.if_icmp .ge 22, 3) := by decide +kernel
theorem dX2_boysIn_12 : decode cX2_boysIn 12 = .ok (.aload_n 0, 1) := by decide +kernel
theorem dX2_boysIn_13 : decode cX2_boysIn 13 = .ok (.getfield 15, 3) := by decide +kernel
theorem dX2_boysIn_16 : decode cX2_boysIn 16 = .ok (.iload_n 3, 1) := by decide +kernel
theorem dX2_boysIn_17 : decode cX2_boysIn 17 = .ok (.iaload, 1) := by decide +kernel
theorem dX2_boysIn_18 : decode cX2_boysIn 18 = .ok (.iload_n 1, 1) := by decide +kernel
theorem dX2_boysIn_19 : decode cX2_boysIn 19 = .ok (.if_icmp .ne 6, 3) := by decide +kernel
theorem dX2_boysIn_22 : decode cX2_boysIn 22 = .ok (.iinc 2 1, 3) := by decide +kernel
theorem dX2_boysIn_25 : decode cX2_boysIn 25 = .ok (.iinc 3 1, 3) := by decide +kernel
theorem dX2_boysIn_28 : decode cX2_boysIn 28 = .ok (.goto (-24), 3) := by decide +kernel
theorem dX2_boysIn_31 : decode cX2_boysIn 31 = .ok (.iload_n 2, 1) := by decide +kernel
theorem dX2_boysIn_32 : decode cX2_boysIn 32 = .ok (.ireturn, 1) := by decide +kernel
theorem dX3_init_0 : decode cX3_init 0 = .ok (.aload_n 0, 1) := by decide +kernel
theorem dX3_init_1 : decode cX3_init 1 = .ok (.invokespecial 3, 3) := by decide +kernel
theorem dX3_init_4 : decode cX3_init 4 = .ok (.aload_n 0, 1) := by decide +kernel
theorem dX3_init_5 : decode cX3_init 5 = .ok (.bipush 6, 2) := by decide +kernel
theorem dX3_init_7 : decode cX3_init 7 = .ok (.newarray .int, 2) := by decide +kernel
theorem dX3_init_9 : decode cX3_init 9 = .ok (.putfield 9, 3) := by decide +kernel
theorem dX3_init_12 : decode cX3_init 12 = .ok (.aload_n 0, 1) := by decide +kernel
theorem dX3_init_13 : decode cX3_init 13 = .ok (.bipush 6, 2) := by decide +kernel
theorem dX3_init_15 : decode cX3_init 15 = .ok (.newarray .int, 2) := by decide +kernel
theorem dX3_init_17 : decode cX3_init 17 = .ok (.putfield 15, 3) := by decide +kernel
theorem dX3_init_20 : decode cX3_init 20 = .ok (.aload_n 0, 1) := by decide +kernel
theorem dX3_init_21 : decode cX3_init 21 = .ok (.bipush 6, 2) := by decide +kernel
theorem dX3_init_23 : decode cX3_init 23 = .ok (.newarray .int, 2) := by decide +kernel
theorem dX3_init_25 : decode cX3_init 25 = .ok (.putfield 18, 3) := by decide +kernel
theorem dX3_init_28 : decode cX3_init 28 = .ok (.aload_n 0, 1) := by decide +kernel
theorem dX3_init_29 : decode cX3_init 29 = .ok (.bipush 6, 2) := by decide +kernel
theorem dX3_init_31 : decode cX3_init 31 = .ok (.newarray .int, 2) := by decide +kernel
theorem dX3_init_33 : decode cX3_init 33 = .ok (.putfield 21, 3) := by decide +kernel
theorem dX3_init_36 : decode cX3_init 36 = .ok (.aload_n 0, 1) := by decide +kernel
theorem dX3_init_37 : decode cX3_init 37 = .ok (.bipush 6, 2) := by decide +kernel
theorem dX3_init_39 : decode cX3_init 39 = .ok (.newarray .int, 2) := by decide +kernel
theorem dX3_init_41 : decode cX3_init 41 = .ok (.putfield 24, 3) := by decide +kernel
theorem dX3_init_44 : decode cX3_init 44 = .ok (.aload_n 0, 1) := by decide +kernel
theorem dX3_init_45 : decode cX3_init 45 = .ok (.new 27, 3) := by decide +kernel
theorem dX3_init_48 : decode cX3_init 48 = .ok (.dup, 1) := by decide +kernel
theorem dX3_init_49 : decode cX3_init 49 = .ok (.invokespecial 29, 3) := by decide +kernel
theorem dX3_init_52 : decode cX3_init 52 = .ok (.putfield 30, 3) := by decide +kernel
theorem dX3_init_55 : decode cX3_init 55 = .ok (.return_, 1) := by decide +kernel
theorem dX3_begin_0 : decode cX3_begin 0 = .ok (.aload_n 0, 1) := by decide +kernel
theorem dX3_begin_1 : decode cX3_begin 1 = .ok (.iload_n 1, 1) := by decide +kernel
theorem dX3_begin_2 : decode cX3_begin 2 = .ok (.putfield 34, 3) := by decide +kernel
theorem dX3_begin_5 : decode cX3_begin 5 = .ok (.aload_n 0, 1) := by decide +kernel
theorem dX3_begin_6 : decode cX3_begin 6 = .ok (.iconst 0, 1) := by decide +kernel
theorem dX3_begin_7 : decode cX3_begin 7 = .ok (.putfield 38, 3) := by decide +kernel
theorem dX3_begin_10 : decode cX3_begin 10 = .ok (.aload_n 0, 1) := by decide +kernel
theorem dX3_begin_11 : decode cX3_begin 11 = .ok (.iconst 0, 1) := by decide +kernel
theorem dX3_begin_12 : decode cX3_begin 12 = .ok (.putfield 41, 3) := by decide +kernel
theorem dX3_begin_15 : decode cX3_begin 15 = .ok (.iconst 0, 1) := by decide +kernel
theorem dX3_begin_16 : decode cX3_begin 16 = .ok (.istore_n 2, 1) := by decide +kernel
theorem dX3_begin_17 : decode cX3_begin 17 = .ok (.iload_n 2, 1) := by decide +kernel
theorem dX3_begin_18 : decode cX3_begin 18 = .ok (.bipush 6, 2) := by decide +kernel
theorem dX3_begin_20 : decode cX3_begin 20 = .ok (.if_icmp .ge 57, 3) := by decide +kernel
theorem dX3_begin_23 : decode cX3_begin 23 = .ok (.aload_n 0, 1) := by decide +kernel
theorem dX3_begin_24 : decode cX3_begin 24 = .ok (.getfield 9, 3) := by decide +kernel
theorem dX3_begin_27 : decode cX3_begin 27 = .ok (.iload_n 2, 1) := by decide +kernel
theorem dX3_begin_28 : decode cX3_begin 28 = .ok (.iconst 0, 1) := by decide +kernel
theorem dX3_begin_29 : decode cX3_begin 29 = .ok (.iastore, 1) := by decide +kernel
theorem dX3_begin_30 : decode cX3_begin 30 = .ok (.aload_n 0, 1) := by decide +kernel
theorem dX3_begin_31 : decode cX3_begin 31 = .ok (.getfield 15, 3) := by decide +kernel
theorem dX3_begin_34 : decode cX3_begin 34 = .ok (.iload_n 2, 1) := by decide +kernel
theorem dX3_begin_35 : decode cX3_begin 35 = .ok (.iconst 1, 1) := by decide +kernel
theorem dX3_begin_36 : decode cX3_begin 36 = .ok (.iastore, 1) := by decide +kernel
theorem dX3_begin_37 : decode cX3_begin 37 = .ok (.aload_n 0, 1) := by decide +kernel
theorem dX3_begin_38 : decode cX3_begin 38 = .ok (.getfield 18, 3) := by decide +kernel
theorem dX3_begin_41 : decode cX3_begin 41 = .ok (.iload_n 2, 1) := by decide +kernel
theorem dX3_begin_42 : decode cX3_begin 42 = .ok (.iconst 1, 1) := by decide +kernel
theorem dX3_begin_43 : decode cX3_begin 43 = .ok (.iastore, 1) := by decide +kernel
theorem dX3_begin_44 : decode cX3_begin 44 = .ok (.aload_n 0, 1) := by decide +kernel
theorem dX3_begin_45 : decode cX3_begin 45 = .ok (.getfield 21, 3) := by decide +kernel
theorem dX3_begin_48 : decode cX3_begin 48 = .ok (.iload_n 2, 1) := by decide +kernel
theorem dX3_begin_49 : decode cX3_begin 49 = .ok (.iconst (-1), 1) := by decide +kernel
theorem dX3_begin_50 : decode cX3_begin 50 = .ok (.iastore, 1) := by decide +kernel
theorem dX3_begin_51 : decode cX3_begin 51 = .ok (.aload_n 0, 1) := by decide +kernel
theorem dX3_begin_52 : decode cX3_begin 52 = .ok (.getfield 24, 3) := by decide +kernel
theorem dX3_begin_55 : decode cX3_begin 55 = .ok (.iload_n 2, 1) := by decide +kernel
theorem dX3_begin_56 : decode cX3_begin 56 = .ok (.iload_n 2, 1) := by decide +kernel
theorem dX3_begin_57 : decode cX3_begin 57 = .ok (.iconst 1, 1) := by decide +kernel
theorem dX3_begin_58 : decode cX3_begin 58 = .ok (.iadd, 1) := by decide +kernel
theorem dX3_begin_59 : decode cX3_begin 59 = .ok (.iload_n 1, 1) := by decide +kernel
theorem dX3_begin_60 : decode cX3_begin 60 = .ok (.if_icmp .ge 9, 3) := by decide +kernel
theorem dX3_begin_63 : decode cX3_begin 63 = .ok (.iload_n 2, 1) := by decide +kernel
theorem dX3_begin_64 : decode cX3_begin 64 = .ok (.iconst 1, 1) := by decide +kernel
theorem dX3_begin_65 : decode cX3_begin 65 = .ok (.iadd, 1) := by decide +kernel
theorem dX3_begin_66 : decode cX3_begin 66 = .ok (.goto 4, 3) := by decide +kernel
theorem dX3_begin_69 : decode cX3_begin 69 = .ok (.iconst 0, 1) := by decide +kernel
theorem dX3_begin_70 : decode cX3_begin 70 = .ok (.iastore, 1) := by decide +kernel
theorem dX3_begin_71 : decode cX3_begin 71 = .ok (.iinc 2 1, 3) := by decide +kernel
theorem dX3_begin_74 : decode cX3_begin 74 = .ok (.goto (-57), 3) := by decide +kernel
theorem dX3_begin_77 : decode cX3_begin 77 = .ok (.aload_n 0, 1) := by decide +kernel
theorem dX3_begin_78 : decode cX3_begin 78 = .ok (.getfield 30, 3) := by decide +kernel
theorem dX3_begin_81 : decode cX3_begin 81 = .ok (.iconst 0, 1) := by decide +kernel
theorem dX3_begin_82 : decode cX3_begin 82 = .ok (.putfield 44, 3) := by decide +kernel
theorem dX3_begin_85 : decode cX3_begin 85 = .ok (.return_, 1) := by decide +kernel
