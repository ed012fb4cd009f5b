theorem dX3_become_0 : decode cX3_become 0 = .ok (.aload_n 0, 1) := by decide +kernel
theorem dX3_become_1 : decode cX3_become 1 = .ok (.aload_n 1, 1) := by decide +kernel
theorem dX3_become_2 : decode cX3_become 2 = .ok (.getfield 34, 3) := by decide +kernel
theorem dX3_become_5 : decode cX3_become 5 = .ok (.putfield 34, 3) := by decide +kernel
theorem dX3_become_8 : decode cX3_become 8 = .ok (.aload_n 0, 1) := by decide +kernel
theorem dX3_become_9 : decode cX3_become 9 = .ok (.aload_n 1, 1) := by decide +kernel
theorem dX3_become_10 : decode cX3_become 10 = .ok (.getfield 38, 3) := by decide +kernel
theorem dX3_become_13 : decode cX3_become 13 = .ok (.putfield 38, 3) := by decide +kernel
theorem dX3_become_16 : decode cX3_become 16 = .ok (.aload_n 0, 1) := by decide +kernel
theorem dX3_become_17 : decode cX3_become 17 = .ok (.aload_n 1, 1) := by decide +kernel
theorem dX3_become_18 : decode cX3_become 18 = .ok (.getfield 41, 3) := by decide +kernel
theorem dX3_become_21 : decode cX3_become 21 = .ok (.putfield 41, 3) := by decide +kernel
theorem dX3_become_24 : decode cX3_become 24 = .ok (.aload_n 1, 1) := by decide +kernel
theorem dX3_become_25 : decode cX3_become 25 = .ok (.getfield 9, 3) := by decide +kernel
theorem dX3_become_28 : decode cX3_become 28 = .ok (.iconst 0, 1) := by decide +kernel
theorem dX3_become_29 : decode cX3_become 29 = .ok (.aload_n 0, 1) := by decide +kernel
theorem dX3_become_30 : decode cX3_become 30 = .ok (.getfield 9, 3) := by decide +kernel
theorem dX3_become_33 : decode cX3_become 33 = .ok (.iconst 0, 1) := by decide +kernel
theorem dX3_become_34 : decode cX3_become 34 = .ok (.bipush 6, 2) := by decide +kernel
theorem dX3_become_36 : decode cX3_become 36 = .ok (.invokestatic 47, 3) := by decide +kernel
theorem dX3_become_39 : decode cX3_become 39 = .ok (.aload_n 1, 1) := by decide +kernel
theorem dX3_become_40 : decode cX3_become 40 = .ok (.getfield 15, 3) := by decide +kernel
theorem dX3_become_43 : decode cX3_become 43 = .ok (.iconst 0, 1) := by decide +kernel
theorem dX3_become_44 : decode cX3_become 44 = .ok (.aload_n 0, 1) := by decide +kernel
theorem dX3_become_45 : decode cX3_become 45 = .ok (.getfield 15, 3) := by decide +kernel
theorem dX3_become_48 : decode cX3_become 48 = .ok (.iconst 0, 1) := by decide +kernel
theorem dX3_become_49 : decode cX3_become 49 = .ok (.bipush 6, 2) := by decide +kernel
theorem dX3_become_51 : decode cX3_become 51 = .ok (.invokestatic 47, 3) := by decide +kernel
theorem dX3_become_54 : decode cX3_become 54 = .ok (.aload_n 1, 1) := by decide +kernel
theorem dX3_become_55 : decode cX3_become 55 = .ok (.getfield 18, 3) := by decide +kernel
theorem dX3_become_58 : decode cX3_become 58 = .ok (.iconst 0, 1) := by decide +kernel
theorem dX3_become_59 : decode cX3_become 59 = .ok (.aload_n 0, 1) := by decide +kernel
theorem dX3_become_60 : decode cX3_become 60 = .ok (.getfield 18, 3) := by decide +kernel
theorem dX3_become_63 : decode cX3_become 63 = .ok (.iconst 0, 1) := by decide +kernel
theorem dX3_become_64 : decode cX3_become 64 = .ok (.bipush 6, 2) := by decide +kernel
theorem dX3_become_66 : decode cX3_become 66 = .ok (.invokestatic 47, 3) := by decide +kernel
theorem dX3_become_69 : decode cX3_become 69 = .ok (.aload_n 1, 1) := by decide +kernel
theorem dX3_become_70 : decode cX3_become 70 = .ok (.getfield 21, 3) := by decide +kernel
theorem dX3_become_73 : decode cX3_become 73 = .ok (.iconst 0, 1) := by decide +kernel
theorem dX3_become_74 : decode cX3_become 74 = .ok (.aload_n 0, 1) := by decide +kernel
theorem dX3_become_75 : decode cX3_become 75 = .ok (.getfield 21, 3) := by decide +kernel
theorem dX3_become_78 : decode cX3_become 78 = .ok (.iconst 0, 1) := by decide +kernel
theorem dX3_become_79 : decode cX3_become 79 = .ok (.bipush 6, 2) := by decide +kernel
theorem dX3_become_81 : decode cX3_become 81 = .ok (.invokestatic 47, 3) := by decide +kernel
theorem dX3_become_84 : decode cX3_become 84 = .ok (.aload_n 1, 1) := by decide +kernel
theorem dX3_become_85 : decode cX3_become 85 = .ok (.getfield 24, 3) := by decide +kernel
theorem dX3_become_88 : decode cX3_become 88 = .ok (.iconst 0, 1) := by decide +kernel
theorem dX3_become_89 : decode cX3_become 89 = .ok (.aload_n 0, 1) := by decide +kernel
theorem dX3_become_90 : decode cX3_become 90 = .ok (.getfield 24, 3) := by decide +kernel
theorem dX3_become_93 : decode cX3_become 93 = .ok (.iconst 0, 1) := by decide +kernel
theorem dX3_become_94 : decode cX3_become 94 = .ok (.bipush 6, 2) := by decide +kernel
theorem dX3_become_96 : decode cX3_become 96 = .ok (.invokestatic 47, 3) := by decide +kernel
theorem dX3_become_99 : decode cX3_become 99 = .ok (.aload_n 0, 1) := by decide +kernel
theorem dX3_become_100 : decode cX3_become 100 = .ok (.getfield 30, 3) := by decide +kernel
theorem dX3_become_103 : decode cX3_become 103 = .ok (.aload_n 1, 1) := by decide +kernel
theorem dX3_become_104 : decode cX3_become 104 = .ok (.getfield 30, 3) := by decide +kernel
theorem dX3_become_107 : decode cX3_become 107 = .ok (.invokevirtual 53, 3) := by decide +kernel
theorem dX3_become_110 : decode cX3_become 110 = .ok (.return_, 1) := by decide +kernel
theorem dX3_addBoy_0 : decode cX3_addBoy 0 = .ok (.aload_n 0, 1) := by decide +kernel
theorem dX3_addBoy_1 : decode cX3_addBoy 1 = .ok (.getfield 30, 3) := by decide +kernel
theorem dX3_addBoy_4 : decode cX3_addBoy 4 = .ok (.getfield 44, 3) := by decide +kernel
theorem dX3_addBoy_7 : decode cX3_addBoy 7 = .ok (.istore_n 3, 1) := by decide +kernel
theorem dX3_addBoy_8 : decode cX3_addBoy 8 = .ok (.iload_n 3, 1) := by decide +kernel
theorem dX3_addBoy_9 : decode cX3_addBoy 9 = .ok (.bipush 10, 2) := by decide +kernel
theorem dX3_addBoy_11 : decode cX3_addBoy 11 = .ok (.if_icmp .lt 4, 3) := by decide +kernel
theorem dX3_addBoy_14 : decode cX3_addBoy 14 = .ok (.return_, 1) := by decide +kernel
theorem dX3_addBoy_15 : decode cX3_addBoy 15 = .ok (.aload_n 0, 1) := by decide +kernel
theorem dX3_addBoy_16 : decode cX3_addBoy 16 = .ok (.getfield 30, 3) := by decide +kernel
theorem dX3_addBoy_19 : decode cX3_addBoy 19 = .ok (.getfield 57, 3) := by decide +kernel
theorem dX3_addBoy_22 : decode cX3_addBoy 22 = .ok (.iload_n 3, 1) := by decide +kernel
theorem dX3_addBoy_23 : decode cX3_addBoy 23 = .ok (.iload_n 1, 1) := by decide +kernel
theorem dX3_addBoy_24 : decode cX3_addBoy 24 = .ok (.iastore, 1) := by decide +kernel
theorem dX3_addBoy_25 : decode cX3_addBoy 25 = .ok (.aload_n 0, 1) := by decide +kernel
theorem dX3_addBoy_26 : decode cX3_addBoy 26 = .ok (.getfield 30, 3) := by decide +kernel
theorem dX3_addBoy_29 : decode cX3_addBoy 29 = .ok (.getfield 60, 3) := by decide +kernel
theorem dX3_addBoy_32 : decode cX3_addBoy 32 = .ok (.iload_n 3, 1) := by decide +kernel
theorem dX3_addBoy_33 : decode cX3_addBoy 33 = .ok (.aload_n 2, 1) := by decide +kernel
theorem dX3_addBoy_34 : decode cX3_addBoy 34 = .ok (.iconst 0, 1) := by decide +kernel
theorem dX3_addBoy_35 : decode cX3_addBoy 35 = .ok (.iaload, 1) := by decide +kernel
theorem dX3_addBoy_36 : decode cX3_addBoy 36 = .ok (.iastore, 1) := by decide +kernel
theorem dX3_addBoy_37 : decode cX3_addBoy 37 = .ok (.aload_n 0, 1) := by decide +kernel
theorem dX3_addBoy_38 : decode cX3_addBoy 38 = .ok (.getfield 30, 3) := by decide +kernel
theorem dX3_addBoy_41 : decode cX3_addBoy 41 = .ok (.getfield 63, 3) := by decide +kernel
theorem dX3_addBoy_44 : decode cX3_addBoy 44 = .ok (.iload_n 3, 1) := by decide +kernel
theorem dX3_addBoy_45 : decode cX3_addBoy 45 = .ok (.aload_n 2, 1) := by decide +kernel
theorem dX3_addBoy_46 : decode cX3_addBoy 46 = .ok (.iconst 1, 1) := by decide +kernel
theorem dX3_addBoy_47 : decode cX3_addBoy 47 = .ok (.iaload, 1) := by decide +kernel
theorem dX3_addBoy_48 : decode cX3_addBoy 48 = .ok (.iastore, 1) := by decide +kernel
theorem dX3_addBoy_49 : decode cX3_addBoy 49 = .ok (.aload_n 0, 1) := by decide +kernel
theorem dX3_addBoy_50 : decode cX3_addBoy 50 = .ok (.getfield 30, 3) := by decide +kernel
theorem dX3_addBoy_53 : decode cX3_addBoy 53 = .ok (.getfield 66, 3) := by decide +kernel
theorem dX3_addBoy_56 : decode cX3_addBoy 56 = .ok (.iload_n 3, 1) := by decide +kernel
theorem dX3_addBoy_57 : decode cX3_addBoy 57 = .ok (.aload_n 2, 1) := by decide +kernel
theorem dX3_addBoy_58 : decode cX3_addBoy 58 = .ok (.iconst 2, 1) := by decide +kernel
theorem dX3_addBoy_59 : decode cX3_addBoy 59 = .ok (.iaload, 1) := by decide +kernel
theorem dX3_addBoy_60 : decode cX3_addBoy 60 = .ok (.iastore, 1) := by decide +kernel
theorem dX3_addBoy_61 : decode cX3_addBoy 61 = .ok (.aload_n 0, 1) := by decide +kernel
theorem dX3_addBoy_62 : decode cX3_addBoy 62 = .ok (.getfield 30, 3) := by decide +kernel
theorem dX3_addBoy_65 : decode cX3_addBoy 65 = .ok (.getfield 69, 3) := by decide +kernel
theorem dX3_addBoy_68 : decode cX3_addBoy 68 = .ok (.iload_n 3, 1) := by decide +kernel
theorem dX3_addBoy_69 : decode cX3_addBoy 69 = .ok (.aload_n 2, 1) := by decide +kernel
theorem dX3_addBoy_70 : decode cX3_addBoy 70 = .ok (.iconst 3, 1) := by decide +kernel
theorem dX3_addBoy_71 : decode cX3_addBoy 71 = .ok (.iaload, 1) := by decide +kernel
theorem dX3_addBoy_72 : decode cX3_addBoy 72 = .ok (.iastore, 1) := by decide +kernel
theorem dX3_addBoy_73 : decode cX3_addBoy 73 = .ok (.aload_n 0, 1) := by decide +kernel
theorem dX3_addBoy_74 : decode cX3_addBoy 74 = .ok (.getfield 30, 3) := by decide +kernel
theorem dX3_addBoy_77 : decode cX3_addBoy 77 = .ok (.iload_n 3, 1) := by decide +kernel
theorem dX3_addBoy_78 : decode cX3_addBoy 78 = .ok (.iconst 1, 1) := by decide +kernel
theorem dX3_addBoy_79 : decode cX3_addBoy 79 = .ok (.iadd, 1) := by decide +kernel
theorem dX3_addBoy_80 : decode cX3_addBoy 80 = .ok (.putfield 44, 3) := by decide +kernel
theorem dX3_addBoy_83 : decode cX3_addBoy 83 = .ok (.return_, 1) := by decide +kernel
theorem dX4_init_0 : decode cX4_init 0 = .ok (.aload_n 0, 1) := by decide +kernel
theorem dX4_init_1 : decode cX4_init 1 = .ok (.invokespecial 3, 3) := by decide +kernel
theorem dX4_init_4 : decode cX4_init 4 = .ok (.aload_n 0, 1) := by decide +kernel
theorem dX4_init_5 : decode cX4_init 5 = .ok (.new 9, 3) := by decide +kernel
theorem dX4_init_8 : decode cX4_init 8 = .ok (.dup, 1) := by decide +kernel
theorem dX4_init_9 : decode cX4_init 9 = .ok (.invokespecial 11, 3) := by decide +kernel
theorem dX4_init_12 : decode cX4_init 12 = .ok (.putfield 12, 3) := by decide +kernel
theorem dX4_init_15 : decode cX4_init 15 = .ok (.aload_n 0, 1) := by decide +kernel
theorem dX4_init_16 : decode cX4_init 16 = .ok (.iconst 4, 1) := by decide +kernel
theorem dX4_init_17 : decode cX4_init 17 = .ok (.newarray .int, 2) := by decide +kernel
theorem dX4_init_19 : decode cX4_init 19 = .ok (.putfield 18, 3) := by decide +kernel
theorem dX4_init_22 : decode cX4_init 22 = .ok (.aload_n 0, 1) := by decide +kernel
theorem dX4_init_23 : decode cX4_init 23 = .ok (.aload_n 1, 1) := by decide +kernel
theorem dX4_init_24 : decode cX4_init 24 = .ok (.putfield 22, 3) := by decide +kernel
theorem dX4_init_27 : decode cX4_init 27 = .ok (.return_, 1) := by decide +kernel
theorem dX4_readFrom_0 : decode cX4_readFrom 0 = .ok (.aload_n 0, 1) := by decide +kernel
theorem dX4_readFrom_1 : decode cX4_readFrom 1 = .ok (.getfield 12, 3) := by decide +kernel
theorem dX4_readFrom_4 : decode cX4_readFrom 4 = .ok (.aload_n 1, 1) := by decide +kernel
theorem dX4_readFrom_5 : decode cX4_readFrom 5 = .ok (.invokevirtual 26, 3) := by decide +kernel
theorem dX4_readFrom_8 : decode cX4_readFrom 8 = .ok (.aload_n 0, 1) := by decide +kernel
theorem dX4_readFrom_9 : decode cX4_readFrom 9 = .ok (.iconst 0, 1) := by decide +kernel
theorem dX4_readFrom_10 : decode cX4_readFrom 10 = .ok (.putfield 30, 3) := by decide +kernel
theorem dX4_readFrom_13 : decode cX4_readFrom 13 = .ok (.aload_n 0, 1) := by decide +kernel
theorem dX4_readFrom_14 : decode cX4_readFrom 14 = .ok (.iconst 1, 1) := by decide +kernel
theorem dX4_readFrom_15 : decode cX4_readFrom 15 = .ok (.putfield 34, 3) := by decide +kernel
theorem dX4_readFrom_18 : decode cX4_readFrom 18 = .ok (.aload_n 0, 1) := by decide +kernel
theorem dX4_readFrom_19 : decode cX4_readFrom 19 = .ok (.getfield 34, 3) := by decide +kernel
theorem dX4_readFrom_22 : decode cX4_readFrom 22 = .ok (.bipush 10, 2) := by decide +kernel
theorem dX4_readFrom_24 : decode cX4_readFrom 24 = .ok (.if_icmp .gt 66, 3) := by decide +kernel
theorem dX4_readFrom_27 : decode cX4_readFrom 27 = .ok (.aload_n 0, 1) := by decide +kernel
theorem dX4_readFrom_28 : decode cX4_readFrom 28 = .ok (.invokevirtual 37, 3) := by decide +kernel
theorem dX4_readFrom_31 : decode cX4_readFrom 31 = .ok (.aload_n 0, 1) := by decide +kernel
theorem dX4_readFrom_32 : decode cX4_readFrom 32 = .ok (.invokevirtual 40, 3) := by decide +kernel
theorem dX4_readFrom_35 : decode cX4_readFrom 35 = .ok (.ifCond .ne 8, 3) := by decide +kernel
theorem dX4_readFrom_38 : decode cX4_readFrom 38 = .ok (.aload_n 0, 1) := by decide +kernel
theorem dX4_readFrom_39 : decode cX4_readFrom 39 = .ok (.getfield 44, 3) := by decide +kernel
theorem dX4_readFrom_42 : decode cX4_readFrom 42 = .ok (.ireturn, 1) := by decide +kernel
theorem dX4_readFrom_43 : decode cX4_readFrom 43 = .ok (.aload_n 0, 1) := by decide +kernel
theorem dX4_readFrom_44 : decode cX4_readFrom 44 = .ok (.invokevirtual 37, 3) := by decide +kernel
theorem dX4_readFrom_47 : decode cX4_readFrom 47 = .ok (.aload_n 0, 1) := by decide +kernel
theorem dX4_readFrom_48 : decode cX4_readFrom 48 = .ok (.getfield 47, 3) := by decide +kernel
theorem dX4_readFrom_51 : decode cX4_readFrom 51 = .ok (.ifCond .ne 5, 3) := by decide +kernel
theorem dX4_readFrom_54 : decode cX4_readFrom 54 = .ok (.iconst (-1), 1) := by decide +kernel
theorem dX4_readFrom_55 : decode cX4_readFrom 55 = .ok (.ireturn, 1) := by decide +kernel
theorem dX4_readFrom_56 : decode cX4_readFrom 56 = .ok (.aload_n 0, 1) := by decide +kernel
theorem dX4_readFrom_57 : decode cX4_readFrom 57 = .ok (.getfield 22, 3) := by decide +kernel
theorem dX4_readFrom_60 : decode cX4_readFrom 60 = .ok (.aload_n 0, 1) := by decide +kernel
theorem dX4_readFrom_61 : decode cX4_readFrom 61 = .ok (.getfield 44, 3) := by decide +kernel
theorem dX4_readFrom_64 : decode cX4_readFrom 64 = .ok (.invokevirtual 50, 3) := by decide +kernel
theorem dX4_readFrom_67 : decode cX4_readFrom 67 = .ok (.bipush 59, 2) := by decide +kernel
theorem dX4_readFrom_69 : decode cX4_readFrom 69 = .ok (.if_icmp .eq 8, 3) := by decide +kernel
theorem dX4_readFrom_72 : decode cX4_readFrom 72 = .ok (.aload_n 0, 1) := by decide +kernel
theorem dX4_readFrom_73 : decode cX4_readFrom 73 = .ok (.getfield 44, 3) := by decide +kernel
theorem dX4_readFrom_76 : decode cX4_readFrom 76 = .ok (.ireturn, 1) := by decide +kernel
theorem dX4_readFrom_77 : decode cX4_readFrom 77 = .ok (.aload_n 0, 1) := by decide +kernel
theorem dX4_readFrom_78 : decode cX4_readFrom 78 = .ok (.dup, 1) := by decide +kernel
theorem dX4_readFrom_79 : decode cX4_readFrom 79 = .ok (.getfield 34, 3) := by decide +kernel
theorem dX4_readFrom_82 : decode cX4_readFrom 82 = .ok (.iconst 1, 1) := by decide +kernel
theorem dX4_readFrom_83 : decode cX4_readFrom 83 = .ok (.iadd, 1) := by decide +kernel
theorem dX4_readFrom_84 : decode cX4_readFrom 84 = .ok (.putfield 34, 3) := by decide +kernel
theorem dX4_readFrom_87 : decode cX4_readFrom 87 = .ok (.goto (-69), 3) := by decide +kernel
theorem dX4_readFrom_90 : decode cX4_readFrom 90 = .ok (.aload_n 0, 1) := by decide +kernel
theorem dX4_readFrom_91 : decode cX4_readFrom 91 = .ok (.getfield 44, 3) := by decide +kernel
theorem dX4_readFrom_94 : decode cX4_readFrom 94 = .ok (.ireturn, 1) := by decide +kernel
theorem dX4_takeToken_0 : decode cX4_takeToken 0 = .ok (.aload_n 0, 1) := by decide +kernel
theorem dX4_takeToken_1 : decode cX4_takeToken 1 = .ok (.aload_n 0, 1) := by decide +kernel
theorem dX4_takeToken_2 : decode cX4_takeToken 2 = .ok (.getfield 30, 3) := by decide +kernel
theorem dX4_takeToken_5 : decode cX4_takeToken 5 = .ok (.putfield 44, 3) := by decide +kernel
theorem dX4_takeToken_8 : decode cX4_takeToken 8 = .ok (.aload_n 0, 1) := by decide +kernel
theorem dX4_takeToken_9 : decode cX4_takeToken 9 = .ok (.getfield 44, 3) := by decide +kernel
theorem dX4_takeToken_12 : decode cX4_takeToken 12 = .ok (.aload_n 0, 1) := by decide +kernel
theorem dX4_takeToken_13 : decode cX4_takeToken 13 = .ok (.getfield 22, 3) := by decide +kernel
theorem dX4_takeToken_16 : decode cX4_takeToken 16 = .ok (.getfield 56, 3) := by decide +kernel
theorem dX4_takeToken_19 : decode cX4_takeToken 19 = .ok (.if_icmp .ge 34, 3) := by decide +kernel
theorem dX4_takeToken_22 : decode cX4_takeToken 22 = .ok (.aload_n 0, 1) := by decide +kernel
theorem dX4_takeToken_23 : decode cX4_takeToken 23 = .ok (.getfield 22, 3) := by decide +kernel
theorem dX4_takeToken_26 : decode cX4_takeToken 26 = .ok (.aload_n 0, 1) := by decide +kernel
theorem dX4_takeToken_27 : decode cX4_takeToken 27 = .ok (.getfield 44, 3) := by decide +kernel
theorem dX4_takeToken_30 : decode cX4_takeToken 30 = .ok (.invokevirtual 50, 3) := by decide +kernel
theorem dX4_takeToken_33 : decode cX4_takeToken 33 = .ok (.invokestatic 59, 3) := by decide +kernel
theorem dX4_takeToken_36 : decode cX4_takeToken 36 = .ok (.iconst 1, 1) := by decide +kernel
theorem dX4_takeToken_37 : decode cX4_takeToken 37 = .ok (.if_icmp .ne 16, 3) := by decide +kernel
theorem dX4_takeToken_40 : decode cX4_takeToken 40 = .ok (.aload_n 0, 1) := by decide +kernel
theorem dX4_takeToken_41 : decode cX4_takeToken 41 = .ok (.dup, 1) := by decide +kernel
theorem dX4_takeToken_42 : decode cX4_takeToken 42 = .ok (.getfield 44, 3) := by decide +kernel
theorem dX4_takeToken_45 : decode cX4_takeToken 45 = .ok (.iconst 1, 1) := by decide +kernel
theorem dX4_takeToken_46 : decode cX4_takeToken 46 = .ok (.iadd, 1) := by decide +kernel
theorem dX4_takeToken_47 : decode cX4_takeToken 47 = .ok (.putfield 44, 3) := by decide +kernel
theorem dX4_takeToken_50 : decode cX4_takeToken 50 = .ok (.goto (-42), 3) := by decide +kernel
theorem dX4_takeToken_53 : decode cX4_takeToken 53 = .ok (.aload_n 0, 1) := by decide +kernel
theorem dX4_takeToken_54 : decode cX4_takeToken 54 = .ok (.aload_n 0, 1) := by decide +kernel
theorem dX4_takeToken_55 : decode cX4_takeToken 55 = .ok (.getfield 22, 3) := by decide +kernel
theorem dX4_takeToken_58 : decode cX4_takeToken 58 = .ok (.aload_n 0, 1) := by decide +kernel
theorem dX4_takeToken_59 : decode cX4_takeToken 59 = .ok (.getfield 44, 3) := by decide +kernel
theorem dX4_takeToken_62 : decode cX4_takeToken 62 = .ok (.invokevirtual 50, 3) := by decide +kernel
theorem dX4_takeToken_65 : decode cX4_takeToken 65 = .ok (.invokestatic 59, 3) := by decide +kernel
theorem dX4_takeToken_68 : decode cX4_takeToken 68 = .ok (.putfield 47, 3) := by decide +kernel
theorem dX4_takeToken_71 : decode cX4_takeToken 71 = .ok (.aload_n 0, 1) := by decide +kernel
theorem dX4_takeToken_72 : decode cX4_takeToken 72 = .ok (.aload_n 0, 1) := by decide +kernel
theorem dX4_takeToken_73 : decode cX4_takeToken 73 = .ok (.getfield 44, 3) := by decide +kernel
theorem dX4_takeToken_76 : decode cX4_takeToken 76 = .ok (.iconst 1, 1) := by decide +kernel
theorem dX4_takeToken_77 : decode cX4_takeToken 77 = .ok (.iadd, 1) := by decide +kernel
theorem dX4_takeToken_78 : decode cX4_takeToken 78 = .ok (.aload_n 0, 1) := by decide +kernel
theorem dX4_takeToken_79 : decode cX4_takeToken 79 = .ok (.getfield 22, 3) := by decide +kernel
theorem dX4_takeToken_82 : decode cX4_takeToken 82 = .ok (.getfield 56, 3) := by decide +kernel
theorem dX4_takeToken_85 : decode cX4_takeToken 85 = .ok (.invokestatic 62, 3) := by decide +kernel
theorem dX4_takeToken_88 : decode cX4_takeToken 88 = .ok (.putfield 30, 3) := by decide +kernel
theorem dX4_takeToken_91 : decode cX4_takeToken 91 = .ok (.aload_n 0, 1) := by decide +kernel
theorem dX4_takeToken_92 : decode cX4_takeToken 92 = .ok (.getfield 47, 3) := by decide +kernel
theorem dX4_takeToken_95 : decode cX4_takeToken 95 = .ok (.iconst 2, 1) := by decide +kernel
theorem dX4_takeToken_96 : decode cX4_takeToken 96 = .ok (.if_icmp .eq 12, 3) := by decide +kernel
theorem dX4_takeToken_99 : decode cX4_takeToken 99 = .ok (.aload_n 0, 1) := by decide +kernel
theorem dX4_takeToken_100 : decode cX4_takeToken 100 = .ok (.getfield 47, 3) := by decide +kernel
theorem dX4_takeToken_103 : decode cX4_takeToken 103 = .ok (.iconst 3, 1) := by decide +kernel
theorem dX4_takeToken_104 : decode cX4_takeToken 104 = .ok (.if_icmp .eq 4, 3) := by decide +kernel
theorem dX4_takeToken_107 : decode cX4_takeToken 107 = .ok (.return_, 1) := by decide +kernel
theorem dX4_takeToken_108 : decode cX4_takeToken 108 = .ok (.aload_n 0, 1) := by decide +kernel
theorem dX4_takeToken_109 : decode cX4_takeToken 109 = .ok (.getfield 30, 3) := by decide +kernel
theorem dX4_takeToken_112 : decode cX4_takeToken 112 = .ok (.aload_n 0, 1) := by decide +kernel
theorem dX4_takeToken_113 : decode cX4_takeToken 113 = .ok (.getfield 22, 3) := by decide +kernel
theorem dX4_takeToken_116 : decode cX4_takeToken 116 = .ok (.getfield 56, 3) := by decide +kernel
theorem dX4_takeToken_119 : decode cX4_takeToken 119 = .ok (.if_icmp .ge 37, 3) := by decide +kernel
theorem dX4_takeToken_122 : decode cX4_takeToken 122 = .ok (.aload_n 0, 1) := by decide +kernel
theorem dX4_takeToken_123 : decode cX4_takeToken 123 = .ok (.getfield 22, 3) := by decide +kernel
theorem dX4_takeToken_126 : decode cX4_takeToken 126 = .ok (.aload_n 0, 1) := by decide +kernel
theorem dX4_takeToken_127 : decode cX4_takeToken 127 = .ok (.getfield 30, 3) := by decide +kernel
theorem dX4_takeToken_130 : decode cX4_takeToken 130 = .ok (.invokevirtual 50, 3) := by decide +kernel
theorem dX4_takeToken_133 : decode cX4_takeToken 133 = .ok (.invokestatic 59, 3) := by decide +kernel
theorem dX4_takeToken_136 : decode cX4_takeToken 136 = .ok (.aload_n 0, 1) := by decide +kernel
theorem dX4_takeToken_137 : decode cX4_takeToken 137 = .ok (.getfield 47, 3) := by decide +kernel
theorem dX4_takeToken_140 : decode cX4_takeToken 140 = .ok (.if_icmp .ne 16, 3) := by decide +kernel
theorem dX4_takeToken_143 : decode cX4_takeToken 143 = .ok (.aload_n 0, 1) := by decide +kernel
theorem dX4_takeToken_144 : decode cX4_takeToken 144 = .ok (.dup, 1) := by decide +kernel
theorem dX4_takeToken_145 : decode cX4_takeToken 145 = .ok (.getfield 30, 3) := by decide +kernel
theorem dX4_takeToken_148 : decode cX4_takeToken 148 = .ok (.iconst 1, 1) := by decide +kernel
theorem dX4_takeToken_149 : decode cX4_takeToken 149 = .ok (.iadd, 1) := by decide +kernel
theorem dX4_takeToken_150 : decode cX4_takeToken 150 = .ok (.putfield 30, 3) := by decide +kernel
theorem dX4_takeToken_153 : decode cX4_takeToken 153 = .ok (.goto (-45), 3) := by decide +kernel
theorem dX4_takeToken_156 : decode cX4_takeToken 156 = .ok (.return_, 1) := by decide +kernel
theorem dX4_formOf_0 : decode cX4_formOf 0 = .ok (.iload_n 0, 1) := by decide +kernel
theorem dX4_formOf_1 : decode cX4_formOf 1 = .ok (.iconst (-1), 1) := by decide +kernel
theorem dX4_formOf_2 : decode cX4_formOf 2 = .ok (.if_icmp .ne 5, 3) := by decide +kernel
theorem dX4_formOf_5 : decode cX4_formOf 5 = .ok (.iconst 0, 1) := by decide +kernel
theorem dX4_formOf_6 : decode cX4_formOf 6 = .ok (.ireturn, 1) := by decide +kernel
theorem dX4_formOf_7 : decode cX4_formOf 7 = .ok (.iload_n 0, 1) := by decide +kernel
theorem dX4_formOf_8 : decode cX4_formOf 8 = .ok (.bipush 32, 2) := by decide +kernel
theorem dX4_formOf_10 : decode cX4_formOf 10 = .ok (.if_icmp .ne 5, 3) := by decide +kernel
theorem dX4_formOf_13 : decode cX4_formOf 13 = .ok (.iconst 1, 1) := by decide +kernel
theorem dX4_formOf_14 : decode cX4_formOf 14 = .ok (.ireturn, 1) := by decide +kernel
theorem dX4_formOf_15 : decode cX4_formOf 15 = .ok (.iload_n 0, 1) := by decide +kernel
theorem dX4_formOf_16 : decode cX4_formOf 16 = .ok (.bipush 97, 2) := by decide +kernel
theorem dX4_formOf_18 : decode cX4_formOf 18 = .ok (.if_icmp .lt 11, 3) := by decide +kernel
theorem dX4_formOf_21 : decode cX4_formOf 21 = .ok (.iload_n 0, 1) := by decide +kernel
theorem dX4_formOf_22 : decode cX4_formOf 22 = .ok (.bipush 122, 2) := by decide +kernel
theorem dX4_formOf_24 : decode cX4_formOf 24 = .ok (.if_icmp .gt 5, 3) := by decide +kernel
theorem dX4_formOf_27 : decode cX4_formOf 27 = .ok (.iconst 2, 1) := by decide +kernel
theorem dX4_formOf_28 : decode cX4_formOf 28 = .ok (.ireturn, 1) := by decide +kernel
theorem dX4_formOf_29 : decode cX4_formOf 29 = .ok (.iload_n 0, 1) := by decide +kernel
theorem dX4_formOf_30 : decode cX4_formOf 30 = .ok (.bipush 48, 2) := by decide +kernel
theorem dX4_formOf_32 : decode cX4_formOf 32 = .ok (.if_icmp .lt 13, 3) := by decide +kernel
theorem dX4_formOf_35 : decode cX4_formOf 35 = .ok (.iload_n 0, 1) := by decide +kernel
theorem dX4_formOf_36 : decode cX4_formOf 36 = .ok (.bipush 57, 2) := by decide +kernel
theorem dX4_formOf_38 : decode cX4_formOf 38 = .ok (.if_icmp .gt 7, 3) := by decide +kernel
theorem dX4_formOf_41 : decode cX4_formOf 41 = .ok (.iconst 3, 1) := by decide +kernel
theorem dX4_formOf_42 : decode cX4_formOf 42 = .ok (.goto 4, 3) := by decide +kernel
theorem dX4_formOf_45 : decode cX4_formOf 45 = .ok (.iconst 4, 1) := by decide +kernel
theorem dX4_formOf_46 : decode cX4_formOf 46 = .ok (.ireturn, 1) := by decide +kernel
theorem dX4_readLine_0 : decode cX4_readLine 0 = .ok (.aload_n 0, 1) := by decide +kernel
theorem dX4_readLine_1 : decode cX4_readLine 1 = .ok (.invokevirtual 68, 3) := by decide +kernel
theorem dX4_readLine_4 : decode cX4_readLine 4 = .ok (.istore_n 1, 1) := by decide +kernel
theorem dX4_readLine_5 : decode cX4_readLine 5 = .ok (.iload_n 1, 1) := by decide +kernel
theorem dX4_readLine_6 : decode cX4_readLine 6 = .ok (.tableswitch 114 (-1) 13 #[74, 76, 81, 86, 91, 114, 114, 114, 114, 114, 114, 114, 114, 96, 101], 74) := by decide +kernel
theorem dX4_readLine_80 : decode cX4_readLine 80 = .ok (.iconst 0, 1) := by decide +kernel
theorem dX4_readLine_81 : decode cX4_readLine 81 = .ok (.ireturn, 1) := by decide +kernel
theorem dX4_readLine_82 : decode cX4_readLine 82 = .ok (.aload_n 0, 1) := by decide +kernel
theorem dX4_readLine_83 : decode cX4_readLine 83 = .ok (.invokevirtual 72, 3) := by decide +kernel
theorem dX4_readLine_86 : decode cX4_readLine 86 = .ok (.ireturn, 1) := by decide +kernel
theorem dX4_readLine_87 : decode cX4_readLine 87 = .ok (.aload_n 0, 1) := by decide +kernel
theorem dX4_readLine_88 : decode cX4_readLine 88 = .ok (.invokevirtual 75, 3) := by decide +kernel
theorem dX4_readLine_91 : decode cX4_readLine 91 = .ok (.ireturn, 1) := by decide +kernel
theorem dX4_readLine_92 : decode cX4_readLine 92 = .ok (.aload_n 0, 1) := by decide +kernel
theorem dX4_readLine_93 : decode cX4_readLine 93 = .ok (.invokevirtual 78, 3) := by decide +kernel
theorem dX4_readLine_96 : decode cX4_readLine 96 = .ok (.ireturn, 1) := by decide +kernel
theorem dX4_readLine_97 : decode cX4_readLine 97 = .ok (.aload_n 0, 1) := by decide +kernel
theorem dX4_readLine_98 : decode cX4_readLine 98 = .ok (.invokevirtual 81, 3) := by decide +kernel
theorem dX4_readLine_101 : decode cX4_readLine 101 = .ok (.ireturn, 1) := by decide +kernel
theorem dX4_readLine_102 : decode cX4_readLine 102 = .ok (.aload_n 0, 1) := by decide +kernel
theorem dX4_readLine_103 : decode cX4_readLine 103 = .ok (.invokevirtual 84, 3) := by decide +kernel
theorem dX4_readLine_106 : decode cX4_readLine 106 = .ok (.ireturn, 1) := by decide +kernel
theorem dX4_readLine_107 : decode cX4_readLine 107 = .ok (.aload_n 0, 1) := by decide +kernel
theorem dX4_readLine_108 : decode cX4_readLine 108 = .ok (.getfield 12, 3) := by decide +kernel
theorem dX4_readLine_111 : decode cX4_readLine 111 = .ok (.getfield 87, 3) := by decide +kernel
theorem dX4_readLine_114 : decode cX4_readLine 114 = .ok (.iconst 0, 1) := by decide +kernel
theorem dX4_readLine_115 : decode cX4_readLine 115 = .ok (.putfield 91, 3) := by decide +kernel
theorem dX4_readLine_118 : decode cX4_readLine 118 = .ok (.iconst 1, 1) := by decide +kernel
theorem dX4_readLine_119 : decode cX4_readLine 119 = .ok (.ireturn, 1) := by decide +kernel
theorem dX4_readLine_120 : decode cX4_readLine 120 = .ok (.iload_n 1, 1) := by decide +kernel
theorem dX4_readLine_121 : decode cX4_readLine 121 = .ok (.bipush 8, 2) := by decide +kernel
theorem dX4_readLine_123 : decode cX4_readLine 123 = .ok (.if_icmp .ge 11, 3) := by decide +kernel
theorem dX4_readLine_126 : decode cX4_readLine 126 = .ok (.aload_n 0, 1) := by decide +kernel
theorem dX4_readLine_127 : decode cX4_readLine 127 = .ok (.iload_n 1, 1) := by decide +kernel
theorem dX4_readLine_128 : decode cX4_readLine 128 = .ok (.iconst 4, 1) := by decide +kernel
theorem dX4_readLine_129 : decode cX4_readLine 129 = .ok (.isub, 1) := by decide +kernel
theorem dX4_readLine_130 : decode cX4_readLine 130 = .ok (.invokevirtual 96, 3) := by decide +kernel
theorem dX4_readLine_133 : decode cX4_readLine 133 = .ok (.ireturn, 1) := by decide +kernel
theorem dX4_readLine_134 : decode cX4_readLine 134 = .ok (.aload_n 0, 1) := by decide +kernel
theorem dX4_readLine_135 : decode cX4_readLine 135 = .ok (.getfield 12, 3) := by decide +kernel
theorem dX4_readLine_138 : decode cX4_readLine 138 = .ok (.iload_n 1, 1) := by decide +kernel
theorem dX4_readLine_139 : decode cX4_readLine 139 = .ok (.bipush 8, 2) := by decide +kernel
theorem dX4_readLine_141 : decode cX4_readLine 141 = .ok (.isub, 1) := by decide +kernel
theorem dX4_readLine_142 : decode cX4_readLine 142 = .ok (.putfield 100, 3) := by decide +kernel
theorem dX4_readLine_145 : decode cX4_readLine 145 = .ok (.iconst 1, 1) := by decide +kernel
theorem dX4_readLine_146 : decode cX4_readLine 146 = .ok (.ireturn, 1) := by decide +kernel
theorem dX4_readLeague_0 : decode cX4_readLeague 0 = .ok (.aload_n 0, 1) := by decide +kernel
theorem dX4_readLeague_1 : decode cX4_readLeague 1 = .ok (.iconst 0, 1) := by decide +kernel
theorem dX4_readLeague_2 : decode cX4_readLeague 2 = .ok (.iconst 2, 1) := by decide +kernel
theorem dX4_readLeague_3 : decode cX4_readLeague 3 = .ok (.bipush 6, 2) := by decide +kernel
theorem dX4_readLeague_5 : decode cX4_readLeague 5 = .ok (.invokevirtual 103, 3) := by decide +kernel
theorem dX4_readLeague_8 : decode cX4_readLeague 8 = .ok (.ifCond .ne 5, 3) := by decide +kernel
theorem dX4_readLeague_11 : decode cX4_readLeague 11 = .ok (.iconst 0, 1) := by decide +kernel
theorem dX4_readLeague_12 : decode cX4_readLeague 12 = .ok (.ireturn, 1) := by decide +kernel
theorem dX4_readLeague_13 : decode cX4_readLeague 13 = .ok (.aload_n 0, 1) := by decide +kernel
theorem dX4_readLeague_14 : decode cX4_readLeague 14 = .ok (.getfield 12, 3) := by decide +kernel
theorem dX4_readLeague_17 : decode cX4_readLeague 17 = .ok (.aload_n 0, 1) := by decide +kernel
theorem dX4_readLeague_18 : decode cX4_readLeague 18 = .ok (.getfield 18, 3) := by decide +kernel
theorem dX4_readLeague_21 : decode cX4_readLeague 21 = .ok (.iconst 0, 1) := by decide +kernel
theorem dX4_readLeague_22 : decode cX4_readLeague 22 = .ok (.iaload, 1) := by decide +kernel
theorem dX4_readLeague_23 : decode cX4_readLeague 23 = .ok (.invokevirtual 107, 3) := by decide +kernel
theorem dX4_readLeague_26 : decode cX4_readLeague 26 = .ok (.iconst 1, 1) := by decide +kernel
theorem dX4_readLeague_27 : decode cX4_readLeague 27 = .ok (.ireturn, 1) := by decide +kernel
theorem dX4_readTown_0 : decode cX4_readTown 0 = .ok (.aload_n 0, 1) := by decide +kernel
theorem dX4_readTown_1 : decode cX4_readTown 1 = .ok (.iconst 0, 1) := by decide +kernel
theorem dX4_readTown_2 : decode cX4_readTown 2 = .ok (.iconst 0, 1) := by decide +kernel
theorem dX4_readTown_3 : decode cX4_readTown 3 = .ok (.aload_n 0, 1) := by decide +kernel
theorem dX4_readTown_4 : decode cX4_readTown 4 = .ok (.getfield 12, 3) := by decide +kernel
theorem dX4_readTown_7 : decode cX4_readTown 7 = .ok (.getfield 111, 3) := by decide +kernel
theorem dX4_readTown_10 : decode cX4_readTown 10 = .ok (.iconst 1, 1) := by decide +kernel
theorem dX4_readTown_11 : decode cX4_readTown 11 = .ok (.isub, 1) := by decide +kernel
theorem dX4_readTown_12 : decode cX4_readTown 12 = .ok (.invokevirtual 103, 3) := by decide +kernel
theorem dX4_readTown_15 : decode cX4_readTown 15 = .ok (.ifCond .eq 34, 3) := by decide +kernel
theorem dX4_readTown_18 : decode cX4_readTown 18 = .ok (.aload_n 0, 1) := by decide +kernel
theorem dX4_readTown_19 : decode cX4_readTown 19 = .ok (.iconst 1, 1) := by decide +kernel
theorem dX4_readTown_20 : decode cX4_readTown 20 = .ok (.iconst 0, 1) := by decide +kernel
theorem dX4_readTown_21 : decode cX4_readTown 21 = .ok (.iconst 3, 1) := by decide +kernel
theorem dX4_readTown_22 : decode cX4_readTown 22 = .ok (.invokevirtual 103, 3) := by decide +kernel
theorem dX4_readTown_25 : decode cX4_readTown 25 = .ok (.ifCond .eq 24, 3) := by decide +kernel
theorem dX4_readTown_28 : decode cX4_readTown 28 = .ok (.aload_n 0, 1) := by decide +kernel
theorem dX4_readTown_29 : decode cX4_readTown 29 = .ok (.iconst 2, 1) := by decide +kernel
theorem dX4_readTown_30 : decode cX4_readTown 30 = .ok (.iconst 1, 1) := by decide +kernel
theorem dX4_readTown_31 : decode cX4_readTown 31 = .ok (.bipush 9, 2) := by decide +kernel
theorem dX4_readTown_33 : decode cX4_readTown 33 = .ok (.invokevirtual 103, 3) := by decide +kernel
theorem dX4_readTown_36 : decode cX4_readTown 36 = .ok (.ifCond .eq 13, 3) := by decide +kernel
theorem dX4_readTown_39 : decode cX4_readTown 39 = .ok (.aload_n 0, 1) := by decide +kernel
theorem dX4_readTown_40 : decode cX4_readTown 40 = .ok (.iconst 3, 1) := by decide +kernel
theorem dX4_readTown_41 : decode cX4_readTown 41 = .ok (.iconst 0, 1) := by decide +kernel
theorem dX4_readTown_42 : decode cX4_readTown 42 = .ok (.iconst 3, 1) := by decide +kernel
theorem dX4_readTown_43 : decode cX4_readTown 43 = .ok (.invokevirtual 103, 3) := by decide +kernel
theorem dX4_readTown_46 : decode cX4_readTown 46 = .ok (.ifCond .ne 5, 3) := by decide +kernel
theorem dX4_readTown_49 : decode cX4_readTown 49 = .ok (.iconst 0, 1) := by decide +kernel
theorem dX4_readTown_50 : decode cX4_readTown 50 = .ok (.ireturn, 1) := by decide +kernel
theorem dX4_readTown_51 : decode cX4_readTown 51 = .ok (.aload_n 0, 1) := by decide +kernel
theorem dX4_readTown_52 : decode cX4_readTown 52 = .ok (.getfield 12, 3) := by decide +kernel
theorem dX4_readTown_55 : decode cX4_readTown 55 = .ok (.getfield 114, 3) := by decide +kernel
theorem dX4_readTown_58 : decode cX4_readTown 58 = .ok (.aload_n 0, 1) := by decide +kernel
theorem dX4_readTown_59 : decode cX4_readTown 59 = .ok (.getfield 18, 3) := by decide +kernel
theorem dX4_readTown_62 : decode cX4_readTown 62 = .ok (.iconst 0, 1) := by decide +kernel
theorem dX4_readTown_63 : decode cX4_readTown 63 = .ok (.iaload, 1) := by decide +kernel
theorem dX4_readTown_64 : decode cX4_readTown 64 = .ok (.aload_n 0, 1) := by decide +kernel
theorem dX4_readTown_65 : decode cX4_readTown 65 = .ok (.getfield 18, 3) := by decide +kernel
theorem dX4_readTown_68 : decode cX4_readTown 68 = .ok (.iconst 1, 1) := by decide +kernel
theorem dX4_readTown_69 : decode cX4_readTown 69 = .ok (.iaload, 1) := by decide +kernel
theorem dX4_readTown_70 : decode cX4_readTown 70 = .ok (.iastore, 1) := by decide +kernel
theorem dX4_readTown_71 : decode cX4_readTown 71 = .ok (.aload_n 0, 1) := by decide +kernel
theorem dX4_readTown_72 : decode cX4_readTown 72 = .ok (.getfield 12, 3) := by decide +kernel
theorem dX4_readTown_75 : decode cX4_readTown 75 = .ok (.getfield 117, 3) := by decide +kernel
theorem dX4_readTown_78 : decode cX4_readTown 78 = .ok (.aload_n 0, 1) := by decide +kernel
theorem dX4_readTown_79 : decode cX4_readTown 79 = .ok (.getfield 18, 3) := by decide +kernel
theorem dX4_readTown_82 : decode cX4_readTown 82 = .ok (.iconst 0, 1) := by decide +kernel
theorem dX4_readTown_83 : decode cX4_readTown 83 = .ok (.iaload, 1) := by decide +kernel
theorem dX4_readTown_84 : decode cX4_readTown 84 = .ok (.aload_n 0, 1) := by decide +kernel
theorem dX4_readTown_85 : decode cX4_readTown 85 = .ok (.getfield 18, 3) := by decide +kernel
theorem dX4_readTown_88 : decode cX4_readTown 88 = .ok (.iconst 2, 1) := by decide +kernel
theorem dX4_readTown_89 : decode cX4_readTown 89 = .ok (.iaload, 1) := by decide +kernel
theorem dX4_readTown_90 : decode cX4_readTown 90 = .ok (.iastore, 1) := by decide +kernel
theorem dX4_readTown_91 : decode cX4_readTown 91 = .ok (.aload_n 0, 1) := by decide +kernel
theorem dX4_readTown_92 : decode cX4_readTown 92 = .ok (.getfield 12, 3) := by decide +kernel
theorem dX4_readTown_95 : decode cX4_readTown 95 = .ok (.getfield 120, 3) := by decide +kernel
theorem dX4_readTown_98 : decode cX4_readTown 98 = .ok (.aload_n 0, 1) := by decide +kernel
theorem dX4_readTown_99 : decode cX4_readTown 99 = .ok (.getfield 18, 3) := by decide +kernel
theorem dX4_readTown_102 : decode cX4_readTown 102 = .ok (.iconst 0, 1) := by decide +kernel
theorem dX4_readTown_103 : decode cX4_readTown 103 = .ok (.iaload, 1) := by decide +kernel
theorem dX4_readTown_104 : decode cX4_readTown 104 = .ok (.aload_n 0, 1) := by decide +kernel
theorem dX4_readTown_105 : decode cX4_readTown 105 = .ok (.getfield 18, 3) := by decide +kernel
theorem dX4_readTown_108 : decode cX4_readTown 108 = .ok (.iconst 3, 1) := by decide +kernel
theorem dX4_readTown_109 : decode cX4_readTown 109 = .ok (.iaload, 1) := by decide +kernel
theorem dX4_readTown_110 : decode cX4_readTown 110 = .ok (.iastore, 1) := by decide +kernel
theorem dX4_readTown_111 : decode cX4_readTown 111 = .ok (.iconst 1, 1) := by decide +kernel
theorem dX4_readTown_112 : decode cX4_readTown 112 = .ok (.ireturn, 1) := by decide +kernel
theorem dX4_readWant_0 : decode cX4_readWant 0 = .ok (.aload_n 0, 1) := by decide +kernel
theorem dX4_readWant_1 : decode cX4_readWant 1 = .ok (.iconst 0, 1) := by decide +kernel
theorem dX4_readWant_2 : decode cX4_readWant 2 = .ok (.iconst 0, 1) := by decide +kernel
theorem dX4_readWant_3 : decode cX4_readWant 3 = .ok (.aload_n 0, 1) := by decide +kernel
theorem dX4_readWant_4 : decode cX4_readWant 4 = .ok (.getfield 12, 3) := by decide +kernel
theorem dX4_readWant_7 : decode cX4_readWant 7 = .ok (.getfield 111, 3) := by decide +kernel
theorem dX4_readWant_10 : decode cX4_readWant 10 = .ok (.iconst 1, 1) := by decide +kernel
theorem dX4_readWant_11 : decode cX4_readWant 11 = .ok (.isub, 1) := by decide +kernel
theorem dX4_readWant_12 : decode cX4_readWant 12 = .ok (.invokevirtual 103, 3) := by decide +kernel
theorem dX4_readWant_15 : decode cX4_readWant 15 = .ok (.ifCond .eq 13, 3) := by decide +kernel
theorem dX4_readWant_18 : decode cX4_readWant 18 = .ok (.aload_n 0, 1) := by decide +kernel
theorem dX4_readWant_19 : decode cX4_readWant 19 = .ok (.iconst 1, 1) := by decide +kernel
theorem dX4_readWant_20 : decode cX4_readWant 20 = .ok (.iconst 0, 1) := by decide +kernel
theorem dX4_readWant_21 : decode cX4_readWant 21 = .ok (.iconst 3, 1) := by decide +kernel
theorem dX4_readWant_22 : decode cX4_readWant 22 = .ok (.invokevirtual 103, 3) := by decide +kernel
theorem dX4_readWant_25 : decode cX4_readWant 25 = .ok (.ifCond .ne 5, 3) := by decide +kernel
theorem dX4_readWant_28 : decode cX4_readWant 28 = .ok (.iconst 0, 1) := by decide +kernel
theorem dX4_readWant_29 : decode cX4_readWant 29 = .ok (.ireturn, 1) := by decide +kernel
theorem dX4_readWant_30 : decode cX4_readWant 30 = .ok (.aload_n 0, 1) := by decide +kernel
theorem dX4_readWant_31 : decode cX4_readWant 31 = .ok (.getfield 12, 3) := by decide +kernel
theorem dX4_readWant_34 : decode cX4_readWant 34 = .ok (.getfield 123, 3) := by decide +kernel
theorem dX4_readWant_37 : decode cX4_readWant 37 = .ok (.aload_n 0, 1) := by decide +kernel
theorem dX4_readWant_38 : decode cX4_readWant 38 = .ok (.getfield 18, 3) := by decide +kernel
theorem dX4_readWant_41 : decode cX4_readWant 41 = .ok (.iconst 0, 1) := by decide +kernel
theorem dX4_readWant_42 : decode cX4_readWant 42 = .ok (.iaload, 1) := by decide +kernel
theorem dX4_readWant_43 : decode cX4_readWant 43 = .ok (.aload_n 0, 1) := by decide +kernel
theorem dX4_readWant_44 : decode cX4_readWant 44 = .ok (.getfield 18, 3) := by decide +kernel
theorem dX4_readWant_47 : decode cX4_readWant 47 = .ok (.iconst 1, 1) := by decide +kernel
theorem dX4_readWant_48 : decode cX4_readWant 48 = .ok (.iaload, 1) := by decide +kernel
theorem dX4_readWant_49 : decode cX4_readWant 49 = .ok (.iastore, 1) := by decide +kernel
theorem dX4_readWant_50 : decode cX4_readWant 50 = .ok (.iconst 1, 1) := by decide +kernel
theorem dX4_readWant_51 : decode cX4_readWant 51 = .ok (.ireturn, 1) := by decide +kernel
theorem dX4_readNext_0 : decode cX4_readNext 0 = .ok (.aload_n 0, 1) := by decide +kernel
theorem dX4_readNext_1 : decode cX4_readNext 1 = .ok (.getfield 12, 3) := by decide +kernel
theorem dX4_readNext_4 : decode cX4_readNext 4 = .ok (.getfield 111, 3) := by decide +kernel
theorem dX4_readNext_7 : decode cX4_readNext 7 = .ok (.iconst 1, 1) := by decide +kernel
theorem dX4_readNext_8 : decode cX4_readNext 8 = .ok (.isub, 1) := by decide +kernel
theorem dX4_readNext_9 : decode cX4_readNext 9 = .ok (.istore_n 1, 1) := by decide +kernel
theorem dX4_readNext_10 : decode cX4_readNext 10 = .ok (.aload_n 0, 1) := by decide +kernel
theorem dX4_readNext_11 : decode cX4_readNext 11 = .ok (.iconst 0, 1) := by decide +kernel
theorem dX4_readNext_12 : decode cX4_readNext 12 = .ok (.iconst 0, 1) := by decide +kernel
theorem dX4_readNext_13 : decode cX4_readNext 13 = .ok (.iload_n 1, 1) := by decide +kernel
theorem dX4_readNext_14 : decode cX4_readNext 14 = .ok (.invokevirtual 103, 3) := by decide +kernel
theorem dX4_readNext_17 : decode cX4_readNext 17 = .ok (.ifCond .eq 28, 3) := by decide +kernel
theorem dX4_readNext_20 : decode cX4_readNext 20 = .ok (.aload_n 0, 1) := by decide +kernel
theorem dX4_readNext_21 : decode cX4_readNext 21 = .ok (.iconst 1, 1) := by decide +kernel
theorem dX4_readNext_22 : decode cX4_readNext 22 = .ok (.iconst 0, 1) := by decide +kernel
theorem dX4_readNext_23 : decode cX4_readNext 23 = .ok (.iload_n 1, 1) := by decide +kernel
theorem dX4_readNext_24 : decode cX4_readNext 24 = .ok (.invokevirtual 103, 3) := by decide +kernel
theorem dX4_readNext_27 : decode cX4_readNext 27 = .ok (.ifCond .eq 18, 3) := by decide +kernel
theorem dX4_readNext_30 : decode cX4_readNext 30 = .ok (.aload_n 0, 1) := by decide +kernel
theorem dX4_readNext_31 : decode cX4_readNext 31 = .ok (.getfield 18, 3) := by decide +kernel
theorem dX4_readNext_34 : decode cX4_readNext 34 = .ok (.iconst 0, 1) := by decide +kernel
theorem dX4_readNext_35 : decode cX4_readNext 35 = .ok (.iaload, 1) := by decide +kernel
theorem dX4_readNext_36 : decode cX4_readNext 36 = .ok (.aload_n 0, 1) := by decide +kernel
theorem dX4_readNext_37 : decode cX4_readNext 37 = .ok (.getfield 18, 3) := by decide +kernel
theorem dX4_readNext_40 : decode cX4_readNext 40 = .ok (.iconst 1, 1) := by decide +kernel
theorem dX4_readNext_41 : decode cX4_readNext 41 = .ok (.iaload, 1) := by decide +kernel
theorem dX4_readNext_42 : decode cX4_readNext 42 = .ok (.if_icmp .ne 5, 3) := by decide +kernel
theorem dX4_readNext_45 : decode cX4_readNext 45 = .ok (.iconst 0, 1) := by decide +kernel
theorem dX4_readNext_46 : decode cX4_readNext 46 = .ok (.ireturn, 1) := by decide +kernel
theorem dX4_readNext_47 : decode cX4_readNext 47 = .ok (.aload_n 0, 1) := by decide +kernel
theorem dX4_readNext_48 : decode cX4_readNext 48 = .ok (.getfield 12, 3) := by decide +kernel
theorem dX4_readNext_51 : decode cX4_readNext 51 = .ok (.getfield 126, 3) := by decide +kernel
theorem dX4_readNext_54 : decode cX4_readNext 54 = .ok (.aload_n 0, 1) := by decide +kernel
theorem dX4_readNext_55 : decode cX4_readNext 55 = .ok (.getfield 18, 3) := by decide +kernel
theorem dX4_readNext_58 : decode cX4_readNext 58 = .ok (.iconst 0, 1) := by decide +kernel
theorem dX4_readNext_59 : decode cX4_readNext 59 = .ok (.iaload, 1) := by decide +kernel
theorem dX4_readNext_60 : decode cX4_readNext 60 = .ok (.aload_n 0, 1) := by decide +kernel
theorem dX4_readNext_61 : decode cX4_readNext 61 = .ok (.getfield 18, 3) := by decide +kernel
theorem dX4_readNext_64 : decode cX4_readNext 64 = .ok (.iconst 1, 1) := by decide +kernel
theorem dX4_readNext_65 : decode cX4_readNext 65 = .ok (.iaload, 1) := by decide +kernel
theorem dX4_readNext_66 : decode cX4_readNext 66 = .ok (.iastore, 1) := by decide +kernel
theorem dX4_readNext_67 : decode cX4_readNext 67 = .ok (.iconst 1, 1) := by decide +kernel
theorem dX4_readNext_68 : decode cX4_readNext 68 = .ok (.ireturn, 1) := by decide +kernel
theorem dX4_readBoy_0 : decode cX4_readBoy 0 = .ok (.aload_n 0, 1) := by decide +kernel
theorem dX4_readBoy_1 : decode cX4_readBoy 1 = .ok (.getfield 12, 3) := by decide +kernel
theorem dX4_readBoy_4 : decode cX4_readBoy 4 = .ok (.getfield 87, 3) := by decide +kernel
theorem dX4_readBoy_7 : decode cX4_readBoy 7 = .ok (.getfield 91, 3) := by decide +kernel
theorem dX4_readBoy_10 : decode cX4_readBoy 10 = .ok (.bipush 10, 2) := by decide +kernel
theorem dX4_readBoy_12 : decode cX4_readBoy 12 = .ok (.if_icmp .lt 5, 3) := by decide +kernel
theorem dX4_readBoy_15 : decode cX4_readBoy 15 = .ok (.iconst 0, 1) := by decide +kernel
theorem dX4_readBoy_16 : decode cX4_readBoy 16 = .ok (.ireturn, 1) := by decide +kernel
theorem dX4_readBoy_17 : decode cX4_readBoy 17 = .ok (.aload_n 0, 1) := by decide +kernel
theorem dX4_readBoy_18 : decode cX4_readBoy 18 = .ok (.iconst 0, 1) := by decide +kernel
theorem dX4_readBoy_19 : decode cX4_readBoy 19 = .ok (.iconst 0, 1) := by decide +kernel
theorem dX4_readBoy_20 : decode cX4_readBoy 20 = .ok (.aload_n 0, 1) := by decide +kernel
theorem dX4_readBoy_21 : decode cX4_readBoy 21 = .ok (.getfield 12, 3) := by decide +kernel
theorem dX4_readBoy_24 : decode cX4_readBoy 24 = .ok (.getfield 111, 3) := by decide +kernel
theorem dX4_readBoy_27 : decode cX4_readBoy 27 = .ok (.iconst 1, 1) := by decide +kernel
theorem dX4_readBoy_28 : decode cX4_readBoy 28 = .ok (.isub, 1) := by decide +kernel
theorem dX4_readBoy_29 : decode cX4_readBoy 29 = .ok (.invokevirtual 103, 3) := by decide +kernel
theorem dX4_readBoy_32 : decode cX4_readBoy 32 = .ok (.ifCond .eq 35, 3) := by decide +kernel
theorem dX4_readBoy_35 : decode cX4_readBoy 35 = .ok (.aload_n 0, 1) := by decide +kernel
theorem dX4_readBoy_36 : decode cX4_readBoy 36 = .ok (.iconst 1, 1) := by decide +kernel
theorem dX4_readBoy_37 : decode cX4_readBoy 37 = .ok (.iconst 1, 1) := by decide +kernel
theorem dX4_readBoy_38 : decode cX4_readBoy 38 = .ok (.bipush 99, 2) := by decide +kernel
theorem dX4_readBoy_40 : decode cX4_readBoy 40 = .ok (.invokevirtual 103, 3) := by decide +kernel
theorem dX4_readBoy_43 : decode cX4_readBoy 43 = .ok (.ifCond .eq 24, 3) := by decide +kernel
theorem dX4_readBoy_46 : decode cX4_readBoy 46 = .ok (.aload_n 0, 1) := by decide +kernel
theorem dX4_readBoy_47 : decode cX4_readBoy 47 = .ok (.iconst 2, 1) := by decide +kernel
theorem dX4_readBoy_48 : decode cX4_readBoy 48 = .ok (.iconst 0, 1) := by decide +kernel
theorem dX4_readBoy_49 : decode cX4_readBoy 49 = .ok (.iconst 3, 1) := by decide +kernel
theorem dX4_readBoy_50 : decode cX4_readBoy 50 = .ok (.invokevirtual 103, 3) := by decide +kernel
theorem dX4_readBoy_53 : decode cX4_readBoy 53 = .ok (.ifCond .eq 14, 3) := by decide +kernel
theorem dX4_readBoy_56 : decode cX4_readBoy 56 = .ok (.aload_n 0, 1) := by decide +kernel
theorem dX4_readBoy_57 : decode cX4_readBoy 57 = .ok (.iconst 3, 1) := by decide +kernel
theorem dX4_readBoy_58 : decode cX4_readBoy 58 = .ok (.iconst 0, 1) := by decide +kernel
theorem dX4_readBoy_59 : decode cX4_readBoy 59 = .ok (.bipush 9, 2) := by decide +kernel
theorem dX4_readBoy_61 : decode cX4_readBoy 61 = .ok (.invokevirtual 103, 3) := by decide +kernel
theorem dX4_readBoy_64 : decode cX4_readBoy 64 = .ok (.ifCond .ne 5, 3) := by decide +kernel
theorem dX4_readBoy_67 : decode cX4_readBoy 67 = .ok (.iconst 0, 1) := by decide +kernel
theorem dX4_readBoy_68 : decode cX4_readBoy 68 = .ok (.ireturn, 1) := by decide +kernel
theorem dX4_readBoy_69 : decode cX4_readBoy 69 = .ok (.aload_n 0, 1) := by decide +kernel
theorem dX4_readBoy_70 : decode cX4_readBoy 70 = .ok (.getfield 12, 3) := by decide +kernel
theorem dX4_readBoy_73 : decode cX4_readBoy 73 = .ok (.iload_n 1, 1) := by decide +kernel
theorem dX4_readBoy_74 : decode cX4_readBoy 74 = .ok (.aload_n 0, 1) := by decide +kernel
theorem dX4_readBoy_75 : decode cX4_readBoy 75 = .ok (.getfield 18, 3) := by decide +kernel
theorem dX4_readBoy_78 : decode cX4_readBoy 78 = .ok (.invokevirtual 129, 3) := by decide +kernel
theorem dX4_readBoy_81 : decode cX4_readBoy 81 = .ok (.iconst 1, 1) := by decide +kernel
theorem dX4_readBoy_82 : decode cX4_readBoy 82 = .ok (.ireturn, 1) := by decide +kernel
theorem dX4_readSlack_0 : decode cX4_readSlack 0 = .ok (.aload_n 0, 1) := by decide +kernel
theorem dX4_readSlack_1 : decode cX4_readSlack 1 = .ok (.iconst 0, 1) := by decide +kernel
theorem dX4_readSlack_2 : decode cX4_readSlack 2 = .ok (.iconst 0, 1) := by decide +kernel
theorem dX4_readSlack_3 : decode cX4_readSlack 3 = .ok (.sipush 999, 3) := by decide +kernel
theorem dX4_readSlack_6 : decode cX4_readSlack 6 = .ok (.invokevirtual 103, 3) := by decide +kernel
theorem dX4_readSlack_9 : decode cX4_readSlack 9 = .ok (.ifCond .ne 5, 3) := by decide +kernel
theorem dX4_readSlack_12 : decode cX4_readSlack 12 = .ok (.iconst 0, 1) := by decide +kernel
theorem dX4_readSlack_13 : decode cX4_readSlack 13 = .ok (.ireturn, 1) := by decide +kernel
theorem dX4_readSlack_14 : decode cX4_readSlack 14 = .ok (.aload_n 0, 1) := by decide +kernel
theorem dX4_readSlack_15 : decode cX4_readSlack 15 = .ok (.getfield 12, 3) := by decide +kernel
theorem dX4_readSlack_18 : decode cX4_readSlack 18 = .ok (.aload_n 0, 1) := by decide +kernel
theorem dX4_readSlack_19 : decode cX4_readSlack 19 = .ok (.getfield 18, 3) := by decide +kernel
theorem dX4_readSlack_22 : decode cX4_readSlack 22 = .ok (.iconst 0, 1) := by decide +kernel
theorem dX4_readSlack_23 : decode cX4_readSlack 23 = .ok (.iaload, 1) := by decide +kernel
theorem dX4_readSlack_24 : decode cX4_readSlack 24 = .ok (.putfield 133, 3) := by decide +kernel
theorem dX4_readSlack_27 : decode cX4_readSlack 27 = .ok (.iconst 1, 1) := by decide +kernel
theorem dX4_readSlack_28 : decode cX4_readSlack 28 = .ok (.ireturn, 1) := by decide +kernel
theorem dX4_readNumber_0 : decode cX4_readNumber 0 = .ok (.aload_n 0, 1) := by decide +kernel
theorem dX4_readNumber_1 : decode cX4_readNumber 1 = .ok (.invokevirtual 37, 3) := by decide +kernel
theorem dX4_readNumber_4 : decode cX4_readNumber 4 = .ok (.aload_n 0, 1) := by decide +kernel
theorem dX4_readNumber_5 : decode cX4_readNumber 5 = .ok (.getfield 47, 3) := by decide +kernel
theorem dX4_readNumber_8 : decode cX4_readNumber 8 = .ok (.iconst 3, 1) := by decide +kernel
theorem dX4_readNumber_9 : decode cX4_readNumber 9 = .ok (.if_icmp .ne 16, 3) := by decide +kernel
theorem dX4_readNumber_12 : decode cX4_readNumber 12 = .ok (.aload_n 0, 1) := by decide +kernel
theorem dX4_readNumber_13 : decode cX4_readNumber 13 = .ok (.getfield 30, 3) := by decide +kernel
theorem dX4_readNumber_16 : decode cX4_readNumber 16 = .ok (.aload_n 0, 1) := by decide +kernel
theorem dX4_readNumber_17 : decode cX4_readNumber 17 = .ok (.getfield 44, 3) := by decide +kernel
theorem dX4_readNumber_20 : decode cX4_readNumber 20 = .ok (.isub, 1) := by decide +kernel
theorem dX4_readNumber_21 : decode cX4_readNumber 21 = .ok (.iconst 3, 1) := by decide +kernel
theorem dX4_readNumber_22 : decode cX4_readNumber 22 = .ok (.if_icmp .le 5, 3) := by decide +kernel
theorem dX4_readNumber_25 : decode cX4_readNumber 25 = .ok (.iconst 0, 1) := by decide +kernel
theorem dX4_readNumber_26 : decode cX4_readNumber 26 = .ok (.ireturn, 1) := by decide +kernel
theorem dX4_readNumber_27 : decode cX4_readNumber 27 = .ok (.iconst 0, 1) := by decide +kernel
theorem dX4_readNumber_28 : decode cX4_readNumber 28 = .ok (.istore 4, 2) := by decide +kernel
theorem dX4_readNumber_30 : decode cX4_readNumber 30 = .ok (.aload_n 0, 1) := by decide +kernel
theorem dX4_readNumber_31 : decode cX4_readNumber 31 = .ok (.getfield 44, 3) := by decide +kernel
theorem dX4_readNumber_34 : decode cX4_readNumber 34 = .ok (.istore 5, 2) := by decide +kernel
theorem dX4_readNumber_36 : decode cX4_readNumber 36 = .ok (.iload 5, 2) := by decide +kernel
theorem dX4_readNumber_38 : decode cX4_readNumber 38 = .ok (.aload_n 0, 1) := by decide +kernel
theorem dX4_readNumber_39 : decode cX4_readNumber 39 = .ok (.getfield 30, 3) := by decide +kernel
theorem dX4_readNumber_42 : decode cX4_readNumber 42 = .ok (.if_icmp .ge 29, 3) := by decide +kernel
theorem dX4_readNumber_45 : decode cX4_readNumber 45 = .ok (.iload 4, 2) := by decide +kernel
theorem dX4_readNumber_47 : decode cX4_readNumber 47 = .ok (.bipush 10, 2) := by decide +kernel
theorem dX4_readNumber_49 : decode cX4_readNumber 49 = .ok (.imul, 1) := by decide +kernel
theorem dX4_readNumber_50 : decode cX4_readNumber 50 = .ok (.aload_n 0, 1) := by decide +kernel
theorem dX4_readNumber_51 : decode cX4_readNumber 51 = .ok (.getfield 22, 3) := by decide +kernel
theorem dX4_readNumber_54 : decode cX4_readNumber 54 = .ok (.iload 5, 2) := by decide +kernel
theorem dX4_readNumber_56 : decode cX4_readNumber 56 = .ok (.invokevirtual 50, 3) := by decide +kernel
theorem dX4_readNumber_59 : decode cX4_readNumber 59 = .ok (.iadd, 1) := by decide +kernel
theorem dX4_readNumber_60 : decode cX4_readNumber 60 = .ok (.bipush 48, 2) := by decide +kernel
theorem dX4_readNumber_62 : decode cX4_readNumber 62 = .ok (.isub, 1) := by decide +kernel
theorem dX4_readNumber_63 : decode cX4_readNumber 63 = .ok (.istore 4, 2) := by decide +kernel
theorem dX4_readNumber_65 : decode cX4_readNumber 65 = .ok (.iinc 5 1, 3) := by decide +kernel
theorem dX4_readNumber_68 : decode cX4_readNumber 68 = .ok (.goto (-32), 3) := by decide +kernel
theorem dX4_readNumber_71 : decode cX4_readNumber 71 = .ok (.aload_n 0, 1) := by decide +kernel
theorem dX4_readNumber_72 : decode cX4_readNumber 72 = .ok (.getfield 18, 3) := by decide +kernel
theorem dX4_readNumber_75 : decode cX4_readNumber 75 = .ok (.iload_n 1, 1) := by decide +kernel
theorem dX4_readNumber_76 : decode cX4_readNumber 76 = .ok (.iload 4, 2) := by decide +kernel
theorem dX4_readNumber_78 : decode cX4_readNumber 78 = .ok (.iastore, 1) := by decide +kernel
theorem dX4_readNumber_79 : decode cX4_readNumber 79 = .ok (.iload 4, 2) := by decide +kernel
theorem dX4_readNumber_81 : decode cX4_readNumber 81 = .ok (.iload_n 2, 1) := by decide +kernel
theorem dX4_readNumber_82 : decode cX4_readNumber 82 = .ok (.if_icmp .lt 13, 3) := by decide +kernel
theorem dX4_readNumber_85 : decode cX4_readNumber 85 = .ok (.iload 4, 2) := by decide +kernel
theorem dX4_readNumber_87 : decode cX4_readNumber 87 = .ok (.iload_n 3, 1) := by decide +kernel
theorem dX4_readNumber_88 : decode cX4_readNumber 88 = .ok (.if_icmp .gt 7, 3) := by decide +kernel
theorem dX4_readNumber_91 : decode cX4_readNumber 91 = .ok (.iconst 1, 1) := by decide +kernel
theorem dX4_readNumber_92 : decode cX4_readNumber 92 = .ok (.goto 4, 3) := by decide +kernel
theorem dX4_readNumber_95 : decode cX4_readNumber 95 = .ok (.iconst 0, 1) := by decide +kernel
theorem dX4_readNumber_96 : decode cX4_readNumber 96 = .ok (.ireturn, 1) := by decide +kernel
theorem dX4_wordInHand_0 : decode cX4_wordInHand 0 = .ok (.iconst 0, 1) := by decide +kernel
theorem dX4_wordInHand_1 : decode cX4_wordInHand 1 = .ok (.istore_n 1, 1) := by decide +kernel
theorem dX4_wordInHand_2 : decode cX4_wordInHand 2 = .ok (.iload_n 1, 1) := by decide +kernel
theorem dX4_wordInHand_3 : decode cX4_wordInHand 3 = .ok (.bipush 14, 2) := by decide +kernel
theorem dX4_wordInHand_5 : decode cX4_wordInHand 5 = .ok (.if_icmp .ge 22, 3) := by decide +kernel
theorem dX4_wordInHand_8 : decode cX4_wordInHand 8 = .ok (.aload_n 0, 1) := by decide +kernel
theorem dX4_wordInHand_9 : decode cX4_wordInHand 9 = .ok (.iload_n 1, 1) := by decide +kernel
theorem dX4_wordInHand_10 : decode cX4_wordInHand 10 = .ok (.invokestatic 136, 3) := by decide +kernel
theorem dX4_wordInHand_13 : decode cX4_wordInHand 13 = .ok (.invokevirtual 140, 3) := by decide +kernel
theorem dX4_wordInHand_16 : decode cX4_wordInHand 16 = .ok (.ifCond .eq 5, 3) := by decide +kernel
theorem dX4_wordInHand_19 : decode cX4_wordInHand 19 = .ok (.iload_n 1, 1) := by decide +kernel
theorem dX4_wordInHand_20 : decode cX4_wordInHand 20 = .ok (.ireturn, 1) := by decide +kernel
theorem dX4_wordInHand_21 : decode cX4_wordInHand 21 = .ok (.iinc 1 1, 3) := by decide +kernel
theorem dX4_wordInHand_24 : decode cX4_wordInHand 24 = .ok (.goto (-22), 3) := by decide +kernel
theorem dX4_wordInHand_27 : decode cX4_wordInHand 27 = .ok (.iconst (-1), 1) := by decide +kernel
theorem dX4_wordInHand_28 : decode cX4_wordInHand 28 = .ok (.ireturn, 1) := by decide +kernel
theorem dX4_isInHand_0 : decode cX4_isInHand 0 = .ok (.aload_n 0, 1) := by decide +kernel
theorem dX4_isInHand_1 : decode cX4_isInHand 1 = .ok (.getfield 30, 3) := by decide +kernel
theorem dX4_isInHand_4 : decode cX4_isInHand 4 = .ok (.aload_n 0, 1) := by decide +kernel
theorem dX4_isInHand_5 : decode cX4_isInHand 5 = .ok (.getfield 44, 3) := by decide +kernel
theorem dX4_isInHand_8 : decode cX4_isInHand 8 = .ok (.isub, 1) := by decide +kernel
theorem dX4_isInHand_9 : decode cX4_isInHand 9 = .ok (.aload_n 1, 1) := by decide +kernel
theorem dX4_isInHand_10 : decode cX4_isInHand 10 = .ok (.invokevirtual 144, 3) := by decide +kernel
theorem dX4_isInHand_13 : decode cX4_isInHand 13 = .ok (.if_icmp .eq 5, 3) := by decide +kernel
theorem dX4_isInHand_16 : decode cX4_isInHand 16 = .ok (.iconst 0, 1) := by decide +kernel
theorem dX4_isInHand_17 : decode cX4_isInHand 17 = .ok (.ireturn, 1) := by decide +kernel
theorem dX4_isInHand_18 : decode cX4_isInHand 18 = .ok (.iconst 0, 1) := by decide +kernel
theorem dX4_isInHand_19 : decode cX4_isInHand 19 = .ok (.istore_n 2, 1) := by decide +kernel
theorem dX4_isInHand_20 : decode cX4_isInHand 20 = .ok (.iload_n 2, 1) := by decide +kernel
theorem dX4_isInHand_21 : decode cX4_isInHand 21 = .ok (.aload_n 1, 1) := by decide +kernel
theorem dX4_isInHand_22 : decode cX4_isInHand 22 = .ok (.invokevirtual 144, 3) := by decide +kernel
theorem dX4_isInHand_25 : decode cX4_isInHand 25 = .ok (.if_icmp .ge 32, 3) := by decide +kernel
theorem dX4_isInHand_28 : decode cX4_isInHand 28 = .ok (.aload_n 0, 1) := by decide +kernel
theorem dX4_isInHand_29 : decode cX4_isInHand 29 = .ok (.getfield 22, 3) := by decide +kernel
theorem dX4_isInHand_32 : decode cX4_isInHand 32 = .ok (.aload_n 0, 1) := by decide +kernel
theorem dX4_isInHand_33 : decode cX4_isInHand 33 = .ok (.getfield 44, 3) := by decide +kernel
theorem dX4_isInHand_36 : decode cX4_isInHand 36 = .ok (.iload_n 2, 1) := by decide +kernel
theorem dX4_isInHand_37 : decode cX4_isInHand 37 = .ok (.iadd, 1) := by decide +kernel
theorem dX4_isInHand_38 : decode cX4_isInHand 38 = .ok (.invokevirtual 50, 3) := by decide +kernel
theorem dX4_isInHand_41 : decode cX4_isInHand 41 = .ok (.aload_n 1, 1) := by decide +kernel
theorem dX4_isInHand_42 : decode cX4_isInHand 42 = .ok (.iload_n 2, 1) := by decide +kernel
theorem dX4_isInHand_43 : decode cX4_isInHand 43 = .ok (.invokevirtual 148, 3) := by decide +kernel
theorem dX4_isInHand_46 : decode cX4_isInHand 46 = .ok (.if_icmp .eq 5, 3) := by decide +kernel
theorem dX4_isInHand_49 : decode cX4_isInHand 49 = .ok (.iconst 0, 1) := by decide +kernel
theorem dX4_isInHand_50 : decode cX4_isInHand 50 = .ok (.ireturn, 1) := by decide +kernel
theorem dX4_isInHand_51 : decode cX4_isInHand 51 = .ok (.iinc 2 1, 3) := by decide +kernel
theorem dX4_isInHand_54 : decode cX4_isInHand 54 = .ok (.goto (-34), 3) := by decide +kernel
theorem dX4_isInHand_57 : decode cX4_isInHand 57 = .ok (.iconst 1, 1) := by decide +kernel
theorem dX4_isInHand_58 : decode cX4_isInHand 58 = .ok (.ireturn, 1) := by decide +kernel
theorem dX4_spelling_0 : decode cX4_spelling 0 = .ok (.iload_n 0, 1) := by decide +kernel
theorem dX4_spelling_1 : decode cX4_spelling 1 = .ok (.tableswitch 106 0 12 #[67, 70, 73, 76, 79, 82, 85, 88, 91, 94, 97, 100, 103], 67) := by decide +kernel
theorem dX4_spelling_68 : decode cX4_spelling 68 = .ok (.ldc 152, 2) := by decide +kernel
theorem dX4_spelling_70 : decode cX4_spelling 70 = .ok (.areturn, 1) := by decide +kernel
theorem dX4_spelling_71 : decode cX4_spelling 71 = .ok (.ldc 154, 2) := by decide +kernel
theorem dX4_spelling_73 : decode cX4_spelling 73 = .ok (.areturn, 1) := by decide +kernel
theorem dX4_spelling_74 : decode cX4_spelling 74 = .ok (.ldc 156, 2) := by decide +kernel
theorem dX4_spelling_76 : decode cX4_spelling 76 = .ok (.areturn, 1) := by decide +kernel
theorem dX4_spelling_77 : decode cX4_spelling 77 = .ok (.ldc 157, 2) := by decide +kernel
theorem dX4_spelling_79 : decode cX4_spelling 79 = .ok (.areturn, 1) := by decide +kernel
theorem dX4_spelling_80 : decode cX4_spelling 80 = .ok (.ldc 158, 2) := by decide +kernel
theorem dX4_spelling_82 : decode cX4_spelling 82 = .ok (.areturn, 1) := by decide +kernel
theorem dX4_spelling_83 : decode cX4_spelling 83 = .ok (.ldc 160, 2) := by decide +kernel
theorem dX4_spelling_85 : decode cX4_spelling 85 = .ok (.areturn, 1) := by decide +kernel
theorem dX4_spelling_86 : decode cX4_spelling 86 = .ok (.ldc 162, 2) := by decide +kernel
theorem dX4_spelling_88 : decode cX4_spelling 88 = .ok (.areturn, 1) := by decide +kernel
theorem dX4_spelling_89 : decode cX4_spelling 89 = .ok (.ldc 164, 2) := by decide +kernel
theorem dX4_spelling_91 : decode cX4_spelling 91 = .ok (.areturn, 1) := by decide +kernel
theorem dX4_spelling_92 : decode cX4_spelling 92 = .ok (.ldc 166, 2) := by decide +kernel
theorem dX4_spelling_94 : decode cX4_spelling 94 = .ok (.areturn, 1) := by decide +kernel
theorem dX4_spelling_95 : decode cX4_spelling 95 = .ok (.ldc 168, 2) := by decide +kernel
theorem dX4_spelling_97 : decode cX4_spelling 97 = .ok (.areturn, 1) := by decide +kernel
theorem dX4_spelling_98 : decode cX4_spelling 98 = .ok (.ldc 170, 2) := by decide +kernel
theorem dX4_spelling_100 : decode cX4_spelling 100 = .ok (.areturn, 1) := by decide +kernel
theorem dX4_spelling_101 : decode cX4_spelling 101 = .ok (.ldc 172, 2) := by decide +kernel
theorem dX4_spelling_103 : decode cX4_spelling 103 = .ok (.areturn, 1) := by decide +kernel
theorem dX4_spelling_104 : decode cX4_spelling 104 = .ok (.ldc 174, 2) := by decide +kernel
theorem dX4_spelling_106 : decode cX4_spelling 106 = .ok (.areturn, 1) := by decide +kernel
theorem dX4_spelling_107 : decode cX4_spelling 107 = .ok (.ldc 175, 2) := by decide +kernel
theorem dX4_spelling_109 : decode cX4_spelling 109 = .ok (.areturn, 1) := by decide +kernel
theorem dX5_init_0 : decode cX5_init 0 = .ok (.aload_n 0, 1) := by decide +kernel
theorem dX5_init_1 : decode cX5_init 1 = .ok (.invokespecial 3, 3) := by decide +kernel
theorem dX5_init_4 : decode cX5_init 4 = .ok (.aload_n 0, 1) := by decide +kernel
theorem dX5_init_5 : decode cX5_init 5 = .ok (.bipush 6, 2) := by decide +kernel
theorem dX5_init_7 : decode cX5_init 7 = .ok (.newarray .int, 2) := by decide +kernel
theorem dX5_init_9 : decode cX5_init 9 = .ok (.putfield 9, 3) := by decide +kernel
theorem dX5_init_12 : decode cX5_init 12 = .ok (.aload_n 0, 1) := by decide +kernel
theorem dX5_init_13 : decode cX5_init 13 = .ok (.bipush 6, 2) := by decide +kernel
theorem dX5_init_15 : decode cX5_init 15 = .ok (.newarray .int, 2) := by decide +kernel
theorem dX5_init_17 : decode cX5_init 17 = .ok (.putfield 15, 3) := by decide +kernel
theorem dX5_init_20 : decode cX5_init 20 = .ok (.aload_n 0, 1) := by decide +kernel
theorem dX5_init_21 : decode cX5_init 21 = .ok (.bipush 10, 2) := by decide +kernel
theorem dX5_init_23 : decode cX5_init 23 = .ok (.newarray .int, 2) := by decide +kernel
theorem dX5_init_25 : decode cX5_init 25 = .ok (.putfield 18, 3) := by decide +kernel
theorem dX5_init_28 : decode cX5_init 28 = .ok (.aload_n 0, 1) := by decide +kernel
theorem dX5_init_29 : decode cX5_init 29 = .ok (.aload_n 1, 1) := by decide +kernel
theorem dX5_init_30 : decode cX5_init 30 = .ok (.putfield 21, 3) := by decide +kernel
theorem dX5_init_33 : decode cX5_init 33 = .ok (.aload_n 0, 1) := by decide +kernel
theorem dX5_init_34 : decode cX5_init 34 = .ok (.aload_n 2, 1) := by decide +kernel
theorem dX5_init_35 : decode cX5_init 35 = .ok (.putfield 25, 3) := by decide +kernel
theorem dX5_init_38 : decode cX5_init 38 = .ok (.return_, 1) := by decide +kernel
