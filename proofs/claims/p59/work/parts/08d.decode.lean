theorem dX6_walk_66 : decode cX6_walk 66 = .ok (.iload 4, 2) := by decide +kernel
theorem dX6_walk_68 : decode cX6_walk 68 = .ok (.ireturn, 1) := by decide +kernel
theorem dX6_partsByUnions_0 : decode cX6_partsByUnions 0 = .ok (.iconst 0, 1) := by decide +kernel
theorem dX6_partsByUnions_1 : decode cX6_partsByUnions 1 = .ok (.istore_n 2, 1) := by decide +kernel
theorem dX6_partsByUnions_2 : decode cX6_partsByUnions 2 = .ok (.iload_n 2, 1) := by decide +kernel
theorem dX6_partsByUnions_3 : decode cX6_partsByUnions 3 = .ok (.aload_n 1, 1) := by decide +kernel
theorem dX6_partsByUnions_4 : decode cX6_partsByUnions 4 = .ok (.getfield 21, 3) := by decide +kernel
theorem dX6_partsByUnions_7 : decode cX6_partsByUnions 7 = .ok (.if_icmp .ge 16, 3) := by decide +kernel
theorem dX6_partsByUnions_10 : decode cX6_partsByUnions 10 = .ok (.aload_n 0, 1) := by decide +kernel
theorem dX6_partsByUnions_11 : decode cX6_partsByUnions 11 = .ok (.getfield 18, 3) := by decide +kernel
theorem dX6_partsByUnions_14 : decode cX6_partsByUnions 14 = .ok (.iload_n 2, 1) := by decide +kernel
theorem dX6_partsByUnions_15 : decode cX6_partsByUnions 15 = .ok (.iload_n 2, 1) := by decide +kernel
theorem dX6_partsByUnions_16 : decode cX6_partsByUnions 16 = .ok (.iastore, 1) := by decide +kernel
theorem dX6_partsByUnions_17 : decode cX6_partsByUnions 17 = .ok (.iinc 2 1, 3) := by decide +kernel
theorem dX6_partsByUnions_20 : decode cX6_partsByUnions 20 = .ok (.goto (-18), 3) := by decide +kernel
theorem dX6_partsByUnions_23 : decode cX6_partsByUnions 23 = .ok (.aload_n 1, 1) := by decide +kernel
theorem dX6_partsByUnions_24 : decode cX6_partsByUnions 24 = .ok (.getfield 21, 3) := by decide +kernel
theorem dX6_partsByUnions_27 : decode cX6_partsByUnions 27 = .ok (.istore_n 2, 1) := by decide +kernel
theorem dX6_partsByUnions_28 : decode cX6_partsByUnions 28 = .ok (.iconst 0, 1) := by decide +kernel
theorem dX6_partsByUnions_29 : decode cX6_partsByUnions 29 = .ok (.istore_n 3, 1) := by decide +kernel
theorem dX6_partsByUnions_30 : decode cX6_partsByUnions 30 = .ok (.iload_n 3, 1) := by decide +kernel
theorem dX6_partsByUnions_31 : decode cX6_partsByUnions 31 = .ok (.aload_n 1, 1) := by decide +kernel
theorem dX6_partsByUnions_32 : decode cX6_partsByUnions 32 = .ok (.getfield 21, 3) := by decide +kernel
theorem dX6_partsByUnions_35 : decode cX6_partsByUnions 35 = .ok (.if_icmp .ge 74, 3) := by decide +kernel
theorem dX6_partsByUnions_38 : decode cX6_partsByUnions 38 = .ok (.iconst 0, 1) := by decide +kernel
theorem dX6_partsByUnions_39 : decode cX6_partsByUnions 39 = .ok (.istore 4, 2) := by decide +kernel
theorem dX6_partsByUnions_41 : decode cX6_partsByUnions 41 = .ok (.iload 4, 2) := by decide +kernel
theorem dX6_partsByUnions_43 : decode cX6_partsByUnions 43 = .ok (.iload_n 3, 1) := by decide +kernel
theorem dX6_partsByUnions_44 : decode cX6_partsByUnions 44 = .ok (.if_icmp .ge 59, 3) := by decide +kernel
theorem dX6_partsByUnions_47 : decode cX6_partsByUnions 47 = .ok (.aload_n 1, 1) := by decide +kernel
theorem dX6_partsByUnions_48 : decode cX6_partsByUnions 48 = .ok (.iload_n 3, 1) := by decide +kernel
theorem dX6_partsByUnions_49 : decode cX6_partsByUnions 49 = .ok (.iload 4, 2) := by decide +kernel
theorem dX6_partsByUnions_51 : decode cX6_partsByUnions 51 = .ok (.invokevirtual 45, 3) := by decide +kernel
theorem dX6_partsByUnions_54 : decode cX6_partsByUnions 54 = .ok (.ifCond .eq 43, 3) := by decide +kernel
theorem dX6_partsByUnions_57 : decode cX6_partsByUnions 57 = .ok (.aload_n 0, 1) := by decide +kernel
theorem dX6_partsByUnions_58 : decode cX6_partsByUnions 58 = .ok (.getfield 18, 3) := by decide +kernel
theorem dX6_partsByUnions_61 : decode cX6_partsByUnions 61 = .ok (.iload_n 3, 1) := by decide +kernel
theorem dX6_partsByUnions_62 : decode cX6_partsByUnions 62 = .ok (.iaload, 1) := by decide +kernel
theorem dX6_partsByUnions_63 : decode cX6_partsByUnions 63 = .ok (.aload_n 0, 1) := by decide +kernel
theorem dX6_partsByUnions_64 : decode cX6_partsByUnions 64 = .ok (.getfield 18, 3) := by decide +kernel
theorem dX6_partsByUnions_67 : decode cX6_partsByUnions 67 = .ok (.iload 4, 2) := by decide +kernel
theorem dX6_partsByUnions_69 : decode cX6_partsByUnions 69 = .ok (.iaload, 1) := by decide +kernel
theorem dX6_partsByUnions_70 : decode cX6_partsByUnions 70 = .ok (.if_icmp .eq 27, 3) := by decide +kernel
theorem dX6_partsByUnions_73 : decode cX6_partsByUnions 73 = .ok (.aload_n 0, 1) := by decide +kernel
theorem dX6_partsByUnions_74 : decode cX6_partsByUnions 74 = .ok (.aload_n 1, 1) := by decide +kernel
theorem dX6_partsByUnions_75 : decode cX6_partsByUnions 75 = .ok (.getfield 21, 3) := by decide +kernel
theorem dX6_partsByUnions_78 : decode cX6_partsByUnions 78 = .ok (.aload_n 0, 1) := by decide +kernel
theorem dX6_partsByUnions_79 : decode cX6_partsByUnions 79 = .ok (.getfield 18, 3) := by decide +kernel
theorem dX6_partsByUnions_82 : decode cX6_partsByUnions 82 = .ok (.iload_n 3, 1) := by decide +kernel
theorem dX6_partsByUnions_83 : decode cX6_partsByUnions 83 = .ok (.iaload, 1) := by decide +kernel
theorem dX6_partsByUnions_84 : decode cX6_partsByUnions 84 = .ok (.aload_n 0, 1) := by decide +kernel
theorem dX6_partsByUnions_85 : decode cX6_partsByUnions 85 = .ok (.getfield 18, 3) := by decide +kernel
theorem dX6_partsByUnions_88 : decode cX6_partsByUnions 88 = .ok (.iload 4, 2) := by decide +kernel
theorem dX6_partsByUnions_90 : decode cX6_partsByUnions 90 = .ok (.iaload, 1) := by decide +kernel
theorem dX6_partsByUnions_91 : decode cX6_partsByUnions 91 = .ok (.invokevirtual 68, 3) := by decide +kernel
theorem dX6_partsByUnions_94 : decode cX6_partsByUnions 94 = .ok (.iinc 2 (-1), 3) := by decide +kernel
theorem dX6_partsByUnions_97 : decode cX6_partsByUnions 97 = .ok (.iinc 4 1, 3) := by decide +kernel
theorem dX6_partsByUnions_100 : decode cX6_partsByUnions 100 = .ok (.goto (-59), 3) := by decide +kernel
theorem dX6_partsByUnions_103 : decode cX6_partsByUnions 103 = .ok (.iinc 3 1, 3) := by decide +kernel
theorem dX6_partsByUnions_106 : decode cX6_partsByUnions 106 = .ok (.goto (-76), 3) := by decide +kernel
theorem dX6_partsByUnions_109 : decode cX6_partsByUnions 109 = .ok (.iload_n 2, 1) := by decide +kernel
theorem dX6_partsByUnions_110 : decode cX6_partsByUnions 110 = .ok (.ireturn, 1) := by decide +kernel
theorem dX6_unite_0 : decode cX6_unite 0 = .ok (.iconst 0, 1) := by decide +kernel
theorem dX6_unite_1 : decode cX6_unite 1 = .ok (.istore 4, 2) := by decide +kernel
theorem dX6_unite_3 : decode cX6_unite 3 = .ok (.iload 4, 2) := by decide +kernel
theorem dX6_unite_5 : decode cX6_unite 5 = .ok (.iload_n 1, 1) := by decide +kernel
theorem dX6_unite_6 : decode cX6_unite 6 = .ok (.if_icmp .ge 28, 3) := by decide +kernel
theorem dX6_unite_9 : decode cX6_unite 9 = .ok (.aload_n 0, 1) := by decide +kernel
theorem dX6_unite_10 : decode cX6_unite 10 = .ok (.getfield 18, 3) := by decide +kernel
theorem dX6_unite_13 : decode cX6_unite 13 = .ok (.iload 4, 2) := by decide +kernel
theorem dX6_unite_15 : decode cX6_unite 15 = .ok (.iaload, 1) := by decide +kernel
theorem dX6_unite_16 : decode cX6_unite 16 = .ok (.iload_n 2, 1) := by decide +kernel
theorem dX6_unite_17 : decode cX6_unite 17 = .ok (.if_icmp .ne 11, 3) := by decide +kernel
theorem dX6_unite_20 : decode cX6_unite 20 = .ok (.aload_n 0, 1) := by decide +kernel
theorem dX6_unite_21 : decode cX6_unite 21 = .ok (.getfield 18, 3) := by decide +kernel
theorem dX6_unite_24 : decode cX6_unite 24 = .ok (.iload 4, 2) := by decide +kernel
theorem dX6_unite_26 : decode cX6_unite 26 = .ok (.iload_n 3, 1) := by decide +kernel
theorem dX6_unite_27 : decode cX6_unite 27 = .ok (.iastore, 1) := by decide +kernel
theorem dX6_unite_28 : decode cX6_unite 28 = .ok (.iinc 4 1, 3) := by decide +kernel
theorem dX6_unite_31 : decode cX6_unite 31 = .ok (.goto (-28), 3) := by decide +kernel
theorem dX6_unite_34 : decode cX6_unite 34 = .ok (.return_, 1) := by decide +kernel
theorem dX7_init_0 : decode cX7_init 0 = .ok (.aload_n 0, 1) := by decide +kernel
theorem dX7_init_1 : decode cX7_init 1 = .ok (.invokespecial 3, 3) := by decide +kernel
theorem dX7_init_4 : decode cX7_init 4 = .ok (.aload_n 0, 1) := by decide +kernel
theorem dX7_init_5 : decode cX7_init 5 = .ok (.new 9, 3) := by decide +kernel
theorem dX7_init_8 : decode cX7_init 8 = .ok (.dup, 1) := by decide +kernel
theorem dX7_init_9 : decode cX7_init 9 = .ok (.invokespecial 11, 3) := by decide +kernel
theorem dX7_init_12 : decode cX7_init 12 = .ok (.putfield 12, 3) := by decide +kernel
theorem dX7_init_15 : decode cX7_init 15 = .ok (.aload_n 0, 1) := by decide +kernel
theorem dX7_init_16 : decode cX7_init 16 = .ok (.bipush 6, 2) := by decide +kernel
theorem dX7_init_18 : decode cX7_init 18 = .ok (.newarray .int, 2) := by decide +kernel
theorem dX7_init_20 : decode cX7_init 20 = .ok (.putfield 18, 3) := by decide +kernel
theorem dX7_init_23 : decode cX7_init 23 = .ok (.aload_n 0, 1) := by decide +kernel
theorem dX7_init_24 : decode cX7_init 24 = .ok (.bipush 6, 2) := by decide +kernel
theorem dX7_init_26 : decode cX7_init 26 = .ok (.newarray .int, 2) := by decide +kernel
theorem dX7_init_28 : decode cX7_init 28 = .ok (.putfield 22, 3) := by decide +kernel
theorem dX7_init_31 : decode cX7_init 31 = .ok (.return_, 1) := by decide +kernel
theorem dX7_aim_0 : decode cX7_aim 0 = .ok (.aload_n 1, 1) := by decide +kernel
theorem dX7_aim_1 : decode cX7_aim 1 = .ok (.iload_n 2, 1) := by decide +kernel
theorem dX7_aim_2 : decode cX7_aim 2 = .ok (.invokevirtual 25, 3) := by decide +kernel
theorem dX7_aim_5 : decode cX7_aim 5 = .ok (.ifCond .eq 11, 3) := by decide +kernel
theorem dX7_aim_8 : decode cX7_aim 8 = .ok (.aload_n 1, 1) := by decide +kernel
theorem dX7_aim_9 : decode cX7_aim 9 = .ok (.iload_n 3, 1) := by decide +kernel
theorem dX7_aim_10 : decode cX7_aim 10 = .ok (.invokevirtual 31, 3) := by decide +kernel
theorem dX7_aim_13 : decode cX7_aim 13 = .ok (.ifCond .ne 6, 3) := by decide +kernel
theorem dX7_aim_16 : decode cX7_aim 16 = .ok (.bipush (-11), 2) := by decide +kernel
theorem dX7_aim_18 : decode cX7_aim 18 = .ok (.ireturn, 1) := by decide +kernel
theorem dX7_aim_19 : decode cX7_aim 19 = .ok (.aload_n 1, 1) := by decide +kernel
theorem dX7_aim_20 : decode cX7_aim 20 = .ok (.getfield 34, 3) := by decide +kernel
theorem dX7_aim_23 : decode cX7_aim 23 = .ok (.iload_n 3, 1) := by decide +kernel
theorem dX7_aim_24 : decode cX7_aim 24 = .ok (.invokestatic 38, 3) := by decide +kernel
theorem dX7_aim_27 : decode cX7_aim 27 = .ok (.ifCond .ne 6, 3) := by decide +kernel
theorem dX7_aim_30 : decode cX7_aim 30 = .ok (.bipush (-12), 2) := by decide +kernel
theorem dX7_aim_32 : decode cX7_aim 32 = .ok (.ireturn, 1) := by decide +kernel
theorem dX7_aim_33 : decode cX7_aim 33 = .ok (.aload_n 1, 1) := by decide +kernel
theorem dX7_aim_34 : decode cX7_aim 34 = .ok (.getfield 42, 3) := by decide +kernel
theorem dX7_aim_37 : decode cX7_aim 37 = .ok (.iload_n 2, 1) := by decide +kernel
theorem dX7_aim_38 : decode cX7_aim 38 = .ok (.iaload, 1) := by decide +kernel
theorem dX7_aim_39 : decode cX7_aim 39 = .ok (.iload_n 3, 1) := by decide +kernel
theorem dX7_aim_40 : decode cX7_aim 40 = .ok (.if_icmp .ne 6, 3) := by decide +kernel
theorem dX7_aim_43 : decode cX7_aim 43 = .ok (.bipush (-14), 2) := by decide +kernel
theorem dX7_aim_45 : decode cX7_aim 45 = .ok (.ireturn, 1) := by decide +kernel
theorem dX7_aim_46 : decode cX7_aim 46 = .ok (.aload_n 0, 1) := by decide +kernel
theorem dX7_aim_47 : decode cX7_aim 47 = .ok (.getfield 12, 3) := by decide +kernel
theorem dX7_aim_50 : decode cX7_aim 50 = .ok (.aload_n 1, 1) := by decide +kernel
theorem dX7_aim_51 : decode cX7_aim 51 = .ok (.aload_n 1, 1) := by decide +kernel
theorem dX7_aim_52 : decode cX7_aim 52 = .ok (.getfield 42, 3) := by decide +kernel
theorem dX7_aim_55 : decode cX7_aim 55 = .ok (.iload_n 2, 1) := by decide +kernel
theorem dX7_aim_56 : decode cX7_aim 56 = .ok (.iaload, 1) := by decide +kernel
theorem dX7_aim_57 : decode cX7_aim 57 = .ok (.invokevirtual 45, 3) := by decide +kernel
theorem dX7_aim_60 : decode cX7_aim 60 = .ok (.aload_n 0, 1) := by decide +kernel
theorem dX7_aim_61 : decode cX7_aim 61 = .ok (.getfield 12, 3) := by decide +kernel
theorem dX7_aim_64 : decode cX7_aim 64 = .ok (.getfield 49, 3) := by decide +kernel
theorem dX7_aim_67 : decode cX7_aim 67 = .ok (.iload_n 3, 1) := by decide +kernel
theorem dX7_aim_68 : decode cX7_aim 68 = .ok (.iaload, 1) := by decide +kernel
theorem dX7_aim_69 : decode cX7_aim 69 = .ok (.istore 4, 2) := by decide +kernel
theorem dX7_aim_71 : decode cX7_aim 71 = .ok (.iload 4, 2) := by decide +kernel
theorem dX7_aim_73 : decode cX7_aim 73 = .ok (.sipush 1000, 3) := by decide +kernel
theorem dX7_aim_76 : decode cX7_aim 76 = .ok (.if_icmp .lt 6, 3) := by decide +kernel
theorem dX7_aim_79 : decode cX7_aim 79 = .ok (.bipush (-15), 2) := by decide +kernel
theorem dX7_aim_81 : decode cX7_aim 81 = .ok (.ireturn, 1) := by decide +kernel
theorem dX7_aim_82 : decode cX7_aim 82 = .ok (.aload_n 1, 1) := by decide +kernel
theorem dX7_aim_83 : decode cX7_aim 83 = .ok (.getfield 52, 3) := by decide +kernel
theorem dX7_aim_86 : decode cX7_aim 86 = .ok (.iload_n 2, 1) := by decide +kernel
theorem dX7_aim_87 : decode cX7_aim 87 = .ok (.iload_n 3, 1) := by decide +kernel
theorem dX7_aim_88 : decode cX7_aim 88 = .ok (.iastore, 1) := by decide +kernel
theorem dX7_aim_89 : decode cX7_aim 89 = .ok (.iload 4, 2) := by decide +kernel
theorem dX7_aim_91 : decode cX7_aim 91 = .ok (.ireturn, 1) := by decide +kernel
theorem dX7_letPass_0 : decode cX7_letPass 0 = .ok (.iload_n 2, 1) := by decide +kernel
theorem dX7_letPass_1 : decode cX7_letPass 1 = .ok (.iconst 1, 1) := by decide +kernel
theorem dX7_letPass_2 : decode cX7_letPass 2 = .ok (.if_icmp .lt 9, 3) := by decide +kernel
theorem dX7_letPass_5 : decode cX7_letPass 5 = .ok (.iload_n 2, 1) := by decide +kernel
theorem dX7_letPass_6 : decode cX7_letPass 6 = .ok (.bipush 50, 2) := by decide +kernel
theorem dX7_letPass_8 : decode cX7_letPass 8 = .ok (.if_icmp .le 6, 3) := by decide +kernel
theorem dX7_letPass_11 : decode cX7_letPass 11 = .ok (.bipush (-12), 2) := by decide +kernel
theorem dX7_letPass_13 : decode cX7_letPass 13 = .ok (.ireturn, 1) := by decide +kernel
theorem dX7_letPass_14 : decode cX7_letPass 14 = .ok (.aload_n 1, 1) := by decide +kernel
theorem dX7_letPass_15 : decode cX7_letPass 15 = .ok (.getfield 55, 3) := by decide +kernel
theorem dX7_letPass_18 : decode cX7_letPass 18 = .ok (.istore_n 3, 1) := by decide +kernel
theorem dX7_letPass_19 : decode cX7_letPass 19 = .ok (.iconst 0, 1) := by decide +kernel
theorem dX7_letPass_20 : decode cX7_letPass 20 = .ok (.istore 4, 2) := by decide +kernel
theorem dX7_letPass_22 : decode cX7_letPass 22 = .ok (.iload 4, 2) := by decide +kernel
theorem dX7_letPass_24 : decode cX7_letPass 24 = .ok (.iload_n 2, 1) := by decide +kernel
theorem dX7_letPass_25 : decode cX7_letPass 25 = .ok (.if_icmp .ge 48, 3) := by decide +kernel
theorem dX7_letPass_28 : decode cX7_letPass 28 = .ok (.iconst 0, 1) := by decide +kernel
theorem dX7_letPass_29 : decode cX7_letPass 29 = .ok (.istore 5, 2) := by decide +kernel
theorem dX7_letPass_31 : decode cX7_letPass 31 = .ok (.iload 5, 2) := by decide +kernel
theorem dX7_letPass_33 : decode cX7_letPass 33 = .ok (.aload_n 1, 1) := by decide +kernel
theorem dX7_letPass_34 : decode cX7_letPass 34 = .ok (.getfield 58, 3) := by decide +kernel
theorem dX7_letPass_37 : decode cX7_letPass 37 = .ok (.if_icmp .ge 20, 3) := by decide +kernel
theorem dX7_letPass_40 : decode cX7_letPass 40 = .ok (.aload_n 0, 1) := by decide +kernel
theorem dX7_letPass_41 : decode cX7_letPass 41 = .ok (.aload_n 1, 1) := by decide +kernel
theorem dX7_letPass_42 : decode cX7_letPass 42 = .ok (.aload_n 1, 1) := by decide +kernel
theorem dX7_letPass_43 : decode cX7_letPass 43 = .ok (.iload 5, 2) := by decide +kernel
theorem dX7_letPass_45 : decode cX7_letPass 45 = .ok (.invokevirtual 61, 3) := by decide +kernel
theorem dX7_letPass_48 : decode cX7_letPass 48 = .ok (.invokevirtual 65, 3) := by decide +kernel
theorem dX7_letPass_51 : decode cX7_letPass 51 = .ok (.iinc 5 1, 3) := by decide +kernel
theorem dX7_letPass_54 : decode cX7_letPass 54 = .ok (.goto (-23), 3) := by decide +kernel
theorem dX7_letPass_57 : decode cX7_letPass 57 = .ok (.aload_n 1, 1) := by decide +kernel
theorem dX7_letPass_58 : decode cX7_letPass 58 = .ok (.dup, 1) := by decide +kernel
theorem dX7_letPass_59 : decode cX7_letPass 59 = .ok (.getfield 68, 3) := by decide +kernel
theorem dX7_letPass_62 : decode cX7_letPass 62 = .ok (.iconst 1, 1) := by decide +kernel
theorem dX7_letPass_63 : decode cX7_letPass 63 = .ok (.iadd, 1) := by decide +kernel
theorem dX7_letPass_64 : decode cX7_letPass 64 = .ok (.putfield 68, 3) := by decide +kernel
theorem dX7_letPass_67 : decode cX7_letPass 67 = .ok (.iinc 4 1, 3) := by decide +kernel
theorem dX7_letPass_70 : decode cX7_letPass 70 = .ok (.goto (-48), 3) := by decide +kernel
theorem dX7_letPass_73 : decode cX7_letPass 73 = .ok (.aload_n 1, 1) := by decide +kernel
theorem dX7_letPass_74 : decode cX7_letPass 74 = .ok (.getfield 55, 3) := by decide +kernel
theorem dX7_letPass_77 : decode cX7_letPass 77 = .ok (.iload_n 3, 1) := by decide +kernel
theorem dX7_letPass_78 : decode cX7_letPass 78 = .ok (.isub, 1) := by decide +kernel
theorem dX7_letPass_79 : decode cX7_letPass 79 = .ok (.ireturn, 1) := by decide +kernel
theorem dX7_consider_0 : decode cX7_consider 0 = .ok (.aload_n 1, 1) := by decide +kernel
theorem dX7_consider_1 : decode cX7_consider 1 = .ok (.iload_n 2, 1) := by decide +kernel
theorem dX7_consider_2 : decode cX7_consider 2 = .ok (.invokevirtual 25, 3) := by decide +kernel
theorem dX7_consider_5 : decode cX7_consider 5 = .ok (.ifCond .eq 14, 3) := by decide +kernel
theorem dX7_consider_8 : decode cX7_consider 8 = .ok (.aload_n 1, 1) := by decide +kernel
theorem dX7_consider_9 : decode cX7_consider 9 = .ok (.getfield 71, 3) := by decide +kernel
theorem dX7_consider_12 : decode cX7_consider 12 = .ok (.iload_n 2, 1) := by decide +kernel
theorem dX7_consider_13 : decode cX7_consider 13 = .ok (.invokestatic 38, 3) := by decide +kernel
theorem dX7_consider_16 : decode cX7_consider 16 = .ok (.ifCond .eq 4, 3) := by decide +kernel
theorem dX7_consider_19 : decode cX7_consider 19 = .ok (.return_, 1) := by decide +kernel
theorem dX7_consider_20 : decode cX7_consider 20 = .ok (.aload_n 1, 1) := by decide +kernel
theorem dX7_consider_21 : decode cX7_consider 21 = .ok (.getfield 74, 3) := by decide +kernel
theorem dX7_consider_24 : decode cX7_consider 24 = .ok (.iload_n 2, 1) := by decide +kernel
theorem dX7_consider_25 : decode cX7_consider 25 = .ok (.iaload, 1) := by decide +kernel
theorem dX7_consider_26 : decode cX7_consider 26 = .ok (.ifCond .le 14, 3) := by decide +kernel
theorem dX7_consider_29 : decode cX7_consider 29 = .ok (.aload_n 1, 1) := by decide +kernel
theorem dX7_consider_30 : decode cX7_consider 30 = .ok (.getfield 74, 3) := by decide +kernel
theorem dX7_consider_33 : decode cX7_consider 33 = .ok (.iload_n 2, 1) := by decide +kernel
theorem dX7_consider_34 : decode cX7_consider 34 = .ok (.dup2, 1) := by decide +kernel
theorem dX7_consider_35 : decode cX7_consider 35 = .ok (.iaload, 1) := by decide +kernel
theorem dX7_consider_36 : decode cX7_consider 36 = .ok (.iconst 1, 1) := by decide +kernel
theorem dX7_consider_37 : decode cX7_consider 37 = .ok (.isub, 1) := by decide +kernel
theorem dX7_consider_38 : decode cX7_consider 38 = .ok (.iastore, 1) := by decide +kernel
theorem dX7_consider_39 : decode cX7_consider 39 = .ok (.return_, 1) := by decide +kernel
theorem dX7_consider_40 : decode cX7_consider 40 = .ok (.aload_n 0, 1) := by decide +kernel
theorem dX7_consider_41 : decode cX7_consider 41 = .ok (.getfield 12, 3) := by decide +kernel
theorem dX7_consider_44 : decode cX7_consider 44 = .ok (.aload_n 1, 1) := by decide +kernel
theorem dX7_consider_45 : decode cX7_consider 45 = .ok (.iload_n 2, 1) := by decide +kernel
theorem dX7_consider_46 : decode cX7_consider 46 = .ok (.invokevirtual 77, 3) := by decide +kernel
theorem dX7_consider_49 : decode cX7_consider 49 = .ok (.istore_n 3, 1) := by decide +kernel
theorem dX7_consider_50 : decode cX7_consider 50 = .ok (.iload_n 3, 1) := by decide +kernel
theorem dX7_consider_51 : decode cX7_consider 51 = .ok (.iconst (-1), 1) := by decide +kernel
theorem dX7_consider_52 : decode cX7_consider 52 = .ok (.if_icmp .ne 4, 3) := by decide +kernel
theorem dX7_consider_55 : decode cX7_consider 55 = .ok (.return_, 1) := by decide +kernel
theorem dX7_consider_56 : decode cX7_consider 56 = .ok (.aload_n 1, 1) := by decide +kernel
theorem dX7_consider_57 : decode cX7_consider 57 = .ok (.iload_n 2, 1) := by decide +kernel
theorem dX7_consider_58 : decode cX7_consider 58 = .ok (.iload_n 3, 1) := by decide +kernel
theorem dX7_consider_59 : decode cX7_consider 59 = .ok (.invokevirtual 81, 3) := by decide +kernel
theorem dX7_consider_62 : decode cX7_consider 62 = .ok (.ifCond .eq 12, 3) := by decide +kernel
theorem dX7_consider_65 : decode cX7_consider 65 = .ok (.aload_n 1, 1) := by decide +kernel
theorem dX7_consider_66 : decode cX7_consider 66 = .ok (.iload_n 2, 1) := by decide +kernel
theorem dX7_consider_67 : decode cX7_consider 67 = .ok (.iload_n 3, 1) := by decide +kernel
theorem dX7_consider_68 : decode cX7_consider 68 = .ok (.invokevirtual 84, 3) := by decide +kernel
theorem dX7_consider_71 : decode cX7_consider 71 = .ok (.goto 13, 3) := by decide +kernel
theorem dX7_consider_74 : decode cX7_consider 74 = .ok (.aload_n 1, 1) := by decide +kernel
theorem dX7_consider_75 : decode cX7_consider 75 = .ok (.getfield 88, 3) := by decide +kernel
theorem dX7_consider_78 : decode cX7_consider 78 = .ok (.iload_n 2, 1) := by decide +kernel
theorem dX7_consider_79 : decode cX7_consider 79 = .ok (.dup2, 1) := by decide +kernel
theorem dX7_consider_80 : decode cX7_consider 80 = .ok (.iaload, 1) := by decide +kernel
theorem dX7_consider_81 : decode cX7_consider 81 = .ok (.iconst 1, 1) := by decide +kernel
theorem dX7_consider_82 : decode cX7_consider 82 = .ok (.iadd, 1) := by decide +kernel
theorem dX7_consider_83 : decode cX7_consider 83 = .ok (.iastore, 1) := by decide +kernel
theorem dX7_consider_84 : decode cX7_consider 84 = .ok (.return_, 1) := by decide +kernel
theorem dX7_ticksToGoal_0 : decode cX7_ticksToGoal 0 = .ok (.iconst 1, 1) := by decide +kernel
theorem dX7_ticksToGoal_1 : decode cX7_ticksToGoal 1 = .ok (.istore_n 3, 1) := by decide +kernel
theorem dX7_ticksToGoal_2 : decode cX7_ticksToGoal 2 = .ok (.iload_n 3, 1) := by decide +kernel
theorem dX7_ticksToGoal_3 : decode cX7_ticksToGoal 3 = .ok (.bipush 99, 2) := by decide +kernel
theorem dX7_ticksToGoal_5 : decode cX7_ticksToGoal 5 = .ok (.if_icmp .gt 28, 3) := by decide +kernel
theorem dX7_ticksToGoal_8 : decode cX7_ticksToGoal 8 = .ok (.aload_n 0, 1) := by decide +kernel
theorem dX7_ticksToGoal_9 : decode cX7_ticksToGoal 9 = .ok (.aload_n 1, 1) := by decide +kernel
theorem dX7_ticksToGoal_10 : decode cX7_ticksToGoal 10 = .ok (.iconst 1, 1) := by decide +kernel
theorem dX7_ticksToGoal_11 : decode cX7_ticksToGoal 11 = .ok (.invokevirtual 91, 3) := by decide +kernel
theorem dX7_ticksToGoal_14 : decode cX7_ticksToGoal 14 = .ok (.pop, 1) := by decide +kernel
theorem dX7_ticksToGoal_15 : decode cX7_ticksToGoal 15 = .ok (.aload_n 1, 1) := by decide +kernel
theorem dX7_ticksToGoal_16 : decode cX7_ticksToGoal 16 = .ok (.getfield 52, 3) := by decide +kernel
theorem dX7_ticksToGoal_19 : decode cX7_ticksToGoal 19 = .ok (.iload_n 2, 1) := by decide +kernel
theorem dX7_ticksToGoal_20 : decode cX7_ticksToGoal 20 = .ok (.iaload, 1) := by decide +kernel
theorem dX7_ticksToGoal_21 : decode cX7_ticksToGoal 21 = .ok (.iconst (-1), 1) := by decide +kernel
theorem dX7_ticksToGoal_22 : decode cX7_ticksToGoal 22 = .ok (.if_icmp .ne 5, 3) := by decide +kernel
theorem dX7_ticksToGoal_25 : decode cX7_ticksToGoal 25 = .ok (.iload_n 3, 1) := by decide +kernel
theorem dX7_ticksToGoal_26 : decode cX7_ticksToGoal 26 = .ok (.ireturn, 1) := by decide +kernel
theorem dX7_ticksToGoal_27 : decode cX7_ticksToGoal 27 = .ok (.iinc 3 1, 3) := by decide +kernel
theorem dX7_ticksToGoal_30 : decode cX7_ticksToGoal 30 = .ok (.goto (-28), 3) := by decide +kernel
theorem dX7_ticksToGoal_33 : decode cX7_ticksToGoal 33 = .ok (.iconst (-1), 1) := by decide +kernel
theorem dX7_ticksToGoal_34 : decode cX7_ticksToGoal 34 = .ok (.ireturn, 1) := by decide +kernel
theorem dX7_blockerOf_0 : decode cX7_blockerOf 0 = .ok (.aload_n 1, 1) := by decide +kernel
theorem dX7_blockerOf_1 : decode cX7_blockerOf 1 = .ok (.getfield 71, 3) := by decide +kernel
theorem dX7_blockerOf_4 : decode cX7_blockerOf 4 = .ok (.iload_n 2, 1) := by decide +kernel
theorem dX7_blockerOf_5 : decode cX7_blockerOf 5 = .ok (.invokestatic 38, 3) := by decide +kernel
theorem dX7_blockerOf_8 : decode cX7_blockerOf 8 = .ok (.ifCond .eq 5, 3) := by decide +kernel
theorem dX7_blockerOf_11 : decode cX7_blockerOf 11 = .ok (.iconst (-1), 1) := by decide +kernel
theorem dX7_blockerOf_12 : decode cX7_blockerOf 12 = .ok (.ireturn, 1) := by decide +kernel
theorem dX7_blockerOf_13 : decode cX7_blockerOf 13 = .ok (.aload_n 0, 1) := by decide +kernel
theorem dX7_blockerOf_14 : decode cX7_blockerOf 14 = .ok (.getfield 12, 3) := by decide +kernel
theorem dX7_blockerOf_17 : decode cX7_blockerOf 17 = .ok (.aload_n 1, 1) := by decide +kernel
theorem dX7_blockerOf_18 : decode cX7_blockerOf 18 = .ok (.iload_n 2, 1) := by decide +kernel
theorem dX7_blockerOf_19 : decode cX7_blockerOf 19 = .ok (.invokevirtual 77, 3) := by decide +kernel
theorem dX7_blockerOf_22 : decode cX7_blockerOf 22 = .ok (.istore_n 3, 1) := by decide +kernel
theorem dX7_blockerOf_23 : decode cX7_blockerOf 23 = .ok (.iload_n 3, 1) := by decide +kernel
theorem dX7_blockerOf_24 : decode cX7_blockerOf 24 = .ok (.iconst (-1), 1) := by decide +kernel
theorem dX7_blockerOf_25 : decode cX7_blockerOf 25 = .ok (.if_icmp .ne 7, 3) := by decide +kernel
theorem dX7_blockerOf_28 : decode cX7_blockerOf 28 = .ok (.iconst (-1), 1) := by decide +kernel
theorem dX7_blockerOf_29 : decode cX7_blockerOf 29 = .ok (.goto 8, 3) := by decide +kernel
theorem dX7_blockerOf_32 : decode cX7_blockerOf 32 = .ok (.aload_n 1, 1) := by decide +kernel
theorem dX7_blockerOf_33 : decode cX7_blockerOf 33 = .ok (.iload_n 3, 1) := by decide +kernel
theorem dX7_blockerOf_34 : decode cX7_blockerOf 34 = .ok (.invokevirtual 94, 3) := by decide +kernel
theorem dX7_blockerOf_37 : decode cX7_blockerOf 37 = .ok (.ireturn, 1) := by decide +kernel
theorem dX7_stuckByFollowing_0 : decode cX7_stuckByFollowing 0 = .ok (.iconst 0, 1) := by decide +kernel
theorem dX7_stuckByFollowing_1 : decode cX7_stuckByFollowing 1 = .ok (.istore_n 2, 1) := by decide +kernel
theorem dX7_stuckByFollowing_2 : decode cX7_stuckByFollowing 2 = .ok (.iload_n 2, 1) := by decide +kernel
theorem dX7_stuckByFollowing_3 : decode cX7_stuckByFollowing 3 = .ok (.aload_n 1, 1) := by decide +kernel
theorem dX7_stuckByFollowing_4 : decode cX7_stuckByFollowing 4 = .ok (.getfield 58, 3) := by decide +kernel
theorem dX7_stuckByFollowing_7 : decode cX7_stuckByFollowing 7 = .ok (.if_icmp .ge 21, 3) := by decide +kernel
theorem dX7_stuckByFollowing_10 : decode cX7_stuckByFollowing 10 = .ok (.aload_n 0, 1) := by decide +kernel
theorem dX7_stuckByFollowing_11 : decode cX7_stuckByFollowing 11 = .ok (.getfield 18, 3) := by decide +kernel
theorem dX7_stuckByFollowing_14 : decode cX7_stuckByFollowing 14 = .ok (.iload_n 2, 1) := by decide +kernel
theorem dX7_stuckByFollowing_15 : decode cX7_stuckByFollowing 15 = .ok (.aload_n 0, 1) := by decide +kernel
theorem dX7_stuckByFollowing_16 : decode cX7_stuckByFollowing 16 = .ok (.aload_n 1, 1) := by decide +kernel
theorem dX7_stuckByFollowing_17 : decode cX7_stuckByFollowing 17 = .ok (.iload_n 2, 1) := by decide +kernel
theorem dX7_stuckByFollowing_18 : decode cX7_stuckByFollowing 18 = .ok (.invokevirtual 97, 3) := by decide +kernel
theorem dX7_stuckByFollowing_21 : decode cX7_stuckByFollowing 21 = .ok (.iastore, 1) := by decide +kernel
theorem dX7_stuckByFollowing_22 : decode cX7_stuckByFollowing 22 = .ok (.iinc 2 1, 3) := by decide +kernel
theorem dX7_stuckByFollowing_25 : decode cX7_stuckByFollowing 25 = .ok (.goto (-23), 3) := by decide +kernel
theorem dX7_stuckByFollowing_28 : decode cX7_stuckByFollowing 28 = .ok (.iconst 0, 1) := by decide +kernel
theorem dX7_stuckByFollowing_29 : decode cX7_stuckByFollowing 29 = .ok (.istore_n 2, 1) := by decide +kernel
theorem dX7_stuckByFollowing_30 : decode cX7_stuckByFollowing 30 = .ok (.iconst 0, 1) := by decide +kernel
theorem dX7_stuckByFollowing_31 : decode cX7_stuckByFollowing 31 = .ok (.istore_n 3, 1) := by decide +kernel
theorem dX7_stuckByFollowing_32 : decode cX7_stuckByFollowing 32 = .ok (.iload_n 3, 1) := by decide +kernel
theorem dX7_stuckByFollowing_33 : decode cX7_stuckByFollowing 33 = .ok (.aload_n 1, 1) := by decide +kernel
theorem dX7_stuckByFollowing_34 : decode cX7_stuckByFollowing 34 = .ok (.getfield 58, 3) := by decide +kernel
theorem dX7_stuckByFollowing_37 : decode cX7_stuckByFollowing 37 = .ok (.if_icmp .ge 24, 3) := by decide +kernel
theorem dX7_stuckByFollowing_40 : decode cX7_stuckByFollowing 40 = .ok (.aload_n 0, 1) := by decide +kernel
theorem dX7_stuckByFollowing_41 : decode cX7_stuckByFollowing 41 = .ok (.iload_n 3, 1) := by decide +kernel
theorem dX7_stuckByFollowing_42 : decode cX7_stuckByFollowing 42 = .ok (.aload_n 1, 1) := by decide +kernel
theorem dX7_stuckByFollowing_43 : decode cX7_stuckByFollowing 43 = .ok (.getfield 58, 3) := by decide +kernel
theorem dX7_stuckByFollowing_46 : decode cX7_stuckByFollowing 46 = .ok (.invokevirtual 100, 3) := by decide +kernel
theorem dX7_stuckByFollowing_49 : decode cX7_stuckByFollowing 49 = .ok (.ifCond .eq 6, 3) := by decide +kernel
theorem dX7_stuckByFollowing_52 : decode cX7_stuckByFollowing 52 = .ok (.iinc 2 1, 3) := by decide +kernel
theorem dX7_stuckByFollowing_55 : decode cX7_stuckByFollowing 55 = .ok (.iinc 3 1, 3) := by decide +kernel
theorem dX7_stuckByFollowing_58 : decode cX7_stuckByFollowing 58 = .ok (.goto (-26), 3) := by decide +kernel
theorem dX7_stuckByFollowing_61 : decode cX7_stuckByFollowing 61 = .ok (.iload_n 2, 1) := by decide +kernel
theorem dX7_stuckByFollowing_62 : decode cX7_stuckByFollowing 62 = .ok (.ireturn, 1) := by decide +kernel
theorem dX7_leadsBack_0 : decode cX7_leadsBack 0 = .ok (.iload_n 1, 1) := by decide +kernel
theorem dX7_leadsBack_1 : decode cX7_leadsBack 1 = .ok (.istore_n 3, 1) := by decide +kernel
theorem dX7_leadsBack_2 : decode cX7_leadsBack 2 = .ok (.iconst 0, 1) := by decide +kernel
theorem dX7_leadsBack_3 : decode cX7_leadsBack 3 = .ok (.istore 4, 2) := by decide +kernel
theorem dX7_leadsBack_5 : decode cX7_leadsBack 5 = .ok (.iload 4, 2) := by decide +kernel
theorem dX7_leadsBack_7 : decode cX7_leadsBack 7 = .ok (.iload_n 2, 1) := by decide +kernel
theorem dX7_leadsBack_8 : decode cX7_leadsBack 8 = .ok (.if_icmp .ge 30, 3) := by decide +kernel
theorem dX7_leadsBack_11 : decode cX7_leadsBack 11 = .ok (.aload_n 0, 1) := by decide +kernel
theorem dX7_leadsBack_12 : decode cX7_leadsBack 12 = .ok (.getfield 18, 3) := by decide +kernel
theorem dX7_leadsBack_15 : decode cX7_leadsBack 15 = .ok (.iload_n 3, 1) := by decide +kernel
theorem dX7_leadsBack_16 : decode cX7_leadsBack 16 = .ok (.iaload, 1) := by decide +kernel
theorem dX7_leadsBack_17 : decode cX7_leadsBack 17 = .ok (.istore_n 3, 1) := by decide +kernel
theorem dX7_leadsBack_18 : decode cX7_leadsBack 18 = .ok (.iload_n 3, 1) := by decide +kernel
theorem dX7_leadsBack_19 : decode cX7_leadsBack 19 = .ok (.iload_n 1, 1) := by decide +kernel
theorem dX7_leadsBack_20 : decode cX7_leadsBack 20 = .ok (.if_icmp .ne 5, 3) := by decide +kernel
theorem dX7_leadsBack_23 : decode cX7_leadsBack 23 = .ok (.iconst 1, 1) := by decide +kernel
theorem dX7_leadsBack_24 : decode cX7_leadsBack 24 = .ok (.ireturn, 1) := by decide +kernel
theorem dX7_leadsBack_25 : decode cX7_leadsBack 25 = .ok (.iload_n 3, 1) := by decide +kernel
theorem dX7_leadsBack_26 : decode cX7_leadsBack 26 = .ok (.iconst (-1), 1) := by decide +kernel
theorem dX7_leadsBack_27 : decode cX7_leadsBack 27 = .ok (.if_icmp .ne 5, 3) := by decide +kernel
theorem dX7_leadsBack_30 : decode cX7_leadsBack 30 = .ok (.iconst 0, 1) := by decide +kernel
theorem dX7_leadsBack_31 : decode cX7_leadsBack 31 = .ok (.ireturn, 1) := by decide +kernel
theorem dX7_leadsBack_32 : decode cX7_leadsBack 32 = .ok (.iinc 4 1, 3) := by decide +kernel
theorem dX7_leadsBack_35 : decode cX7_leadsBack 35 = .ok (.goto (-30), 3) := by decide +kernel
theorem dX7_leadsBack_38 : decode cX7_leadsBack 38 = .ok (.iconst 0, 1) := by decide +kernel
theorem dX7_leadsBack_39 : decode cX7_leadsBack 39 = .ok (.ireturn, 1) := by decide +kernel
theorem dX7_stuckByTable_0 : decode cX7_stuckByTable 0 = .ok (.iconst 0, 1) := by decide +kernel
theorem dX7_stuckByTable_1 : decode cX7_stuckByTable 1 = .ok (.istore_n 2, 1) := by decide +kernel
theorem dX7_stuckByTable_2 : decode cX7_stuckByTable 2 = .ok (.iload_n 2, 1) := by decide +kernel
theorem dX7_stuckByTable_3 : decode cX7_stuckByTable 3 = .ok (.aload_n 1, 1) := by decide +kernel
theorem dX7_stuckByTable_4 : decode cX7_stuckByTable 4 = .ok (.getfield 58, 3) := by decide +kernel
theorem dX7_stuckByTable_7 : decode cX7_stuckByTable 7 = .ok (.if_icmp .ge 34, 3) := by decide +kernel
theorem dX7_stuckByTable_10 : decode cX7_stuckByTable 10 = .ok (.aload_n 0, 1) := by decide +kernel
theorem dX7_stuckByTable_11 : decode cX7_stuckByTable 11 = .ok (.aload_n 1, 1) := by decide +kernel
theorem dX7_stuckByTable_12 : decode cX7_stuckByTable 12 = .ok (.iload_n 2, 1) := by decide +kernel
theorem dX7_stuckByTable_13 : decode cX7_stuckByTable 13 = .ok (.invokevirtual 97, 3) := by decide +kernel
theorem dX7_stuckByTable_16 : decode cX7_stuckByTable 16 = .ok (.istore_n 3, 1) := by decide +kernel
theorem dX7_stuckByTable_17 : decode cX7_stuckByTable 17 = .ok (.aload_n 0, 1) := by decide +kernel
theorem dX7_stuckByTable_18 : decode cX7_stuckByTable 18 = .ok (.getfield 22, 3) := by decide +kernel
theorem dX7_stuckByTable_21 : decode cX7_stuckByTable 21 = .ok (.iload_n 2, 1) := by decide +kernel
theorem dX7_stuckByTable_22 : decode cX7_stuckByTable 22 = .ok (.iload_n 3, 1) := by decide +kernel
theorem dX7_stuckByTable_23 : decode cX7_stuckByTable 23 = .ok (.iconst (-1), 1) := by decide +kernel
theorem dX7_stuckByTable_24 : decode cX7_stuckByTable 24 = .ok (.if_icmp .ne 7, 3) := by decide +kernel
theorem dX7_stuckByTable_27 : decode cX7_stuckByTable 27 = .ok (.iconst 0, 1) := by decide +kernel
theorem dX7_stuckByTable_28 : decode cX7_stuckByTable 28 = .ok (.goto 6, 3) := by decide +kernel
theorem dX7_stuckByTable_31 : decode cX7_stuckByTable 31 = .ok (.iconst 1, 1) := by decide +kernel
theorem dX7_stuckByTable_32 : decode cX7_stuckByTable 32 = .ok (.iload_n 3, 1) := by decide +kernel
theorem dX7_stuckByTable_33 : decode cX7_stuckByTable 33 = .ok (.ishl, 1) := by decide +kernel
theorem dX7_stuckByTable_34 : decode cX7_stuckByTable 34 = .ok (.iastore, 1) := by decide +kernel
theorem dX7_stuckByTable_35 : decode cX7_stuckByTable 35 = .ok (.iinc 2 1, 3) := by decide +kernel
theorem dX7_stuckByTable_38 : decode cX7_stuckByTable 38 = .ok (.goto (-36), 3) := by decide +kernel
theorem dX7_stuckByTable_41 : decode cX7_stuckByTable 41 = .ok (.iconst 0, 1) := by decide +kernel
theorem dX7_stuckByTable_42 : decode cX7_stuckByTable 42 = .ok (.istore_n 2, 1) := by decide +kernel
theorem dX7_stuckByTable_43 : decode cX7_stuckByTable 43 = .ok (.iload_n 2, 1) := by decide +kernel
theorem dX7_stuckByTable_44 : decode cX7_stuckByTable 44 = .ok (.aload_n 1, 1) := by decide +kernel
theorem dX7_stuckByTable_45 : decode cX7_stuckByTable 45 = .ok (.getfield 58, 3) := by decide +kernel
theorem dX7_stuckByTable_48 : decode cX7_stuckByTable 48 = .ok (.if_icmp .ge 53, 3) := by decide +kernel
theorem dX7_stuckByTable_51 : decode cX7_stuckByTable 51 = .ok (.iconst 0, 1) := by decide +kernel
theorem dX7_stuckByTable_52 : decode cX7_stuckByTable 52 = .ok (.istore_n 3, 1) := by decide +kernel
theorem dX7_stuckByTable_53 : decode cX7_stuckByTable 53 = .ok (.iload_n 3, 1) := by decide +kernel
theorem dX7_stuckByTable_54 : decode cX7_stuckByTable 54 = .ok (.aload_n 1, 1) := by decide +kernel
theorem dX7_stuckByTable_55 : decode cX7_stuckByTable 55 = .ok (.getfield 58, 3) := by decide +kernel
theorem dX7_stuckByTable_58 : decode cX7_stuckByTable 58 = .ok (.if_icmp .ge 37, 3) := by decide +kernel
theorem dX7_stuckByTable_61 : decode cX7_stuckByTable 61 = .ok (.aload_n 0, 1) := by decide +kernel
theorem dX7_stuckByTable_62 : decode cX7_stuckByTable 62 = .ok (.getfield 22, 3) := by decide +kernel
theorem dX7_stuckByTable_65 : decode cX7_stuckByTable 65 = .ok (.iload_n 3, 1) := by decide +kernel
theorem dX7_stuckByTable_66 : decode cX7_stuckByTable 66 = .ok (.iaload, 1) := by decide +kernel
theorem dX7_stuckByTable_67 : decode cX7_stuckByTable 67 = .ok (.iload_n 2, 1) := by decide +kernel
theorem dX7_stuckByTable_68 : decode cX7_stuckByTable 68 = .ok (.invokestatic 38, 3) := by decide +kernel
theorem dX7_stuckByTable_71 : decode cX7_stuckByTable 71 = .ok (.ifCond .eq 18, 3) := by decide +kernel
theorem dX7_stuckByTable_74 : decode cX7_stuckByTable 74 = .ok (.aload_n 0, 1) := by decide +kernel
theorem dX7_stuckByTable_75 : decode cX7_stuckByTable 75 = .ok (.getfield 22, 3) := by decide +kernel
theorem dX7_stuckByTable_78 : decode cX7_stuckByTable 78 = .ok (.iload_n 3, 1) := by decide +kernel
theorem dX7_stuckByTable_79 : decode cX7_stuckByTable 79 = .ok (.dup2, 1) := by decide +kernel
theorem dX7_stuckByTable_80 : decode cX7_stuckByTable 80 = .ok (.iaload, 1) := by decide +kernel
theorem dX7_stuckByTable_81 : decode cX7_stuckByTable 81 = .ok (.aload_n 0, 1) := by decide +kernel
theorem dX7_stuckByTable_82 : decode cX7_stuckByTable 82 = .ok (.getfield 22, 3) := by decide +kernel
theorem dX7_stuckByTable_85 : decode cX7_stuckByTable 85 = .ok (.iload_n 2, 1) := by decide +kernel
theorem dX7_stuckByTable_86 : decode cX7_stuckByTable 86 = .ok (.iaload, 1) := by decide +kernel
theorem dX7_stuckByTable_87 : decode cX7_stuckByTable 87 = .ok (.ior, 1) := by decide +kernel
theorem dX7_stuckByTable_88 : decode cX7_stuckByTable 88 = .ok (.iastore, 1) := by decide +kernel
theorem dX7_stuckByTable_89 : decode cX7_stuckByTable 89 = .ok (.iinc 3 1, 3) := by decide +kernel
theorem dX7_stuckByTable_92 : decode cX7_stuckByTable 92 = .ok (.goto (-39), 3) := by decide +kernel
theorem dX7_stuckByTable_95 : decode cX7_stuckByTable 95 = .ok (.iinc 2 1, 3) := by decide +kernel
theorem dX7_stuckByTable_98 : decode cX7_stuckByTable 98 = .ok (.goto (-55), 3) := by decide +kernel
theorem dX7_stuckByTable_101 : decode cX7_stuckByTable 101 = .ok (.iconst 0, 1) := by decide +kernel
theorem dX7_stuckByTable_102 : decode cX7_stuckByTable 102 = .ok (.istore_n 2, 1) := by decide +kernel
theorem dX7_stuckByTable_103 : decode cX7_stuckByTable 103 = .ok (.iconst 0, 1) := by decide +kernel
theorem dX7_stuckByTable_104 : decode cX7_stuckByTable 104 = .ok (.istore_n 3, 1) := by decide +kernel
theorem dX7_stuckByTable_105 : decode cX7_stuckByTable 105 = .ok (.iload_n 3, 1) := by decide +kernel
theorem dX7_stuckByTable_106 : decode cX7_stuckByTable 106 = .ok (.aload_n 1, 1) := by decide +kernel
theorem dX7_stuckByTable_107 : decode cX7_stuckByTable 107 = .ok (.getfield 58, 3) := by decide +kernel
theorem dX7_stuckByTable_110 : decode cX7_stuckByTable 110 = .ok (.if_icmp .ge 25, 3) := by decide +kernel
theorem dX7_stuckByTable_113 : decode cX7_stuckByTable 113 = .ok (.aload_n 0, 1) := by decide +kernel
theorem dX7_stuckByTable_114 : decode cX7_stuckByTable 114 = .ok (.getfield 22, 3) := by decide +kernel
theorem dX7_stuckByTable_117 : decode cX7_stuckByTable 117 = .ok (.iload_n 3, 1) := by decide +kernel
theorem dX7_stuckByTable_118 : decode cX7_stuckByTable 118 = .ok (.iaload, 1) := by decide +kernel
theorem dX7_stuckByTable_119 : decode cX7_stuckByTable 119 = .ok (.iload_n 3, 1) := by decide +kernel
theorem dX7_stuckByTable_120 : decode cX7_stuckByTable 120 = .ok (.invokestatic 38, 3) := by decide +kernel
theorem dX7_stuckByTable_123 : decode cX7_stuckByTable 123 = .ok (.ifCond .eq 6, 3) := by decide +kernel
theorem dX7_stuckByTable_126 : decode cX7_stuckByTable 126 = .ok (.iinc 2 1, 3) := by decide +kernel
theorem dX7_stuckByTable_129 : decode cX7_stuckByTable 129 = .ok (.iinc 3 1, 3) := by decide +kernel
theorem dX7_stuckByTable_132 : decode cX7_stuckByTable 132 = .ok (.goto (-27), 3) := by decide +kernel
theorem dX7_stuckByTable_135 : decode cX7_stuckByTable 135 = .ok (.iload_n 2, 1) := by decide +kernel
theorem dX7_stuckByTable_136 : decode cX7_stuckByTable 136 = .ok (.ireturn, 1) := by decide +kernel
theorem dX8_init_0 : decode cX8_init 0 = .ok (.aload_n 0, 1) := by decide +kernel
theorem dX8_init_1 : decode cX8_init 1 = .ok (.invokespecial 3, 3) := by decide +kernel
theorem dX8_init_4 : decode cX8_init 4 = .ok (.aload_n 0, 1) := by decide +kernel
theorem dX8_init_5 : decode cX8_init 5 = .ok (.new 9, 3) := by decide +kernel
theorem dX8_init_8 : decode cX8_init 8 = .ok (.dup, 1) := by decide +kernel
theorem dX8_init_9 : decode cX8_init 9 = .ok (.invokespecial 11, 3) := by decide +kernel
theorem dX8_init_12 : decode cX8_init 12 = .ok (.putfield 12, 3) := by decide +kernel
theorem dX8_init_15 : decode cX8_init 15 = .ok (.aload_n 0, 1) := by decide +kernel
theorem dX8_init_16 : decode cX8_init 16 = .ok (.new 9, 3) := by decide +kernel
theorem dX8_init_19 : decode cX8_init 19 = .ok (.dup, 1) := by decide +kernel
theorem dX8_init_20 : decode cX8_init 20 = .ok (.invokespecial 11, 3) := by decide +kernel
theorem dX8_init_23 : decode cX8_init 23 = .ok (.putfield 16, 3) := by decide +kernel
theorem dX8_init_26 : decode cX8_init 26 = .ok (.aload_n 0, 1) := by decide +kernel
theorem dX8_init_27 : decode cX8_init 27 = .ok (.new 9, 3) := by decide +kernel
theorem dX8_init_30 : decode cX8_init 30 = .ok (.dup, 1) := by decide +kernel
theorem dX8_init_31 : decode cX8_init 31 = .ok (.invokespecial 11, 3) := by decide +kernel
theorem dX8_init_34 : decode cX8_init 34 = .ok (.putfield 19, 3) := by decide +kernel
theorem dX8_init_37 : decode cX8_init 37 = .ok (.aload_n 0, 1) := by decide +kernel
theorem dX8_init_38 : decode cX8_init 38 = .ok (.new 22, 3) := by decide +kernel
theorem dX8_init_41 : decode cX8_init 41 = .ok (.dup, 1) := by decide +kernel
theorem dX8_init_42 : decode cX8_init 42 = .ok (.invokespecial 24, 3) := by decide +kernel
theorem dX8_init_45 : decode cX8_init 45 = .ok (.putfield 25, 3) := by decide +kernel
theorem dX8_init_48 : decode cX8_init 48 = .ok (.aload_n 0, 1) := by decide +kernel
theorem dX8_init_49 : decode cX8_init 49 = .ok (.new 29, 3) := by decide +kernel
theorem dX8_init_52 : decode cX8_init 52 = .ok (.dup, 1) := by decide +kernel
theorem dX8_init_53 : decode cX8_init 53 = .ok (.invokespecial 31, 3) := by decide +kernel
theorem dX8_init_56 : decode cX8_init 56 = .ok (.putfield 32, 3) := by decide +kernel
theorem dX8_init_59 : decode cX8_init 59 = .ok (.aload_n 0, 1) := by decide +kernel
theorem dX8_init_60 : decode cX8_init 60 = .ok (.new 36, 3) := by decide +kernel
theorem dX8_init_63 : decode cX8_init 63 = .ok (.dup, 1) := by decide +kernel
theorem dX8_init_64 : decode cX8_init 64 = .ok (.invokespecial 38, 3) := by decide +kernel
theorem dX8_init_67 : decode cX8_init 67 = .ok (.putfield 39, 3) := by decide +kernel
theorem dX8_init_70 : decode cX8_init 70 = .ok (.aload_n 0, 1) := by decide +kernel
theorem dX8_init_71 : decode cX8_init 71 = .ok (.new 43, 3) := by decide +kernel
theorem dX8_init_74 : decode cX8_init 74 = .ok (.dup, 1) := by decide +kernel
theorem dX8_init_75 : decode cX8_init 75 = .ok (.invokespecial 45, 3) := by decide +kernel
theorem dX8_init_78 : decode cX8_init 78 = .ok (.putfield 46, 3) := by decide +kernel
theorem dX8_init_81 : decode cX8_init 81 = .ok (.aload_n 0, 1) := by decide +kernel
theorem dX8_init_82 : decode cX8_init 82 = .ok (.new 50, 3) := by decide +kernel
theorem dX8_init_85 : decode cX8_init 85 = .ok (.dup, 1) := by decide +kernel
theorem dX8_init_86 : decode cX8_init 86 = .ok (.invokespecial 52, 3) := by decide +kernel
theorem dX8_init_89 : decode cX8_init 89 = .ok (.putfield 53, 3) := by decide +kernel
theorem dX8_init_92 : decode cX8_init 92 = .ok (.aload_n 0, 1) := by decide +kernel
theorem dX8_init_93 : decode cX8_init 93 = .ok (.iconst 0, 1) := by decide +kernel
theorem dX8_init_94 : decode cX8_init 94 = .ok (.putfield 57, 3) := by decide +kernel
theorem dX8_init_97 : decode cX8_init 97 = .ok (.aload_n 0, 1) := by decide +kernel
theorem dX8_init_98 : decode cX8_init 98 = .ok (.iconst (-1), 1) := by decide +kernel
theorem dX8_init_99 : decode cX8_init 99 = .ok (.putfield 61, 3) := by decide +kernel
theorem dX8_init_102 : decode cX8_init 102 = .ok (.aload_n 0, 1) := by decide +kernel
theorem dX8_init_103 : decode cX8_init 103 = .ok (.iconst (-1), 1) := by decide +kernel
theorem dX8_init_104 : decode cX8_init 104 = .ok (.putfield 65, 3) := by decide +kernel
theorem dX8_init_107 : decode cX8_init 107 = .ok (.return_, 1) := by decide +kernel
theorem dX8_addBlock_0 : decode cX8_addBlock 0 = .ok (.aload_n 0, 1) := by decide +kernel
theorem dX8_addBlock_1 : decode cX8_addBlock 1 = .ok (.getfield 25, 3) := by decide +kernel
theorem dX8_addBlock_4 : decode cX8_addBlock 4 = .ok (.aload_n 0, 1) := by decide +kernel
theorem dX8_addBlock_5 : decode cX8_addBlock 5 = .ok (.getfield 12, 3) := by decide +kernel
theorem dX8_addBlock_8 : decode cX8_addBlock 8 = .ok (.invokevirtual 68, 3) := by decide +kernel
theorem dX8_addBlock_11 : decode cX8_addBlock 11 = .ok (.aload_n 0, 1) := by decide +kernel
theorem dX8_addBlock_12 : decode cX8_addBlock 12 = .ok (.aload_n 0, 1) := by decide +kernel
theorem dX8_addBlock_13 : decode cX8_addBlock 13 = .ok (.getfield 12, 3) := by decide +kernel
theorem dX8_addBlock_16 : decode cX8_addBlock 16 = .ok (.iload_n 1, 1) := by decide +kernel
theorem dX8_addBlock_17 : decode cX8_addBlock 17 = .ok (.iconst 0, 1) := by decide +kernel
theorem dX8_addBlock_18 : decode cX8_addBlock 18 = .ok (.invokevirtual 72, 3) := by decide +kernel
theorem dX8_addBlock_21 : decode cX8_addBlock 21 = .ok (.invokevirtual 76, 3) := by decide +kernel
theorem dX8_addBlock_24 : decode cX8_addBlock 24 = .ok (.ireturn, 1) := by decide +kernel
theorem dX8_addCushion_0 : decode cX8_addCushion 0 = .ok (.aload_n 0, 1) := by decide +kernel
theorem dX8_addCushion_1 : decode cX8_addCushion 1 = .ok (.getfield 25, 3) := by decide +kernel
theorem dX8_addCushion_4 : decode cX8_addCushion 4 = .ok (.aload_n 0, 1) := by decide +kernel
theorem dX8_addCushion_5 : decode cX8_addCushion 5 = .ok (.getfield 12, 3) := by decide +kernel
theorem dX8_addCushion_8 : decode cX8_addCushion 8 = .ok (.invokevirtual 68, 3) := by decide +kernel
theorem dX8_addCushion_11 : decode cX8_addCushion 11 = .ok (.aload_n 0, 1) := by decide +kernel
theorem dX8_addCushion_12 : decode cX8_addCushion 12 = .ok (.aload_n 0, 1) := by decide +kernel
theorem dX8_addCushion_13 : decode cX8_addCushion 13 = .ok (.getfield 12, 3) := by decide +kernel
theorem dX8_addCushion_16 : decode cX8_addCushion 16 = .ok (.iload_n 1, 1) := by decide +kernel
theorem dX8_addCushion_17 : decode cX8_addCushion 17 = .ok (.iconst 1, 1) := by decide +kernel
theorem dX8_addCushion_18 : decode cX8_addCushion 18 = .ok (.invokevirtual 72, 3) := by decide +kernel
theorem dX8_addCushion_21 : decode cX8_addCushion 21 = .ok (.invokevirtual 76, 3) := by decide +kernel
theorem dX8_addCushion_24 : decode cX8_addCushion 24 = .ok (.ireturn, 1) := by decide +kernel
theorem dX8_link_0 : decode cX8_link 0 = .ok (.aload_n 0, 1) := by decide +kernel
theorem dX8_link_1 : decode cX8_link 1 = .ok (.getfield 25, 3) := by decide +kernel
theorem dX8_link_4 : decode cX8_link 4 = .ok (.aload_n 0, 1) := by decide +kernel
theorem dX8_link_5 : decode cX8_link 5 = .ok (.getfield 12, 3) := by decide +kernel
theorem dX8_link_8 : decode cX8_link 8 = .ok (.invokevirtual 68, 3) := by decide +kernel
theorem dX8_link_11 : decode cX8_link 11 = .ok (.aload_n 0, 1) := by decide +kernel
theorem dX8_link_12 : decode cX8_link 12 = .ok (.aload_n 0, 1) := by decide +kernel
theorem dX8_link_13 : decode cX8_link 13 = .ok (.getfield 12, 3) := by decide +kernel
theorem dX8_link_16 : decode cX8_link 16 = .ok (.iload_n 1, 1) := by decide +kernel
theorem dX8_link_17 : decode cX8_link 17 = .ok (.iload_n 2, 1) := by decide +kernel
theorem dX8_link_18 : decode cX8_link 18 = .ok (.invokevirtual 80, 3) := by decide +kernel
theorem dX8_link_21 : decode cX8_link 21 = .ok (.invokevirtual 76, 3) := by decide +kernel
theorem dX8_link_24 : decode cX8_link 24 = .ok (.ireturn, 1) := by decide +kernel
theorem dX8_unlink_0 : decode cX8_unlink 0 = .ok (.aload_n 0, 1) := by decide +kernel
theorem dX8_unlink_1 : decode cX8_unlink 1 = .ok (.getfield 25, 3) := by decide +kernel
theorem dX8_unlink_4 : decode cX8_unlink 4 = .ok (.aload_n 0, 1) := by decide +kernel
theorem dX8_unlink_5 : decode cX8_unlink 5 = .ok (.getfield 12, 3) := by decide +kernel
theorem dX8_unlink_8 : decode cX8_unlink 8 = .ok (.invokevirtual 68, 3) := by decide +kernel
theorem dX8_unlink_11 : decode cX8_unlink 11 = .ok (.aload_n 0, 1) := by decide +kernel
theorem dX8_unlink_12 : decode cX8_unlink 12 = .ok (.aload_n 0, 1) := by decide +kernel
theorem dX8_unlink_13 : decode cX8_unlink 13 = .ok (.getfield 12, 3) := by decide +kernel
