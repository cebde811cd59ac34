theorem dX4_letsIn_22 : decode cX4_letsIn 22 = .ok (.if_icmp .ne 7, 3) := by decide +kernel
theorem dX4_letsIn_25 : decode cX4_letsIn 25 = .ok (.iconst 1, 1) := by decide +kernel
theorem dX4_letsIn_26 : decode cX4_letsIn 26 = .ok (.goto 4, 3) := by decide +kernel
theorem dX4_letsIn_29 : decode cX4_letsIn 29 = .ok (.iconst 0, 1) := by decide +kernel
theorem dX4_letsIn_30 : decode cX4_letsIn 30 = .ok (.ireturn, 1) := by decide +kernel
theorem dX4_moveTrain_0 : decode cX4_moveTrain 0 = .ok (.aload_n 0, 1) := by decide +kernel
theorem dX4_moveTrain_1 : decode cX4_moveTrain 1 = .ok (.getfield 40, 3) := by decide +kernel
theorem dX4_moveTrain_4 : decode cX4_moveTrain 4 = .ok (.iload_n 1, 1) := by decide +kernel
theorem dX4_moveTrain_5 : decode cX4_moveTrain 5 = .ok (.iload_n 2, 1) := by decide +kernel
theorem dX4_moveTrain_6 : decode cX4_moveTrain 6 = .ok (.iastore, 1) := by decide +kernel
theorem dX4_moveTrain_7 : decode cX4_moveTrain 7 = .ok (.aload_n 0, 1) := by decide +kernel
theorem dX4_moveTrain_8 : decode cX4_moveTrain 8 = .ok (.getfield 52, 3) := by decide +kernel
theorem dX4_moveTrain_11 : decode cX4_moveTrain 11 = .ok (.iload_n 1, 1) := by decide +kernel
theorem dX4_moveTrain_12 : decode cX4_moveTrain 12 = .ok (.iconst (-1), 1) := by decide +kernel
theorem dX4_moveTrain_13 : decode cX4_moveTrain 13 = .ok (.iastore, 1) := by decide +kernel
theorem dX4_moveTrain_14 : decode cX4_moveTrain 14 = .ok (.aload_n 0, 1) := by decide +kernel
theorem dX4_moveTrain_15 : decode cX4_moveTrain 15 = .ok (.getfield 46, 3) := by decide +kernel
theorem dX4_moveTrain_18 : decode cX4_moveTrain 18 = .ok (.iload_n 1, 1) := by decide +kernel
theorem dX4_moveTrain_19 : decode cX4_moveTrain 19 = .ok (.aload_n 0, 1) := by decide +kernel
theorem dX4_moveTrain_20 : decode cX4_moveTrain 20 = .ok (.getfield 33, 3) := by decide +kernel
theorem dX4_moveTrain_23 : decode cX4_moveTrain 23 = .ok (.iload_n 2, 1) := by decide +kernel
theorem dX4_moveTrain_24 : decode cX4_moveTrain 24 = .ok (.iaload, 1) := by decide +kernel
theorem dX4_moveTrain_25 : decode cX4_moveTrain 25 = .ok (.iastore, 1) := by decide +kernel
theorem dX4_moveTrain_26 : decode cX4_moveTrain 26 = .ok (.aload_n 0, 1) := by decide +kernel
theorem dX4_moveTrain_27 : decode cX4_moveTrain 27 = .ok (.getfield 27, 3) := by decide +kernel
theorem dX4_moveTrain_30 : decode cX4_moveTrain 30 = .ok (.iload_n 2, 1) := by decide +kernel
theorem dX4_moveTrain_31 : decode cX4_moveTrain 31 = .ok (.invokestatic 64, 3) := by decide +kernel
theorem dX4_moveTrain_34 : decode cX4_moveTrain 34 = .ok (.ifCond .eq 29, 3) := by decide +kernel
theorem dX4_moveTrain_37 : decode cX4_moveTrain 37 = .ok (.aload_n 0, 1) := by decide +kernel
theorem dX4_moveTrain_38 : decode cX4_moveTrain 38 = .ok (.dup, 1) := by decide +kernel
theorem dX4_moveTrain_39 : decode cX4_moveTrain 39 = .ok (.getfield 30, 3) := by decide +kernel
theorem dX4_moveTrain_42 : decode cX4_moveTrain 42 = .ok (.iconst 1, 1) := by decide +kernel
theorem dX4_moveTrain_43 : decode cX4_moveTrain 43 = .ok (.iload_n 1, 1) := by decide +kernel
theorem dX4_moveTrain_44 : decode cX4_moveTrain 44 = .ok (.ishl, 1) := by decide +kernel
theorem dX4_moveTrain_45 : decode cX4_moveTrain 45 = .ok (.ior, 1) := by decide +kernel
theorem dX4_moveTrain_46 : decode cX4_moveTrain 46 = .ok (.putfield 30, 3) := by decide +kernel
theorem dX4_moveTrain_49 : decode cX4_moveTrain 49 = .ok (.aload_n 0, 1) := by decide +kernel
theorem dX4_moveTrain_50 : decode cX4_moveTrain 50 = .ok (.dup, 1) := by decide +kernel
theorem dX4_moveTrain_51 : decode cX4_moveTrain 51 = .ok (.getfield 27, 3) := by decide +kernel
theorem dX4_moveTrain_54 : decode cX4_moveTrain 54 = .ok (.iconst 1, 1) := by decide +kernel
theorem dX4_moveTrain_55 : decode cX4_moveTrain 55 = .ok (.iload_n 2, 1) := by decide +kernel
theorem dX4_moveTrain_56 : decode cX4_moveTrain 56 = .ok (.ishl, 1) := by decide +kernel
theorem dX4_moveTrain_57 : decode cX4_moveTrain 57 = .ok (.iconst (-1), 1) := by decide +kernel
theorem dX4_moveTrain_58 : decode cX4_moveTrain 58 = .ok (.ixor, 1) := by decide +kernel
theorem dX4_moveTrain_59 : decode cX4_moveTrain 59 = .ok (.iand, 1) := by decide +kernel
theorem dX4_moveTrain_60 : decode cX4_moveTrain 60 = .ok (.putfield 27, 3) := by decide +kernel
theorem dX4_moveTrain_63 : decode cX4_moveTrain 63 = .ok (.aload_n 0, 1) := by decide +kernel
theorem dX4_moveTrain_64 : decode cX4_moveTrain 64 = .ok (.getfield 49, 3) := by decide +kernel
theorem dX4_moveTrain_67 : decode cX4_moveTrain 67 = .ok (.iload_n 1, 1) := by decide +kernel
theorem dX4_moveTrain_68 : decode cX4_moveTrain 68 = .ok (.iaload, 1) := by decide +kernel
theorem dX4_moveTrain_69 : decode cX4_moveTrain 69 = .ok (.iload_n 2, 1) := by decide +kernel
theorem dX4_moveTrain_70 : decode cX4_moveTrain 70 = .ok (.if_icmp .ne 20, 3) := by decide +kernel
theorem dX4_moveTrain_73 : decode cX4_moveTrain 73 = .ok (.aload_n 0, 1) := by decide +kernel
theorem dX4_moveTrain_74 : decode cX4_moveTrain 74 = .ok (.getfield 49, 3) := by decide +kernel
theorem dX4_moveTrain_77 : decode cX4_moveTrain 77 = .ok (.iload_n 1, 1) := by decide +kernel
theorem dX4_moveTrain_78 : decode cX4_moveTrain 78 = .ok (.iconst (-1), 1) := by decide +kernel
theorem dX4_moveTrain_79 : decode cX4_moveTrain 79 = .ok (.iastore, 1) := by decide +kernel
theorem dX4_moveTrain_80 : decode cX4_moveTrain 80 = .ok (.aload_n 0, 1) := by decide +kernel
theorem dX4_moveTrain_81 : decode cX4_moveTrain 81 = .ok (.dup, 1) := by decide +kernel
theorem dX4_moveTrain_82 : decode cX4_moveTrain 82 = .ok (.getfield 21, 3) := by decide +kernel
theorem dX4_moveTrain_85 : decode cX4_moveTrain 85 = .ok (.iconst 1, 1) := by decide +kernel
theorem dX4_moveTrain_86 : decode cX4_moveTrain 86 = .ok (.iadd, 1) := by decide +kernel
theorem dX4_moveTrain_87 : decode cX4_moveTrain 87 = .ok (.putfield 21, 3) := by decide +kernel
theorem dX4_moveTrain_90 : decode cX4_moveTrain 90 = .ok (.return_, 1) := by decide +kernel
theorem dX4_countLinks_0 : decode cX4_countLinks 0 = .ok (.iconst 0, 1) := by decide +kernel
theorem dX4_countLinks_1 : decode cX4_countLinks 1 = .ok (.istore_n 1, 1) := by decide +kernel
theorem dX4_countLinks_2 : decode cX4_countLinks 2 = .ok (.iconst 0, 1) := by decide +kernel
theorem dX4_countLinks_3 : decode cX4_countLinks 3 = .ok (.istore_n 2, 1) := by decide +kernel
theorem dX4_countLinks_4 : decode cX4_countLinks 4 = .ok (.iload_n 2, 1) := by decide +kernel
theorem dX4_countLinks_5 : decode cX4_countLinks 5 = .ok (.aload_n 0, 1) := by decide +kernel
theorem dX4_countLinks_6 : decode cX4_countLinks 6 = .ok (.getfield 9, 3) := by decide +kernel
theorem dX4_countLinks_9 : decode cX4_countLinks 9 = .ok (.if_icmp .ge 21, 3) := by decide +kernel
theorem dX4_countLinks_12 : decode cX4_countLinks 12 = .ok (.iload_n 1, 1) := by decide +kernel
theorem dX4_countLinks_13 : decode cX4_countLinks 13 = .ok (.aload_n 0, 1) := by decide +kernel
theorem dX4_countLinks_14 : decode cX4_countLinks 14 = .ok (.getfield 37, 3) := by decide +kernel
theorem dX4_countLinks_17 : decode cX4_countLinks 17 = .ok (.iload_n 2, 1) := by decide +kernel
theorem dX4_countLinks_18 : decode cX4_countLinks 18 = .ok (.iaload, 1) := by decide +kernel
theorem dX4_countLinks_19 : decode cX4_countLinks 19 = .ok (.invokestatic 86, 3) := by decide +kernel
theorem dX4_countLinks_22 : decode cX4_countLinks 22 = .ok (.iadd, 1) := by decide +kernel
theorem dX4_countLinks_23 : decode cX4_countLinks 23 = .ok (.istore_n 1, 1) := by decide +kernel
theorem dX4_countLinks_24 : decode cX4_countLinks 24 = .ok (.iinc 2 1, 3) := by decide +kernel
theorem dX4_countLinks_27 : decode cX4_countLinks 27 = .ok (.goto (-23), 3) := by decide +kernel
theorem dX4_countLinks_30 : decode cX4_countLinks 30 = .ok (.iload_n 1, 1) := by decide +kernel
theorem dX4_countLinks_31 : decode cX4_countLinks 31 = .ok (.iconst 2, 1) := by decide +kernel
theorem dX4_countLinks_32 : decode cX4_countLinks 32 = .ok (.idiv, 1) := by decide +kernel
theorem dX4_countLinks_33 : decode cX4_countLinks 33 = .ok (.ireturn, 1) := by decide +kernel
theorem dX4_countHolds_0 : decode cX4_countHolds 0 = .ok (.iconst 0, 1) := by decide +kernel
theorem dX4_countHolds_1 : decode cX4_countHolds 1 = .ok (.istore_n 1, 1) := by decide +kernel
theorem dX4_countHolds_2 : decode cX4_countHolds 2 = .ok (.iconst 0, 1) := by decide +kernel
theorem dX4_countHolds_3 : decode cX4_countHolds 3 = .ok (.istore_n 2, 1) := by decide +kernel
theorem dX4_countHolds_4 : decode cX4_countHolds 4 = .ok (.iload_n 2, 1) := by decide +kernel
theorem dX4_countHolds_5 : decode cX4_countHolds 5 = .ok (.aload_n 0, 1) := by decide +kernel
theorem dX4_countHolds_6 : decode cX4_countHolds 6 = .ok (.getfield 15, 3) := by decide +kernel
theorem dX4_countHolds_9 : decode cX4_countHolds 9 = .ok (.if_icmp .ge 22, 3) := by decide +kernel
theorem dX4_countHolds_12 : decode cX4_countHolds 12 = .ok (.aload_n 0, 1) := by decide +kernel
theorem dX4_countHolds_13 : decode cX4_countHolds 13 = .ok (.getfield 52, 3) := by decide +kernel
theorem dX4_countHolds_16 : decode cX4_countHolds 16 = .ok (.iload_n 2, 1) := by decide +kernel
theorem dX4_countHolds_17 : decode cX4_countHolds 17 = .ok (.iaload, 1) := by decide +kernel
theorem dX4_countHolds_18 : decode cX4_countHolds 18 = .ok (.iconst (-1), 1) := by decide +kernel
theorem dX4_countHolds_19 : decode cX4_countHolds 19 = .ok (.if_icmp .eq 6, 3) := by decide +kernel
theorem dX4_countHolds_22 : decode cX4_countHolds 22 = .ok (.iinc 1 1, 3) := by decide +kernel
theorem dX4_countHolds_25 : decode cX4_countHolds 25 = .ok (.iinc 2 1, 3) := by decide +kernel
theorem dX4_countHolds_28 : decode cX4_countHolds 28 = .ok (.goto (-24), 3) := by decide +kernel
theorem dX4_countHolds_31 : decode cX4_countHolds 31 = .ok (.iload_n 1, 1) := by decide +kernel
theorem dX4_countHolds_32 : decode cX4_countHolds 32 = .ok (.ireturn, 1) := by decide +kernel
theorem dX5_init_0 : decode cX5_init 0 = .ok (.aload_n 0, 1) := by decide +kernel
theorem dX5_init_1 : decode cX5_init 1 = .ok (.invokespecial 3, 3) := by decide +kernel
theorem dX5_init_4 : decode cX5_init 4 = .ok (.aload_n 0, 1) := by decide +kernel
theorem dX5_init_5 : decode cX5_init 5 = .ok (.bipush 14, 2) := by decide +kernel
theorem dX5_init_7 : decode cX5_init 7 = .ok (.newarray .char, 2) := by decide +kernel
theorem dX5_init_9 : decode cX5_init 9 = .ok (.putfield 9, 3) := by decide +kernel
theorem dX5_init_12 : decode cX5_init 12 = .ok (.aload_n 0, 1) := by decide +kernel
theorem dX5_init_13 : decode cX5_init 13 = .ok (.iconst 0, 1) := by decide +kernel
theorem dX5_init_14 : decode cX5_init 14 = .ok (.putfield 15, 3) := by decide +kernel
theorem dX5_init_17 : decode cX5_init 17 = .ok (.return_, 1) := by decide +kernel
theorem dX6_init_0 : decode cX6_init 0 = .ok (.aload_n 0, 1) := by decide +kernel
theorem dX6_init_1 : decode cX6_init 1 = .ok (.invokespecial 3, 3) := by decide +kernel
theorem dX6_init_4 : decode cX6_init 4 = .ok (.aload_n 0, 1) := by decide +kernel
theorem dX6_init_5 : decode cX6_init 5 = .ok (.bipush 14, 2) := by decide +kernel
theorem dX6_init_7 : decode cX6_init 7 = .ok (.newarray .int, 2) := by decide +kernel
theorem dX6_init_9 : decode cX6_init 9 = .ok (.putfield 9, 3) := by decide +kernel
theorem dX6_init_12 : decode cX6_init 12 = .ok (.aload_n 0, 1) := by decide +kernel
theorem dX6_init_13 : decode cX6_init 13 = .ok (.bipush 14, 2) := by decide +kernel
theorem dX6_init_15 : decode cX6_init 15 = .ok (.newarray .int, 2) := by decide +kernel
theorem dX6_init_17 : decode cX6_init 17 = .ok (.putfield 15, 3) := by decide +kernel
theorem dX6_init_20 : decode cX6_init 20 = .ok (.aload_n 0, 1) := by decide +kernel
theorem dX6_init_21 : decode cX6_init 21 = .ok (.bipush 14, 2) := by decide +kernel
theorem dX6_init_23 : decode cX6_init 23 = .ok (.newarray .int, 2) := by decide +kernel
theorem dX6_init_25 : decode cX6_init 25 = .ok (.putfield 18, 3) := by decide +kernel
theorem dX6_init_28 : decode cX6_init 28 = .ok (.return_, 1) := by decide +kernel
theorem dX6_measureByNearest_0 : decode cX6_measureByNearest 0 = .ok (.iconst 0, 1) := by decide +kernel
theorem dX6_measureByNearest_1 : decode cX6_measureByNearest 1 = .ok (.istore_n 3, 1) := by decide +kernel
theorem dX6_measureByNearest_2 : decode cX6_measureByNearest 2 = .ok (.iload_n 3, 1) := by decide +kernel
theorem dX6_measureByNearest_3 : decode cX6_measureByNearest 3 = .ok (.aload_n 1, 1) := by decide +kernel
theorem dX6_measureByNearest_4 : decode cX6_measureByNearest 4 = .ok (.getfield 21, 3) := by decide +kernel
theorem dX6_measureByNearest_7 : decode cX6_measureByNearest 7 = .ok (.if_icmp .ge 27, 3) := by decide +kernel
theorem dX6_measureByNearest_10 : decode cX6_measureByNearest 10 = .ok (.aload_n 0, 1) := by decide +kernel
theorem dX6_measureByNearest_11 : decode cX6_measureByNearest 11 = .ok (.getfield 9, 3) := by decide +kernel
theorem dX6_measureByNearest_14 : decode cX6_measureByNearest 14 = .ok (.iload_n 3, 1) := by decide +kernel
theorem dX6_measureByNearest_15 : decode cX6_measureByNearest 15 = .ok (.iload_n 3, 1) := by decide +kernel
theorem dX6_measureByNearest_16 : decode cX6_measureByNearest 16 = .ok (.iload_n 2, 1) := by decide +kernel
theorem dX6_measureByNearest_17 : decode cX6_measureByNearest 17 = .ok (.if_icmp .ne 7, 3) := by decide +kernel
theorem dX6_measureByNearest_20 : decode cX6_measureByNearest 20 = .ok (.iconst 0, 1) := by decide +kernel
theorem dX6_measureByNearest_21 : decode cX6_measureByNearest 21 = .ok (.goto 6, 3) := by decide +kernel
theorem dX6_measureByNearest_24 : decode cX6_measureByNearest 24 = .ok (.sipush 1000, 3) := by decide +kernel
theorem dX6_measureByNearest_27 : decode cX6_measureByNearest 27 = .ok (.iastore, 1) := by decide +kernel
theorem dX6_measureByNearest_28 : decode cX6_measureByNearest 28 = .ok (.iinc 3 1, 3) := by decide +kernel
theorem dX6_measureByNearest_31 : decode cX6_measureByNearest 31 = .ok (.goto (-29), 3) := by decide +kernel
theorem dX6_measureByNearest_34 : decode cX6_measureByNearest 34 = .ok (.iconst 0, 1) := by decide +kernel
theorem dX6_measureByNearest_35 : decode cX6_measureByNearest 35 = .ok (.istore_n 3, 1) := by decide +kernel
theorem dX6_measureByNearest_36 : decode cX6_measureByNearest 36 = .ok (.iconst 0, 1) := by decide +kernel
theorem dX6_measureByNearest_37 : decode cX6_measureByNearest 37 = .ok (.istore 4, 2) := by decide +kernel
theorem dX6_measureByNearest_39 : decode cX6_measureByNearest 39 = .ok (.iload 4, 2) := by decide +kernel
theorem dX6_measureByNearest_41 : decode cX6_measureByNearest 41 = .ok (.aload_n 1, 1) := by decide +kernel
theorem dX6_measureByNearest_42 : decode cX6_measureByNearest 42 = .ok (.getfield 21, 3) := by decide +kernel
theorem dX6_measureByNearest_45 : decode cX6_measureByNearest 45 = .ok (.if_icmp .ge 105, 3) := by decide +kernel
theorem dX6_measureByNearest_48 : decode cX6_measureByNearest 48 = .ok (.aload_n 0, 1) := by decide +kernel
theorem dX6_measureByNearest_49 : decode cX6_measureByNearest 49 = .ok (.aload_n 1, 1) := by decide +kernel
theorem dX6_measureByNearest_50 : decode cX6_measureByNearest 50 = .ok (.getfield 21, 3) := by decide +kernel
theorem dX6_measureByNearest_53 : decode cX6_measureByNearest 53 = .ok (.iload_n 3, 1) := by decide +kernel
theorem dX6_measureByNearest_54 : decode cX6_measureByNearest 54 = .ok (.invokevirtual 27, 3) := by decide +kernel
theorem dX6_measureByNearest_57 : decode cX6_measureByNearest 57 = .ok (.istore 5, 2) := by decide +kernel
theorem dX6_measureByNearest_59 : decode cX6_measureByNearest 59 = .ok (.iload 5, 2) := by decide +kernel
theorem dX6_measureByNearest_61 : decode cX6_measureByNearest 61 = .ok (.iconst (-1), 1) := by decide +kernel
theorem dX6_measureByNearest_62 : decode cX6_measureByNearest 62 = .ok (.if_icmp .ne 4, 3) := by decide +kernel
theorem dX6_measureByNearest_65 : decode cX6_measureByNearest 65 = .ok (.return_, 1) := by decide +kernel
theorem dX6_measureByNearest_66 : decode cX6_measureByNearest 66 = .ok (.iload_n 3, 1) := by decide +kernel
theorem dX6_measureByNearest_67 : decode cX6_measureByNearest 67 = .ok (.iconst 1, 1) := by decide +kernel
theorem dX6_measureByNearest_68 : decode cX6_measureByNearest 68 = .ok (.iload 5, 2) := by decide +kernel
theorem dX6_measureByNearest_70 : decode cX6_measureByNearest 70 = .ok (.ishl, 1) := by decide +kernel
theorem dX6_measureByNearest_71 : decode cX6_measureByNearest 71 = .ok (.ior, 1) := by decide +kernel
theorem dX6_measureByNearest_72 : decode cX6_measureByNearest 72 = .ok (.istore_n 3, 1) := by decide +kernel
theorem dX6_measureByNearest_73 : decode cX6_measureByNearest 73 = .ok (.iconst 0, 1) := by decide +kernel
theorem dX6_measureByNearest_74 : decode cX6_measureByNearest 74 = .ok (.istore 6, 2) := by decide +kernel
theorem dX6_measureByNearest_76 : decode cX6_measureByNearest 76 = .ok (.iload 6, 2) := by decide +kernel
theorem dX6_measureByNearest_78 : decode cX6_measureByNearest 78 = .ok (.aload_n 1, 1) := by decide +kernel
theorem dX6_measureByNearest_79 : decode cX6_measureByNearest 79 = .ok (.getfield 21, 3) := by decide +kernel
theorem dX6_measureByNearest_82 : decode cX6_measureByNearest 82 = .ok (.if_icmp .ge 62, 3) := by decide +kernel
theorem dX6_measureByNearest_85 : decode cX6_measureByNearest 85 = .ok (.aload_n 0, 1) := by decide +kernel
theorem dX6_measureByNearest_86 : decode cX6_measureByNearest 86 = .ok (.getfield 9, 3) := by decide +kernel
theorem dX6_measureByNearest_89 : decode cX6_measureByNearest 89 = .ok (.iload 5, 2) := by decide +kernel
theorem dX6_measureByNearest_91 : decode cX6_measureByNearest 91 = .ok (.iaload, 1) := by decide +kernel
theorem dX6_measureByNearest_92 : decode cX6_measureByNearest 92 = .ok (.aload_n 1, 1) := by decide +kernel
theorem dX6_measureByNearest_93 : decode cX6_measureByNearest 93 = .ok (.getfield 31, 3) := by decide +kernel
theorem dX6_measureByNearest_96 : decode cX6_measureByNearest 96 = .ok (.iload 6, 2) := by decide +kernel
theorem dX6_measureByNearest_98 : decode cX6_measureByNearest 98 = .ok (.iaload, 1) := by decide +kernel
theorem dX6_measureByNearest_99 : decode cX6_measureByNearest 99 = .ok (.iadd, 1) := by decide +kernel
theorem dX6_measureByNearest_100 : decode cX6_measureByNearest 100 = .ok (.istore 7, 2) := by decide +kernel
theorem dX6_measureByNearest_102 : decode cX6_measureByNearest 102 = .ok (.aload_n 1, 1) := by decide +kernel
theorem dX6_measureByNearest_103 : decode cX6_measureByNearest 103 = .ok (.getfield 34, 3) := by decide +kernel
theorem dX6_measureByNearest_106 : decode cX6_measureByNearest 106 = .ok (.iload 5, 2) := by decide +kernel
theorem dX6_measureByNearest_108 : decode cX6_measureByNearest 108 = .ok (.iaload, 1) := by decide +kernel
theorem dX6_measureByNearest_109 : decode cX6_measureByNearest 109 = .ok (.iload 6, 2) := by decide +kernel
theorem dX6_measureByNearest_111 : decode cX6_measureByNearest 111 = .ok (.invokestatic 37, 3) := by decide +kernel
theorem dX6_measureByNearest_114 : decode cX6_measureByNearest 114 = .ok (.ifCond .eq 24, 3) := by decide +kernel
theorem dX6_measureByNearest_117 : decode cX6_measureByNearest 117 = .ok (.iload 7, 2) := by decide +kernel
theorem dX6_measureByNearest_119 : decode cX6_measureByNearest 119 = .ok (.aload_n 0, 1) := by decide +kernel
theorem dX6_measureByNearest_120 : decode cX6_measureByNearest 120 = .ok (.getfield 9, 3) := by decide +kernel
theorem dX6_measureByNearest_123 : decode cX6_measureByNearest 123 = .ok (.iload 6, 2) := by decide +kernel
theorem dX6_measureByNearest_125 : decode cX6_measureByNearest 125 = .ok (.iaload, 1) := by decide +kernel
theorem dX6_measureByNearest_126 : decode cX6_measureByNearest 126 = .ok (.if_icmp .ge 12, 3) := by decide +kernel
theorem dX6_measureByNearest_129 : decode cX6_measureByNearest 129 = .ok (.aload_n 0, 1) := by decide +kernel
theorem dX6_measureByNearest_130 : decode cX6_measureByNearest 130 = .ok (.getfield 9, 3) := by decide +kernel
theorem dX6_measureByNearest_133 : decode cX6_measureByNearest 133 = .ok (.iload 6, 2) := by decide +kernel
theorem dX6_measureByNearest_135 : decode cX6_measureByNearest 135 = .ok (.iload 7, 2) := by decide +kernel
theorem dX6_measureByNearest_137 : decode cX6_measureByNearest 137 = .ok (.iastore, 1) := by decide +kernel
theorem dX6_measureByNearest_138 : decode cX6_measureByNearest 138 = .ok (.iinc 6 1, 3) := by decide +kernel
theorem dX6_measureByNearest_141 : decode cX6_measureByNearest 141 = .ok (.goto (-65), 3) := by decide +kernel
theorem dX6_measureByNearest_144 : decode cX6_measureByNearest 144 = .ok (.iinc 4 1, 3) := by decide +kernel
theorem dX6_measureByNearest_147 : decode cX6_measureByNearest 147 = .ok (.goto (-108), 3) := by decide +kernel
theorem dX6_measureByNearest_150 : decode cX6_measureByNearest 150 = .ok (.return_, 1) := by decide +kernel
theorem dX6_nearestOpen_0 : decode cX6_nearestOpen 0 = .ok (.iconst (-1), 1) := by decide +kernel
theorem dX6_nearestOpen_1 : decode cX6_nearestOpen 1 = .ok (.istore_n 3, 1) := by decide +kernel
theorem dX6_nearestOpen_2 : decode cX6_nearestOpen 2 = .ok (.sipush 1000, 3) := by decide +kernel
theorem dX6_nearestOpen_5 : decode cX6_nearestOpen 5 = .ok (.istore 4, 2) := by decide +kernel
theorem dX6_nearestOpen_7 : decode cX6_nearestOpen 7 = .ok (.iconst 0, 1) := by decide +kernel
theorem dX6_nearestOpen_8 : decode cX6_nearestOpen 8 = .ok (.istore 5, 2) := by decide +kernel
theorem dX6_nearestOpen_10 : decode cX6_nearestOpen 10 = .ok (.iload 5, 2) := by decide +kernel
theorem dX6_nearestOpen_12 : decode cX6_nearestOpen 12 = .ok (.iload_n 1, 1) := by decide +kernel
theorem dX6_nearestOpen_13 : decode cX6_nearestOpen 13 = .ok (.if_icmp .ge 42, 3) := by decide +kernel
theorem dX6_nearestOpen_16 : decode cX6_nearestOpen 16 = .ok (.iload_n 2, 1) := by decide +kernel
theorem dX6_nearestOpen_17 : decode cX6_nearestOpen 17 = .ok (.iload 5, 2) := by decide +kernel
theorem dX6_nearestOpen_19 : decode cX6_nearestOpen 19 = .ok (.ishr, 1) := by decide +kernel
theorem dX6_nearestOpen_20 : decode cX6_nearestOpen 20 = .ok (.iconst 1, 1) := by decide +kernel
theorem dX6_nearestOpen_21 : decode cX6_nearestOpen 21 = .ok (.iand, 1) := by decide +kernel
theorem dX6_nearestOpen_22 : decode cX6_nearestOpen 22 = .ok (.ifCond .ne 27, 3) := by decide +kernel
theorem dX6_nearestOpen_25 : decode cX6_nearestOpen 25 = .ok (.aload_n 0, 1) := by decide +kernel
theorem dX6_nearestOpen_26 : decode cX6_nearestOpen 26 = .ok (.getfield 9, 3) := by decide +kernel
theorem dX6_nearestOpen_29 : decode cX6_nearestOpen 29 = .ok (.iload 5, 2) := by decide +kernel
theorem dX6_nearestOpen_31 : decode cX6_nearestOpen 31 = .ok (.iaload, 1) := by decide +kernel
theorem dX6_nearestOpen_32 : decode cX6_nearestOpen 32 = .ok (.iload 4, 2) := by decide +kernel
theorem dX6_nearestOpen_34 : decode cX6_nearestOpen 34 = .ok (.if_icmp .ge 15, 3) := by decide +kernel
theorem dX6_nearestOpen_37 : decode cX6_nearestOpen 37 = .ok (.iload 5, 2) := by decide +kernel
theorem dX6_nearestOpen_39 : decode cX6_nearestOpen 39 = .ok (.istore_n 3, 1) := by decide +kernel
theorem dX6_nearestOpen_40 : decode cX6_nearestOpen 40 = .ok (.aload_n 0, 1) := by decide +kernel
theorem dX6_nearestOpen_41 : decode cX6_nearestOpen 41 = .ok (.getfield 9, 3) := by decide +kernel
theorem dX6_nearestOpen_44 : decode cX6_nearestOpen 44 = .ok (.iload 5, 2) := by decide +kernel
theorem dX6_nearestOpen_46 : decode cX6_nearestOpen 46 = .ok (.iaload, 1) := by decide +kernel
theorem dX6_nearestOpen_47 : decode cX6_nearestOpen 47 = .ok (.istore 4, 2) := by decide +kernel
theorem dX6_nearestOpen_49 : decode cX6_nearestOpen 49 = .ok (.iinc 5 1, 3) := by decide +kernel
theorem dX6_nearestOpen_52 : decode cX6_nearestOpen 52 = .ok (.goto (-42), 3) := by decide +kernel
theorem dX6_nearestOpen_55 : decode cX6_nearestOpen 55 = .ok (.iload_n 3, 1) := by decide +kernel
theorem dX6_nearestOpen_56 : decode cX6_nearestOpen 56 = .ok (.ireturn, 1) := by decide +kernel
theorem dX6_measureByRounds_0 : decode cX6_measureByRounds 0 = .ok (.iconst 0, 1) := by decide +kernel
theorem dX6_measureByRounds_1 : decode cX6_measureByRounds 1 = .ok (.istore_n 3, 1) := by decide +kernel
theorem dX6_measureByRounds_2 : decode cX6_measureByRounds 2 = .ok (.iload_n 3, 1) := by decide +kernel
theorem dX6_measureByRounds_3 : decode cX6_measureByRounds 3 = .ok (.aload_n 1, 1) := by decide +kernel
theorem dX6_measureByRounds_4 : decode cX6_measureByRounds 4 = .ok (.getfield 21, 3) := by decide +kernel
theorem dX6_measureByRounds_7 : decode cX6_measureByRounds 7 = .ok (.if_icmp .ge 27, 3) := by decide +kernel
theorem dX6_measureByRounds_10 : decode cX6_measureByRounds 10 = .ok (.aload_n 0, 1) := by decide +kernel
theorem dX6_measureByRounds_11 : decode cX6_measureByRounds 11 = .ok (.getfield 15, 3) := by decide +kernel
theorem dX6_measureByRounds_14 : decode cX6_measureByRounds 14 = .ok (.iload_n 3, 1) := by decide +kernel
theorem dX6_measureByRounds_15 : decode cX6_measureByRounds 15 = .ok (.iload_n 3, 1) := by decide +kernel
theorem dX6_measureByRounds_16 : decode cX6_measureByRounds 16 = .ok (.iload_n 2, 1) := by decide +kernel
theorem dX6_measureByRounds_17 : decode cX6_measureByRounds 17 = .ok (.if_icmp .ne 7, 3) := by decide +kernel
theorem dX6_measureByRounds_20 : decode cX6_measureByRounds 20 = .ok (.iconst 0, 1) := by decide +kernel
theorem dX6_measureByRounds_21 : decode cX6_measureByRounds 21 = .ok (.goto 6, 3) := by decide +kernel
theorem dX6_measureByRounds_24 : decode cX6_measureByRounds 24 = .ok (.sipush 1000, 3) := by decide +kernel
theorem dX6_measureByRounds_27 : decode cX6_measureByRounds 27 = .ok (.iastore, 1) := by decide +kernel
theorem dX6_measureByRounds_28 : decode cX6_measureByRounds 28 = .ok (.iinc 3 1, 3) := by decide +kernel
theorem dX6_measureByRounds_31 : decode cX6_measureByRounds 31 = .ok (.goto (-29), 3) := by decide +kernel
theorem dX6_measureByRounds_34 : decode cX6_measureByRounds 34 = .ok (.iconst 1, 1) := by decide +kernel
theorem dX6_measureByRounds_35 : decode cX6_measureByRounds 35 = .ok (.istore_n 3, 1) := by decide +kernel
theorem dX6_measureByRounds_36 : decode cX6_measureByRounds 36 = .ok (.iconst 0, 1) := by decide +kernel
theorem dX6_measureByRounds_37 : decode cX6_measureByRounds 37 = .ok (.istore 4, 2) := by decide +kernel
theorem dX6_measureByRounds_39 : decode cX6_measureByRounds 39 = .ok (.iload 4, 2) := by decide +kernel
theorem dX6_measureByRounds_41 : decode cX6_measureByRounds 41 = .ok (.aload_n 1, 1) := by decide +kernel
theorem dX6_measureByRounds_42 : decode cX6_measureByRounds 42 = .ok (.getfield 21, 3) := by decide +kernel
theorem dX6_measureByRounds_45 : decode cX6_measureByRounds 45 = .ok (.if_icmp .gt 45, 3) := by decide +kernel
theorem dX6_measureByRounds_48 : decode cX6_measureByRounds 48 = .ok (.iload_n 3, 1) := by decide +kernel
theorem dX6_measureByRounds_49 : decode cX6_measureByRounds 49 = .ok (.ifCond .eq 41, 3) := by decide +kernel
theorem dX6_measureByRounds_52 : decode cX6_measureByRounds 52 = .ok (.iconst 0, 1) := by decide +kernel
theorem dX6_measureByRounds_53 : decode cX6_measureByRounds 53 = .ok (.istore_n 3, 1) := by decide +kernel
theorem dX6_measureByRounds_54 : decode cX6_measureByRounds 54 = .ok (.iconst 0, 1) := by decide +kernel
theorem dX6_measureByRounds_55 : decode cX6_measureByRounds 55 = .ok (.istore 5, 2) := by decide +kernel
theorem dX6_measureByRounds_57 : decode cX6_measureByRounds 57 = .ok (.iload 5, 2) := by decide +kernel
theorem dX6_measureByRounds_59 : decode cX6_measureByRounds 59 = .ok (.aload_n 1, 1) := by decide +kernel
theorem dX6_measureByRounds_60 : decode cX6_measureByRounds 60 = .ok (.getfield 21, 3) := by decide +kernel
theorem dX6_measureByRounds_63 : decode cX6_measureByRounds 63 = .ok (.if_icmp .ge 21, 3) := by decide +kernel
theorem dX6_measureByRounds_66 : decode cX6_measureByRounds 66 = .ok (.aload_n 0, 1) := by decide +kernel
theorem dX6_measureByRounds_67 : decode cX6_measureByRounds 67 = .ok (.aload_n 1, 1) := by decide +kernel
theorem dX6_measureByRounds_68 : decode cX6_measureByRounds 68 = .ok (.iload 5, 2) := by decide +kernel
theorem dX6_measureByRounds_70 : decode cX6_measureByRounds 70 = .ok (.invokevirtual 41, 3) := by decide +kernel
theorem dX6_measureByRounds_73 : decode cX6_measureByRounds 73 = .ok (.ifCond .eq 5, 3) := by decide +kernel
theorem dX6_measureByRounds_76 : decode cX6_measureByRounds 76 = .ok (.iconst 1, 1) := by decide +kernel
theorem dX6_measureByRounds_77 : decode cX6_measureByRounds 77 = .ok (.istore_n 3, 1) := by decide +kernel
theorem dX6_measureByRounds_78 : decode cX6_measureByRounds 78 = .ok (.iinc 5 1, 3) := by decide +kernel
theorem dX6_measureByRounds_81 : decode cX6_measureByRounds 81 = .ok (.goto (-24), 3) := by decide +kernel
theorem dX6_measureByRounds_84 : decode cX6_measureByRounds 84 = .ok (.iinc 4 1, 3) := by decide +kernel
theorem dX6_measureByRounds_87 : decode cX6_measureByRounds 87 = .ok (.goto (-48), 3) := by decide +kernel
theorem dX6_measureByRounds_90 : decode cX6_measureByRounds 90 = .ok (.return_, 1) := by decide +kernel
theorem dX6_shortenFrom_0 : decode cX6_shortenFrom 0 = .ok (.aload_n 0, 1) := by decide +kernel
theorem dX6_shortenFrom_1 : decode cX6_shortenFrom 1 = .ok (.getfield 15, 3) := by decide +kernel
theorem dX6_shortenFrom_4 : decode cX6_shortenFrom 4 = .ok (.iload_n 2, 1) := by decide +kernel
theorem dX6_shortenFrom_5 : decode cX6_shortenFrom 5 = .ok (.iaload, 1) := by decide +kernel
theorem dX6_shortenFrom_6 : decode cX6_shortenFrom 6 = .ok (.sipush 1000, 3) := by decide +kernel
theorem dX6_shortenFrom_9 : decode cX6_shortenFrom 9 = .ok (.if_icmp .lt 5, 3) := by decide +kernel
theorem dX6_shortenFrom_12 : decode cX6_shortenFrom 12 = .ok (.iconst 0, 1) := by decide +kernel
theorem dX6_shortenFrom_13 : decode cX6_shortenFrom 13 = .ok (.ireturn, 1) := by decide +kernel
theorem dX6_shortenFrom_14 : decode cX6_shortenFrom 14 = .ok (.iconst 0, 1) := by decide +kernel
theorem dX6_shortenFrom_15 : decode cX6_shortenFrom 15 = .ok (.istore_n 3, 1) := by decide +kernel
theorem dX6_shortenFrom_16 : decode cX6_shortenFrom 16 = .ok (.iconst 0, 1) := by decide +kernel
theorem dX6_shortenFrom_17 : decode cX6_shortenFrom 17 = .ok (.istore 4, 2) := by decide +kernel
theorem dX6_shortenFrom_19 : decode cX6_shortenFrom 19 = .ok (.iload 4, 2) := by decide +kernel
theorem dX6_shortenFrom_21 : decode cX6_shortenFrom 21 = .ok (.aload_n 1, 1) := by decide +kernel
theorem dX6_shortenFrom_22 : decode cX6_shortenFrom 22 = .ok (.getfield 21, 3) := by decide +kernel
theorem dX6_shortenFrom_25 : decode cX6_shortenFrom 25 = .ok (.if_icmp .ge 58, 3) := by decide +kernel
theorem dX6_shortenFrom_28 : decode cX6_shortenFrom 28 = .ok (.aload_n 0, 1) := by decide +kernel
theorem dX6_shortenFrom_29 : decode cX6_shortenFrom 29 = .ok (.getfield 15, 3) := by decide +kernel
theorem dX6_shortenFrom_32 : decode cX6_shortenFrom 32 = .ok (.iload_n 2, 1) := by decide +kernel
theorem dX6_shortenFrom_33 : decode cX6_shortenFrom 33 = .ok (.iaload, 1) := by decide +kernel
theorem dX6_shortenFrom_34 : decode cX6_shortenFrom 34 = .ok (.aload_n 1, 1) := by decide +kernel
theorem dX6_shortenFrom_35 : decode cX6_shortenFrom 35 = .ok (.getfield 31, 3) := by decide +kernel
theorem dX6_shortenFrom_38 : decode cX6_shortenFrom 38 = .ok (.iload 4, 2) := by decide +kernel
theorem dX6_shortenFrom_40 : decode cX6_shortenFrom 40 = .ok (.iaload, 1) := by decide +kernel
theorem dX6_shortenFrom_41 : decode cX6_shortenFrom 41 = .ok (.iadd, 1) := by decide +kernel
theorem dX6_shortenFrom_42 : decode cX6_shortenFrom 42 = .ok (.istore 5, 2) := by decide +kernel
theorem dX6_shortenFrom_44 : decode cX6_shortenFrom 44 = .ok (.aload_n 1, 1) := by decide +kernel
theorem dX6_shortenFrom_45 : decode cX6_shortenFrom 45 = .ok (.iload_n 2, 1) := by decide +kernel
theorem dX6_shortenFrom_46 : decode cX6_shortenFrom 46 = .ok (.iload 4, 2) := by decide +kernel
theorem dX6_shortenFrom_48 : decode cX6_shortenFrom 48 = .ok (.invokevirtual 45, 3) := by decide +kernel
theorem dX6_shortenFrom_51 : decode cX6_shortenFrom 51 = .ok (.ifCond .eq 26, 3) := by decide +kernel
theorem dX6_shortenFrom_54 : decode cX6_shortenFrom 54 = .ok (.iload 5, 2) := by decide +kernel
theorem dX6_shortenFrom_56 : decode cX6_shortenFrom 56 = .ok (.aload_n 0, 1) := by decide +kernel
theorem dX6_shortenFrom_57 : decode cX6_shortenFrom 57 = .ok (.getfield 15, 3) := by decide +kernel
theorem dX6_shortenFrom_60 : decode cX6_shortenFrom 60 = .ok (.iload 4, 2) := by decide +kernel
theorem dX6_shortenFrom_62 : decode cX6_shortenFrom 62 = .ok (.iaload, 1) := by decide +kernel
theorem dX6_shortenFrom_63 : decode cX6_shortenFrom 63 = .ok (.if_icmp .ge 14, 3) := by decide +kernel
theorem dX6_shortenFrom_66 : decode cX6_shortenFrom 66 = .ok (.aload_n 0, 1) := by decide +kernel
theorem dX6_shortenFrom_67 : decode cX6_shortenFrom 67 = .ok (.getfield 15, 3) := by decide +kernel
theorem dX6_shortenFrom_70 : decode cX6_shortenFrom 70 = .ok (.iload 4, 2) := by decide +kernel
theorem dX6_shortenFrom_72 : decode cX6_shortenFrom 72 = .ok (.iload 5, 2) := by decide +kernel
theorem dX6_shortenFrom_74 : decode cX6_shortenFrom 74 = .ok (.iastore, 1) := by decide +kernel
theorem dX6_shortenFrom_75 : decode cX6_shortenFrom 75 = .ok (.iconst 1, 1) := by decide +kernel
theorem dX6_shortenFrom_76 : decode cX6_shortenFrom 76 = .ok (.istore_n 3, 1) := by decide +kernel
theorem dX6_shortenFrom_77 : decode cX6_shortenFrom 77 = .ok (.iinc 4 1, 3) := by decide +kernel
theorem dX6_shortenFrom_80 : decode cX6_shortenFrom 80 = .ok (.goto (-61), 3) := by decide +kernel
theorem dX6_shortenFrom_83 : decode cX6_shortenFrom 83 = .ok (.iload_n 3, 1) := by decide +kernel
theorem dX6_shortenFrom_84 : decode cX6_shortenFrom 84 = .ok (.ireturn, 1) := by decide +kernel
theorem dX6_distancesAgree_0 : decode cX6_distancesAgree 0 = .ok (.iconst 0, 1) := by decide +kernel
theorem dX6_distancesAgree_1 : decode cX6_distancesAgree 1 = .ok (.istore_n 2, 1) := by decide +kernel
theorem dX6_distancesAgree_2 : decode cX6_distancesAgree 2 = .ok (.iload_n 2, 1) := by decide +kernel
theorem dX6_distancesAgree_3 : decode cX6_distancesAgree 3 = .ok (.aload_n 1, 1) := by decide +kernel
theorem dX6_distancesAgree_4 : decode cX6_distancesAgree 4 = .ok (.getfield 21, 3) := by decide +kernel
theorem dX6_distancesAgree_7 : decode cX6_distancesAgree 7 = .ok (.if_icmp .ge 54, 3) := by decide +kernel
theorem dX6_distancesAgree_10 : decode cX6_distancesAgree 10 = .ok (.aload_n 0, 1) := by decide +kernel
theorem dX6_distancesAgree_11 : decode cX6_distancesAgree 11 = .ok (.aload_n 1, 1) := by decide +kernel
theorem dX6_distancesAgree_12 : decode cX6_distancesAgree 12 = .ok (.iload_n 2, 1) := by decide +kernel
theorem dX6_distancesAgree_13 : decode cX6_distancesAgree 13 = .ok (.invokevirtual 48, 3) := by decide +kernel
theorem dX6_distancesAgree_16 : decode cX6_distancesAgree 16 = .ok (.aload_n 0, 1) := by decide +kernel
theorem dX6_distancesAgree_17 : decode cX6_distancesAgree 17 = .ok (.aload_n 1, 1) := by decide +kernel
theorem dX6_distancesAgree_18 : decode cX6_distancesAgree 18 = .ok (.iload_n 2, 1) := by decide +kernel
theorem dX6_distancesAgree_19 : decode cX6_distancesAgree 19 = .ok (.invokevirtual 52, 3) := by decide +kernel
theorem dX6_distancesAgree_22 : decode cX6_distancesAgree 22 = .ok (.iconst 0, 1) := by decide +kernel
theorem dX6_distancesAgree_23 : decode cX6_distancesAgree 23 = .ok (.istore_n 3, 1) := by decide +kernel
theorem dX6_distancesAgree_24 : decode cX6_distancesAgree 24 = .ok (.iload_n 3, 1) := by decide +kernel
theorem dX6_distancesAgree_25 : decode cX6_distancesAgree 25 = .ok (.aload_n 1, 1) := by decide +kernel
theorem dX6_distancesAgree_26 : decode cX6_distancesAgree 26 = .ok (.getfield 21, 3) := by decide +kernel
theorem dX6_distancesAgree_29 : decode cX6_distancesAgree 29 = .ok (.if_icmp .ge 26, 3) := by decide +kernel
theorem dX6_distancesAgree_32 : decode cX6_distancesAgree 32 = .ok (.aload_n 0, 1) := by decide +kernel
theorem dX6_distancesAgree_33 : decode cX6_distancesAgree 33 = .ok (.getfield 9, 3) := by decide +kernel
theorem dX6_distancesAgree_36 : decode cX6_distancesAgree 36 = .ok (.iload_n 3, 1) := by decide +kernel
theorem dX6_distancesAgree_37 : decode cX6_distancesAgree 37 = .ok (.iaload, 1) := by decide +kernel
theorem dX6_distancesAgree_38 : decode cX6_distancesAgree 38 = .ok (.aload_n 0, 1) := by decide +kernel
theorem dX6_distancesAgree_39 : decode cX6_distancesAgree 39 = .ok (.getfield 15, 3) := by decide +kernel
theorem dX6_distancesAgree_42 : decode cX6_distancesAgree 42 = .ok (.iload_n 3, 1) := by decide +kernel
theorem dX6_distancesAgree_43 : decode cX6_distancesAgree 43 = .ok (.iaload, 1) := by decide +kernel
theorem dX6_distancesAgree_44 : decode cX6_distancesAgree 44 = .ok (.if_icmp .eq 5, 3) := by decide +kernel
theorem dX6_distancesAgree_47 : decode cX6_distancesAgree 47 = .ok (.iconst 0, 1) := by decide +kernel
theorem dX6_distancesAgree_48 : decode cX6_distancesAgree 48 = .ok (.ireturn, 1) := by decide +kernel
theorem dX6_distancesAgree_49 : decode cX6_distancesAgree 49 = .ok (.iinc 3 1, 3) := by decide +kernel
theorem dX6_distancesAgree_52 : decode cX6_distancesAgree 52 = .ok (.goto (-28), 3) := by decide +kernel
theorem dX6_distancesAgree_55 : decode cX6_distancesAgree 55 = .ok (.iinc 2 1, 3) := by decide +kernel
theorem dX6_distancesAgree_58 : decode cX6_distancesAgree 58 = .ok (.goto (-56), 3) := by decide +kernel
theorem dX6_distancesAgree_61 : decode cX6_distancesAgree 61 = .ok (.iconst 1, 1) := by decide +kernel
theorem dX6_distancesAgree_62 : decode cX6_distancesAgree 62 = .ok (.ireturn, 1) := by decide +kernel
theorem dX6_nextFor_0 : decode cX6_nextFor 0 = .ok (.aload_n 1, 1) := by decide +kernel
theorem dX6_nextFor_1 : decode cX6_nextFor 1 = .ok (.getfield 55, 3) := by decide +kernel
theorem dX6_nextFor_4 : decode cX6_nextFor 4 = .ok (.iload_n 2, 1) := by decide +kernel
theorem dX6_nextFor_5 : decode cX6_nextFor 5 = .ok (.iaload, 1) := by decide +kernel
theorem dX6_nextFor_6 : decode cX6_nextFor 6 = .ok (.istore_n 3, 1) := by decide +kernel
theorem dX6_nextFor_7 : decode cX6_nextFor 7 = .ok (.aload_n 1, 1) := by decide +kernel
theorem dX6_nextFor_8 : decode cX6_nextFor 8 = .ok (.getfield 58, 3) := by decide +kernel
theorem dX6_nextFor_11 : decode cX6_nextFor 11 = .ok (.iload_n 2, 1) := by decide +kernel
theorem dX6_nextFor_12 : decode cX6_nextFor 12 = .ok (.iaload, 1) := by decide +kernel
theorem dX6_nextFor_13 : decode cX6_nextFor 13 = .ok (.istore 4, 2) := by decide +kernel
theorem dX6_nextFor_15 : decode cX6_nextFor 15 = .ok (.iload_n 3, 1) := by decide +kernel
theorem dX6_nextFor_16 : decode cX6_nextFor 16 = .ok (.iconst (-1), 1) := by decide +kernel
theorem dX6_nextFor_17 : decode cX6_nextFor 17 = .ok (.if_icmp .eq 9, 3) := by decide +kernel
theorem dX6_nextFor_20 : decode cX6_nextFor 20 = .ok (.iload_n 3, 1) := by decide +kernel
theorem dX6_nextFor_21 : decode cX6_nextFor 21 = .ok (.iload 4, 2) := by decide +kernel
theorem dX6_nextFor_23 : decode cX6_nextFor 23 = .ok (.if_icmp .ne 5, 3) := by decide +kernel
theorem dX6_nextFor_26 : decode cX6_nextFor 26 = .ok (.iconst (-1), 1) := by decide +kernel
theorem dX6_nextFor_27 : decode cX6_nextFor 27 = .ok (.ireturn, 1) := by decide +kernel
theorem dX6_nextFor_28 : decode cX6_nextFor 28 = .ok (.aload_n 0, 1) := by decide +kernel
theorem dX6_nextFor_29 : decode cX6_nextFor 29 = .ok (.aload_n 1, 1) := by decide +kernel
theorem dX6_nextFor_30 : decode cX6_nextFor 30 = .ok (.iload_n 3, 1) := by decide +kernel
theorem dX6_nextFor_31 : decode cX6_nextFor 31 = .ok (.invokevirtual 48, 3) := by decide +kernel
theorem dX6_nextFor_34 : decode cX6_nextFor 34 = .ok (.iconst (-1), 1) := by decide +kernel
theorem dX6_nextFor_35 : decode cX6_nextFor 35 = .ok (.istore 5, 2) := by decide +kernel
theorem dX6_nextFor_37 : decode cX6_nextFor 37 = .ok (.sipush 1000, 3) := by decide +kernel
theorem dX6_nextFor_40 : decode cX6_nextFor 40 = .ok (.istore 6, 2) := by decide +kernel
theorem dX6_nextFor_42 : decode cX6_nextFor 42 = .ok (.iconst 0, 1) := by decide +kernel
theorem dX6_nextFor_43 : decode cX6_nextFor 43 = .ok (.istore 7, 2) := by decide +kernel
theorem dX6_nextFor_45 : decode cX6_nextFor 45 = .ok (.iload 7, 2) := by decide +kernel
theorem dX6_nextFor_47 : decode cX6_nextFor 47 = .ok (.aload_n 1, 1) := by decide +kernel
theorem dX6_nextFor_48 : decode cX6_nextFor 48 = .ok (.getfield 21, 3) := by decide +kernel
theorem dX6_nextFor_51 : decode cX6_nextFor 51 = .ok (.if_icmp .ge 45, 3) := by decide +kernel
theorem dX6_nextFor_54 : decode cX6_nextFor 54 = .ok (.aload_n 1, 1) := by decide +kernel
theorem dX6_nextFor_55 : decode cX6_nextFor 55 = .ok (.iload 4, 2) := by decide +kernel
theorem dX6_nextFor_57 : decode cX6_nextFor 57 = .ok (.iload 7, 2) := by decide +kernel
theorem dX6_nextFor_59 : decode cX6_nextFor 59 = .ok (.invokevirtual 45, 3) := by decide +kernel
theorem dX6_nextFor_62 : decode cX6_nextFor 62 = .ok (.ifCond .eq 28, 3) := by decide +kernel
theorem dX6_nextFor_65 : decode cX6_nextFor 65 = .ok (.aload_n 0, 1) := by decide +kernel
theorem dX6_nextFor_66 : decode cX6_nextFor 66 = .ok (.getfield 9, 3) := by decide +kernel
theorem dX6_nextFor_69 : decode cX6_nextFor 69 = .ok (.iload 7, 2) := by decide +kernel
theorem dX6_nextFor_71 : decode cX6_nextFor 71 = .ok (.iaload, 1) := by decide +kernel
theorem dX6_nextFor_72 : decode cX6_nextFor 72 = .ok (.iload 6, 2) := by decide +kernel
theorem dX6_nextFor_74 : decode cX6_nextFor 74 = .ok (.if_icmp .ge 16, 3) := by decide +kernel
theorem dX6_nextFor_77 : decode cX6_nextFor 77 = .ok (.iload 7, 2) := by decide +kernel
theorem dX6_nextFor_79 : decode cX6_nextFor 79 = .ok (.istore 5, 2) := by decide +kernel
theorem dX6_nextFor_81 : decode cX6_nextFor 81 = .ok (.aload_n 0, 1) := by decide +kernel
theorem dX6_nextFor_82 : decode cX6_nextFor 82 = .ok (.getfield 9, 3) := by decide +kernel
theorem dX6_nextFor_85 : decode cX6_nextFor 85 = .ok (.iload 7, 2) := by decide +kernel
theorem dX6_nextFor_87 : decode cX6_nextFor 87 = .ok (.iaload, 1) := by decide +kernel
theorem dX6_nextFor_88 : decode cX6_nextFor 88 = .ok (.istore 6, 2) := by decide +kernel
theorem dX6_nextFor_90 : decode cX6_nextFor 90 = .ok (.iinc 7 1, 3) := by decide +kernel
theorem dX6_nextFor_93 : decode cX6_nextFor 93 = .ok (.goto (-48), 3) := by decide +kernel
theorem dX6_nextFor_96 : decode cX6_nextFor 96 = .ok (.iload 5, 2) := by decide +kernel
theorem dX6_nextFor_98 : decode cX6_nextFor 98 = .ok (.ireturn, 1) := by decide +kernel
theorem dX6_cushionNear_0 : decode cX6_cushionNear 0 = .ok (.aload_n 0, 1) := by decide +kernel
theorem dX6_cushionNear_1 : decode cX6_cushionNear 1 = .ok (.aload_n 1, 1) := by decide +kernel
theorem dX6_cushionNear_2 : decode cX6_cushionNear 2 = .ok (.iload_n 2, 1) := by decide +kernel
theorem dX6_cushionNear_3 : decode cX6_cushionNear 3 = .ok (.invokevirtual 48, 3) := by decide +kernel
theorem dX6_cushionNear_6 : decode cX6_cushionNear 6 = .ok (.iconst (-1), 1) := by decide +kernel
theorem dX6_cushionNear_7 : decode cX6_cushionNear 7 = .ok (.istore_n 3, 1) := by decide +kernel
theorem dX6_cushionNear_8 : decode cX6_cushionNear 8 = .ok (.sipush 1000, 3) := by decide +kernel
theorem dX6_cushionNear_11 : decode cX6_cushionNear 11 = .ok (.istore 4, 2) := by decide +kernel
theorem dX6_cushionNear_13 : decode cX6_cushionNear 13 = .ok (.iconst 0, 1) := by decide +kernel
theorem dX6_cushionNear_14 : decode cX6_cushionNear 14 = .ok (.istore 5, 2) := by decide +kernel
theorem dX6_cushionNear_16 : decode cX6_cushionNear 16 = .ok (.iload 5, 2) := by decide +kernel
theorem dX6_cushionNear_18 : decode cX6_cushionNear 18 = .ok (.aload_n 1, 1) := by decide +kernel
theorem dX6_cushionNear_19 : decode cX6_cushionNear 19 = .ok (.getfield 21, 3) := by decide +kernel
theorem dX6_cushionNear_22 : decode cX6_cushionNear 22 = .ok (.if_icmp .ge 45, 3) := by decide +kernel
theorem dX6_cushionNear_25 : decode cX6_cushionNear 25 = .ok (.aload_n 1, 1) := by decide +kernel
theorem dX6_cushionNear_26 : decode cX6_cushionNear 26 = .ok (.getfield 61, 3) := by decide +kernel
theorem dX6_cushionNear_29 : decode cX6_cushionNear 29 = .ok (.iload 5, 2) := by decide +kernel
theorem dX6_cushionNear_31 : decode cX6_cushionNear 31 = .ok (.invokestatic 37, 3) := by decide +kernel
theorem dX6_cushionNear_34 : decode cX6_cushionNear 34 = .ok (.ifCond .eq 27, 3) := by decide +kernel
theorem dX6_cushionNear_37 : decode cX6_cushionNear 37 = .ok (.aload_n 0, 1) := by decide +kernel
theorem dX6_cushionNear_38 : decode cX6_cushionNear 38 = .ok (.getfield 9, 3) := by decide +kernel
theorem dX6_cushionNear_41 : decode cX6_cushionNear 41 = .ok (.iload 5, 2) := by decide +kernel
theorem dX6_cushionNear_43 : decode cX6_cushionNear 43 = .ok (.iaload, 1) := by decide +kernel
theorem dX6_cushionNear_44 : decode cX6_cushionNear 44 = .ok (.iload 4, 2) := by decide +kernel
theorem dX6_cushionNear_46 : decode cX6_cushionNear 46 = .ok (.if_icmp .ge 15, 3) := by decide +kernel
theorem dX6_cushionNear_49 : decode cX6_cushionNear 49 = .ok (.iload 5, 2) := by decide +kernel
theorem dX6_cushionNear_51 : decode cX6_cushionNear 51 = .ok (.istore_n 3, 1) := by decide +kernel
theorem dX6_cushionNear_52 : decode cX6_cushionNear 52 = .ok (.aload_n 0, 1) := by decide +kernel
theorem dX6_cushionNear_53 : decode cX6_cushionNear 53 = .ok (.getfield 9, 3) := by decide +kernel
theorem dX6_cushionNear_56 : decode cX6_cushionNear 56 = .ok (.iload 5, 2) := by decide +kernel
theorem dX6_cushionNear_58 : decode cX6_cushionNear 58 = .ok (.iaload, 1) := by decide +kernel
theorem dX6_cushionNear_59 : decode cX6_cushionNear 59 = .ok (.istore 4, 2) := by decide +kernel
theorem dX6_cushionNear_61 : decode cX6_cushionNear 61 = .ok (.iinc 5 1, 3) := by decide +kernel
theorem dX6_cushionNear_64 : decode cX6_cushionNear 64 = .ok (.goto (-48), 3) := by decide +kernel
theorem dX6_cushionNear_67 : decode cX6_cushionNear 67 = .ok (.iload_n 3, 1) := by decide +kernel
theorem dX6_cushionNear_68 : decode cX6_cushionNear 68 = .ok (.ireturn, 1) := by decide +kernel
theorem dX6_partsByWalks_0 : decode cX6_partsByWalks 0 = .ok (.iconst 0, 1) := by decide +kernel
theorem dX6_partsByWalks_1 : decode cX6_partsByWalks 1 = .ok (.istore_n 2, 1) := by decide +kernel
theorem dX6_partsByWalks_2 : decode cX6_partsByWalks 2 = .ok (.iconst 0, 1) := by decide +kernel
theorem dX6_partsByWalks_3 : decode cX6_partsByWalks 3 = .ok (.istore_n 3, 1) := by decide +kernel
theorem dX6_partsByWalks_4 : decode cX6_partsByWalks 4 = .ok (.iconst 0, 1) := by decide +kernel
theorem dX6_partsByWalks_5 : decode cX6_partsByWalks 5 = .ok (.istore 4, 2) := by decide +kernel
theorem dX6_partsByWalks_7 : decode cX6_partsByWalks 7 = .ok (.iload 4, 2) := by decide +kernel
theorem dX6_partsByWalks_9 : decode cX6_partsByWalks 9 = .ok (.aload_n 1, 1) := by decide +kernel
theorem dX6_partsByWalks_10 : decode cX6_partsByWalks 10 = .ok (.getfield 21, 3) := by decide +kernel
theorem dX6_partsByWalks_13 : decode cX6_partsByWalks 13 = .ok (.if_icmp .ge 30, 3) := by decide +kernel
theorem dX6_partsByWalks_16 : decode cX6_partsByWalks 16 = .ok (.iload_n 3, 1) := by decide +kernel
theorem dX6_partsByWalks_17 : decode cX6_partsByWalks 17 = .ok (.iload 4, 2) := by decide +kernel
theorem dX6_partsByWalks_19 : decode cX6_partsByWalks 19 = .ok (.invokestatic 37, 3) := by decide +kernel
theorem dX6_partsByWalks_22 : decode cX6_partsByWalks 22 = .ok (.ifCond .ne 15, 3) := by decide +kernel
theorem dX6_partsByWalks_25 : decode cX6_partsByWalks 25 = .ok (.iinc 2 1, 3) := by decide +kernel
theorem dX6_partsByWalks_28 : decode cX6_partsByWalks 28 = .ok (.aload_n 1, 1) := by decide +kernel
theorem dX6_partsByWalks_29 : decode cX6_partsByWalks 29 = .ok (.iload 4, 2) := by decide +kernel
theorem dX6_partsByWalks_31 : decode cX6_partsByWalks 31 = .ok (.iload_n 3, 1) := by decide +kernel
theorem dX6_partsByWalks_32 : decode cX6_partsByWalks 32 = .ok (.iconst 0, 1) := by decide +kernel
theorem dX6_partsByWalks_33 : decode cX6_partsByWalks 33 = .ok (.invokestatic 64, 3) := by decide +kernel
theorem dX6_partsByWalks_36 : decode cX6_partsByWalks 36 = .ok (.istore_n 3, 1) := by decide +kernel
theorem dX6_partsByWalks_37 : decode cX6_partsByWalks 37 = .ok (.iinc 4 1, 3) := by decide +kernel
theorem dX6_partsByWalks_40 : decode cX6_partsByWalks 40 = .ok (.goto (-33), 3) := by decide +kernel
theorem dX6_partsByWalks_43 : decode cX6_partsByWalks 43 = .ok (.iload_n 2, 1) := by decide +kernel
theorem dX6_partsByWalks_44 : decode cX6_partsByWalks 44 = .ok (.ireturn, 1) := by decide +kernel
theorem dX6_walk_0 : decode cX6_walk 0 = .ok (.iload_n 3, 1) := by decide +kernel
theorem dX6_walk_1 : decode cX6_walk 1 = .ok (.bipush 14, 2) := by decide +kernel
theorem dX6_walk_3 : decode cX6_walk 3 = .ok (.if_icmp .lt 5, 3) := by decide +kernel
theorem dX6_walk_6 : decode cX6_walk 6 = .ok (.iload_n 2, 1) := by decide +kernel
theorem dX6_walk_7 : decode cX6_walk 7 = .ok (.ireturn, 1) := by decide +kernel
theorem dX6_walk_8 : decode cX6_walk 8 = .ok (.iload_n 2, 1) := by decide +kernel
theorem dX6_walk_9 : decode cX6_walk 9 = .ok (.iconst 1, 1) := by decide +kernel
theorem dX6_walk_10 : decode cX6_walk 10 = .ok (.iload_n 1, 1) := by decide +kernel
theorem dX6_walk_11 : decode cX6_walk 11 = .ok (.ishl, 1) := by decide +kernel
theorem dX6_walk_12 : decode cX6_walk 12 = .ok (.ior, 1) := by decide +kernel
theorem dX6_walk_13 : decode cX6_walk 13 = .ok (.istore 4, 2) := by decide +kernel
theorem dX6_walk_15 : decode cX6_walk 15 = .ok (.iconst 0, 1) := by decide +kernel
theorem dX6_walk_16 : decode cX6_walk 16 = .ok (.istore 5, 2) := by decide +kernel
theorem dX6_walk_18 : decode cX6_walk 18 = .ok (.iload 5, 2) := by decide +kernel
theorem dX6_walk_20 : decode cX6_walk 20 = .ok (.aload_n 0, 1) := by decide +kernel
theorem dX6_walk_21 : decode cX6_walk 21 = .ok (.getfield 21, 3) := by decide +kernel
theorem dX6_walk_24 : decode cX6_walk 24 = .ok (.if_icmp .ge 42, 3) := by decide +kernel
theorem dX6_walk_27 : decode cX6_walk 27 = .ok (.aload_n 0, 1) := by decide +kernel
theorem dX6_walk_28 : decode cX6_walk 28 = .ok (.iload_n 1, 1) := by decide +kernel
theorem dX6_walk_29 : decode cX6_walk 29 = .ok (.iload 5, 2) := by decide +kernel
theorem dX6_walk_31 : decode cX6_walk 31 = .ok (.invokevirtual 45, 3) := by decide +kernel
theorem dX6_walk_34 : decode cX6_walk 34 = .ok (.ifCond .eq 26, 3) := by decide +kernel
theorem dX6_walk_37 : decode cX6_walk 37 = .ok (.iload 4, 2) := by decide +kernel
theorem dX6_walk_39 : decode cX6_walk 39 = .ok (.iload 5, 2) := by decide +kernel
theorem dX6_walk_41 : decode cX6_walk 41 = .ok (.invokestatic 37, 3) := by decide +kernel
theorem dX6_walk_44 : decode cX6_walk 44 = .ok (.ifCond .ne 16, 3) := by decide +kernel
theorem dX6_walk_47 : decode cX6_walk 47 = .ok (.aload_n 0, 1) := by decide +kernel
theorem dX6_walk_48 : decode cX6_walk 48 = .ok (.iload 5, 2) := by decide +kernel
theorem dX6_walk_50 : decode cX6_walk 50 = .ok (.iload 4, 2) := by decide +kernel
theorem dX6_walk_52 : decode cX6_walk 52 = .ok (.iload_n 3, 1) := by decide +kernel
theorem dX6_walk_53 : decode cX6_walk 53 = .ok (.iconst 1, 1) := by decide +kernel
theorem dX6_walk_54 : decode cX6_walk 54 = .ok (.iadd, 1) := by decide +kernel
theorem dX6_walk_55 : decode cX6_walk 55 = .ok (.invokestatic 64, 3) := by decide +kernel
theorem dX6_walk_58 : decode cX6_walk 58 = .ok (.istore 4, 2) := by decide +kernel
theorem dX6_walk_60 : decode cX6_walk 60 = .ok (.iinc 5 1, 3) := by decide +kernel
theorem dX6_walk_63 : decode cX6_walk 63 = .ok (.goto (-45), 3) := by decide +kernel
