theorem dX6_shortenFrom_38 : decode cX6_shortenFrom 38 = .ok (.iload 4, 2) := by decide +kernel
theorem dX6_shortenFrom_40 : decode cX6_shortenFrom 40 = .ok (.iaload, 1) := by decide +kernel
theorem dX6_shortenFrom_41 : decode cX6_shortenFrom 41 = .ok (.iadd, 1) := by decide +kernel
theorem dX6_shortenFrom_42 : decode cX6_shortenFrom 42 = .ok (.istore 5, 2) := by decide +kernel
theorem dX6_shortenFrom_44 : decode cX6_shortenFrom 44 = .ok (.aload_n 1, 1) := by decide +kernel
theorem dX6_shortenFrom_45 : decode cX6_shortenFrom 45 = .ok (.iload_n 2, 1) := by decide +kernel
theorem dX6_shortenFrom_46 : decode cX6_shortenFrom 46 = .ok (.iload 4, 2) := by decide +kernel
theorem dX6_shortenFrom_48 : decode cX6_shortenFrom 48 = .ok (.invokevirtual 45, 3) := by decide +kernel
theorem dX6_shortenFrom_51 : decode cX6_shortenFrom 51 = .ok (.ifCond .eq 26, 3) := by decide +kernel
theorem dX6_shortenFrom_54 : decode cX6_shortenFrom 54 = .ok (.iload 5, 2) := by decide +kernel
theorem dX6_shortenFrom_56 : decode cX6_shortenFrom 56 = .ok (.aload_n 0, 1) := by decide +kernel
theorem dX6_shortenFrom_57 : decode cX6_shortenFrom 57 = .ok (.getfield 15, 3) := by decide +kernel
theorem dX6_shortenFrom_60 : decode cX6_shortenFrom 60 = .ok (.iload 4, 2) := by decide +kernel
theorem dX6_shortenFrom_62 : decode cX6_shortenFrom 62 = .ok (.iaload, 1) := by decide +kernel
theorem dX6_shortenFrom_63 : decode cX6_shortenFrom 63 = .ok (.if_icmp .ge 14, 3) := by decide +kernel
theorem dX6_shortenFrom_66 : decode cX6_shortenFrom 66 = .ok (.aload_n 0, 1) := by decide +kernel
theorem dX6_shortenFrom_67 : decode cX6_shortenFrom 67 = .ok (.getfield 15, 3) := by decide +kernel
theorem dX6_shortenFrom_70 : decode cX6_shortenFrom 70 = .ok (.iload 4, 2) := by decide +kernel
theorem dX6_shortenFrom_72 : decode cX6_shortenFrom 72 = .ok (.iload 5, 2) := by decide +kernel
theorem dX6_shortenFrom_74 : decode cX6_shortenFrom 74 = .ok (.iastore, 1) := by decide +kernel
theorem dX6_shortenFrom_75 : decode cX6_shortenFrom 75 = .ok (.iconst 1, 1) := by decide +kernel
theorem dX6_shortenFrom_76 : decode cX6_shortenFrom 76 = .ok (.istore_n 3, 1) := by decide +kernel
theorem dX6_shortenFrom_77 : decode cX6_shortenFrom 77 = .ok (.iinc 4 1, 3) := by decide +kernel
theorem dX6_shortenFrom_80 : decode cX6_shortenFrom 80 = .ok (.goto (-61), 3) := by decide +kernel
theorem dX6_shortenFrom_83 : decode cX6_shortenFrom 83 = .ok (.iload_n 3, 1) := by decide +kernel
theorem dX6_shortenFrom_84 : decode cX6_shortenFrom 84 = .ok (.ireturn, 1) := by decide +kernel
theorem dX6_distancesAgree_0 : decode cX6_distancesAgree 0 = .ok (.iconst 0, 1) := by decide +kernel
theorem dX6_distancesAgree_1 : decode cX6_distancesAgree 1 = .ok (.istore_n 2, 1) := by decide +kernel
theorem dX6_distancesAgree_2 : decode cX6_distancesAgree 2 = .ok (.iload_n 2, 1) := by decide +kernel
theorem dX6_distancesAgree_3 : decode cX6_distancesAgree 3 = .ok (.aload_n 1, 1) := by decide +kernel
theorem dX6_distancesAgree_4 : decode cX6_distancesAgree 4 = .ok (.getfield 21, 3) := by decide +kernel
theorem dX6_distancesAgree_7 : decode cX6_distancesAgree 7 = .ok (.if_icmp .ge 54, 3) := by decide +kernel
theorem dX6_distancesAgree_10 : decode cX6_distancesAgree 10 = .ok (.aload_n 0, 1) := by decide +kernel
theorem dX6_distancesAgree_11 : decode cX6_distancesAgree 11 = .ok (.aload_n 1, 1) := by decide +kernel
theorem dX6_distancesAgree_12 : decode cX6_distancesAgree 12 = .ok (.iload_n 2, 1) := by decide +kernel
theorem dX6_distancesAgree_13 : decode cX6_distancesAgree 13 = .ok (.invokevirtual 48, 3) := by decide +kernel
theorem dX6_distancesAgree_16 : decode cX6_distancesAgree 16 = .ok (.aload_n 0, 1) := by decide +kernel
theorem dX6_distancesAgree_17 : decode cX6_distancesAgree 17 = .ok (.aload_n 1, 1) := by decide +kernel
theorem dX6_distancesAgree_18 : decode cX6_distancesAgree 18 = .ok (.iload_n 2, 1) := by decide +kernel
theorem dX6_distancesAgree_19 : decode cX6_distancesAgree 19 = .ok (.invokevirtual 52, 3) := by decide +kernel
theorem dX6_distancesAgree_22 : decode cX6_distancesAgree 22 = .ok (.iconst 0, 1) := by decide +kernel
theorem dX6_distancesAgree_23 : decode cX6_distancesAgree 23 = .ok (.istore_n 3, 1) := by decide +kernel
theorem dX6_distancesAgree_24 : decode cX6_distancesAgree 24 = .ok (.iload_n 3, 1) := by decide +kernel
theorem dX6_distancesAgree_25 : decode cX6_distancesAgree 25 = .ok (.aload_n 1, 1) := by decide +kernel
theorem dX6_distancesAgree_26 : decode cX6_distancesAgree 26 = .ok (.getfield 21, 3) := by decide +kernel
theorem dX6_distancesAgree_29 : decode cX6_distancesAgree 29 = .ok (.if_icmp .ge 26, 3) := by decide +kernel
theorem dX6_distancesAgree_32 : decode cX6_distancesAgree 32 = .ok (.aload_n 0, 1) := by decide +kernel
theorem dX6_distancesAgree_33 : decode cX6_distancesAgree 33 = .ok (.getfield 9, 3) := by decide +kernel
theorem dX6_distancesAgree_36 : decode cX6_distancesAgree 36 = .ok (.iload_n 3, 1) := by decide +kernel
theorem dX6_distancesAgree_37 : decode cX6_distancesAgree 37 = .ok (.iaload, 1) := by decide +kernel
theorem dX6_distancesAgree_38 : decode cX6_distancesAgree 38 = .ok (.aload_n 0, 1) := by decide +kernel
theorem dX6_distancesAgree_39 : decode cX6_distancesAgree 39 = .ok (.getfield 15, 3) := by decide +kernel
theorem dX6_distancesAgree_42 : decode cX6_distancesAgree 42 = .ok (.iload_n 3, 1) := by decide +kernel
theorem dX6_distancesAgree_43 : decode cX6_distancesAgree 43 = .ok (.iaload, 1) := by decide +kernel
theorem dX6_distancesAgree_44 : decode cX6_distancesAgree 44 = .ok (.if_icmp .eq 5, 3) := by decide +kernel
theorem dX6_distancesAgree_47 : decode cX6_distancesAgree 47 = .ok (.iconst 0, 1) := by decide +kernel
theorem dX6_distancesAgree_48 : decode cX6_distancesAgree 48 = .ok (.ireturn, 1) := by decide +kernel
theorem dX6_distancesAgree_49 : decode cX6_distancesAgree 49 = .ok (.iinc 3 1, 3) := by decide +kernel
theorem dX6_distancesAgree_52 : decode cX6_distancesAgree 52 = .ok (.goto (-28), 3) := by decide +kernel
theorem dX6_distancesAgree_55 : decode cX6_distancesAgree 55 = .ok (.iinc 2 1, 3) := by decide +kernel
theorem dX6_distancesAgree_58 : decode cX6_distancesAgree 58 = .ok (.goto (-56), 3) := by decide +kernel
theorem dX6_distancesAgree_61 : decode cX6_distancesAgree 61 = .ok (.iconst 1, 1) := by decide +kernel
theorem dX6_distancesAgree_62 : decode cX6_distancesAgree 62 = .ok (.ireturn, 1) := by decide +kernel
theorem dX6_nextFor_0 : decode cX6_nextFor 0 = .ok (.aload_n 1, 1) := by decide +kernel
theorem dX6_nextFor_1 : decode cX6_nextFor 1 = .ok (.getfield 55, 3) := by decide +kernel
theorem dX6_nextFor_4 : decode cX6_nextFor 4 = .ok (.iload_n 2, 1) := by decide +kernel
theorem dX6_nextFor_5 : decode cX6_nextFor 5 = .ok (.iaload, 1) := by decide +kernel
theorem dX6_nextFor_6 : decode cX6_nextFor 6 = .ok (.istore_n 3, 1) := by decide +kernel
theorem dX6_nextFor_7 : decode cX6_nextFor 7 = .ok (.aload_n 1, 1) := by decide +kernel
theorem dX6_nextFor_8 : decode cX6_nextFor 8 = .ok (.getfield 58, 3) := by decide +kernel
theorem dX6_nextFor_11 : decode cX6_nextFor 11 = .ok (.iload_n 2, 1) := by decide +kernel
theorem dX6_nextFor_12 : decode cX6_nextFor 12 = .ok (.iaload, 1) := by decide +kernel
theorem dX6_nextFor_13 : decode cX6_nextFor 13 = .ok (.istore 4, 2) := by decide +kernel
theorem dX6_nextFor_15 : decode cX6_nextFor 15 = .ok (.iload_n 3, 1) := by decide +kernel
theorem dX6_nextFor_16 : decode cX6_nextFor 16 = .ok (.iconst (-1), 1) := by decide +kernel
theorem dX6_nextFor_17 : decode cX6_nextFor 17 = .ok (.if_icmp .eq 9, 3) := by decide +kernel
theorem dX6_nextFor_20 : decode cX6_nextFor 20 = .ok (.iload_n 3, 1) := by decide +kernel
theorem dX6_nextFor_21 : decode cX6_nextFor 21 = .ok (.iload 4, 2) := by decide +kernel
theorem dX6_nextFor_23 : decode cX6_nextFor 23 = .ok (.if_icmp .ne 5, 3) := by decide +kernel
theorem dX6_nextFor_26 : decode cX6_nextFor 26 = .ok (.iconst (-1), 1) := by decide +kernel
theorem dX6_nextFor_27 : decode cX6_nextFor 27 = .ok (.ireturn, 1) := by decide +kernel
theorem dX6_nextFor_28 : decode cX6_nextFor 28 = .ok (.aload_n 0, 1) := by decide +kernel
theorem dX6_nextFor_29 : decode cX6_nextFor 29 = .ok (.aload_n 1, 1) := by decide +kernel
theorem dX6_nextFor_30 : decode cX6_nextFor 30 = .ok (.iload_n 3, 1) := by decide +kernel
theorem dX6_nextFor_31 : decode cX6_nextFor 31 = .ok (.invokevirtual 48, 3) := by decide +kernel
theorem dX6_nextFor_34 : decode cX6_nextFor 34 = .ok (.iconst (-1), 1) := by decide +kernel
theorem dX6_nextFor_35 : decode cX6_nextFor 35 = .ok (.istore 5, 2) := by decide +kernel
theorem dX6_nextFor_37 : decode cX6_nextFor 37 = .ok (.sipush 1000, 3) := by decide +kernel
theorem dX6_nextFor_40 : decode cX6_nextFor 40 = .ok (.istore 6, 2) := by decide +kernel
theorem dX6_nextFor_42 : decode cX6_nextFor 42 = .ok (.iconst 0, 1) := by decide +kernel
theorem dX6_nextFor_43 : decode cX6_nextFor 43 = .ok (.istore 7, 2) := by decide +kernel
theorem dX6_nextFor_45 : decode cX6_nextFor 45 = .ok (.iload 7, 2) := by decide +kernel
theorem dX6_nextFor_47 : decode cX6_nextFor 47 = .ok (.aload_n 1, 1) := by decide +kernel
theorem dX6_nextFor_48 : decode cX6_nextFor 48 = .ok (.getfield 21, 3) := by decide +kernel
theorem dX6_nextFor_51 : decode cX6_nextFor 51 = .ok (.if_icmp .ge 45, 3) := by decide +kernel
theorem dX6_nextFor_54 : decode cX6_nextFor 54 = .ok (.aload_n 1, 1) := by decide +kernel
theorem dX6_nextFor_55 : decode cX6_nextFor 55 = .ok (.iload 4, 2) := by decide +kernel
theorem dX6_nextFor_57 : decode cX6_nextFor 57 = .ok (.iload 7, 2) := by decide +kernel
theorem dX6_nextFor_59 : decode cX6_nextFor 59 = .ok (.invokevirtual 45, 3) := by decide +kernel
theorem dX6_nextFor_62 : decode cX6_nextFor 62 = .ok (.ifCond .eq 28, 3) := by decide +kernel
theorem dX6_nextFor_65 : decode cX6_nextFor 65 = .ok (.aload_n 0, 1) := by decide +kernel
theorem dX6_nextFor_66 : decode cX6_nextFor 66 = .ok (.getfield 9, 3) := by decide +kernel
theorem dX6_nextFor_69 : decode cX6_nextFor 69 = .ok (.iload 7, 2) := by decide +kernel
theorem dX6_nextFor_71 : decode cX6_nextFor 71 = .ok (.iaload, 1) := by decide +kernel
theorem dX6_nextFor_72 : decode cX6_nextFor 72 = .ok (.iload 6, 2) := by decide +kernel
theorem dX6_nextFor_74 : decode cX6_nextFor 74 = .ok (.if_icmp .ge 16, 3) := by decide +kernel
theorem dX6_nextFor_77 : decode cX6_nextFor 77 = .ok (.iload 7, 2) := by decide +kernel
theorem dX6_nextFor_79 : decode cX6_nextFor 79 = .ok (.istore 5, 2) := by decide +kernel
theorem dX6_nextFor_81 : decode cX6_nextFor 81 = .ok (.aload_n 0, 1) := by decide +kernel
theorem dX6_nextFor_82 : decode cX6_nextFor 82 = .ok (.getfield 9, 3) := by decide +kernel
theorem dX6_nextFor_85 : decode cX6_nextFor 85 = .ok (.iload 7, 2) := by decide +kernel
theorem dX6_nextFor_87 : decode cX6_nextFor 87 = .ok (.iaload, 1) := by decide +kernel
theorem dX6_nextFor_88 : decode cX6_nextFor 88 = .ok (.istore 6, 2) := by decide +kernel
theorem dX6_nextFor_90 : decode cX6_nextFor 90 = .ok (.iinc 7 1, 3) := by decide +kernel
theorem dX6_nextFor_93 : decode cX6_nextFor 93 = .ok (.goto (-48), 3) := by decide +kernel
theorem dX6_nextFor_96 : decode cX6_nextFor 96 = .ok (.iload 5, 2) := by decide +kernel
theorem dX6_nextFor_98 : decode cX6_nextFor 98 = .ok (.ireturn, 1) := by decide +kernel
theorem dX6_cushionNear_0 : decode cX6_cushionNear 0 = .ok (.aload_n 0, 1) := by decide +kernel
theorem dX6_cushionNear_1 : decode cX6_cushionNear 1 = .ok (.aload_n 1, 1) := by decide +kernel
theorem dX6_cushionNear_2 : decode cX6_cushionNear 2 = .ok (.iload_n 2, 1) := by decide +kernel
theorem dX6_cushionNear_3 : decode cX6_cushionNear 3 = .ok (.invokevirtual 48, 3) := by decide +kernel
theorem dX6_cushionNear_6 : decode cX6_cushionNear 6 = .ok (.iconst (-1), 1) := by decide +kernel
theorem dX6_cushionNear_7 : decode cX6_cushionNear 7 = .ok (.istore_n 3, 1) := by decide +kernel
theorem dX6_cushionNear_8 : decode cX6_cushionNear 8 = .ok (.sipush 1000, 3) := by decide +kernel
theorem dX6_cushionNear_11 : decode cX6_cushionNear 11 = .ok (.istore 4, 2) := by decide +kernel
theorem dX6_cushionNear_13 : decode cX6_cushionNear 13 = .ok (.iconst 0, 1) := by decide +kernel
theorem dX6_cushionNear_14 : decode cX6_cushionNear 14 = .ok (.istore 5, 2) := by decide +kernel
theorem dX6_cushionNear_16 : decode cX6_cushionNear 16 = .ok (.iload 5, 2) := by decide +kernel
theorem dX6_cushionNear_18 : decode cX6_cushionNear 18 = .ok (.aload_n 1, 1) := by decide +kernel
theorem dX6_cushionNear_19 : decode cX6_cushionNear 19 = .ok (.getfield 21, 3) := by decide +kernel
theorem dX6_cushionNear_22 : decode cX6_cushionNear 22 = .ok (.if_icmp .ge 45, 3) := by decide +kernel
theorem dX6_cushionNear_25 : decode cX6_cushionNear 25 = .ok (.aload_n 1, 1) := by decide +kernel
theorem dX6_cushionNear_26 : decode cX6_cushionNear 26 = .ok (.getfield 61, 3) := by decide +kernel
theorem dX6_cushionNear_29 : decode cX6_cushionNear 29 = .ok (.iload 5, 2) := by decide +kernel
theorem dX6_cushionNear_31 : decode cX6_cushionNear 31 = .ok (.invokestatic 37, 3) := by decide +kernel
theorem dX6_cushionNear_34 : decode cX6_cushionNear 34 = .ok (.ifCond .eq 27, 3) := by decide +kernel
theorem dX6_cushionNear_37 : decode cX6_cushionNear 37 = .ok (.aload_n 0, 1) := by decide +kernel
theorem dX6_cushionNear_38 : decode cX6_cushionNear 38 = .ok (.getfield 9, 3) := by decide +kernel
theorem dX6_cushionNear_41 : decode cX6_cushionNear 41 = .ok (.iload 5, 2) := by decide +kernel
theorem dX6_cushionNear_43 : decode cX6_cushionNear 43 = .ok (.iaload, 1) := by decide +kernel
theorem dX6_cushionNear_44 : decode cX6_cushionNear 44 = .ok (.iload 4, 2) := by decide +kernel
theorem dX6_cushionNear_46 : decode cX6_cushionNear 46 = .ok (.if_icmp .ge 15, 3) := by decide +kernel
theorem dX6_cushionNear_49 : decode cX6_cushionNear 49 = .ok (.iload 5, 2) := by decide +kernel
theorem dX6_cushionNear_51 : decode cX6_cushionNear 51 = .ok (.istore_n 3, 1) := by decide +kernel
theorem dX6_cushionNear_52 : decode cX6_cushionNear 52 = .ok (.aload_n 0, 1) := by decide +kernel
theorem dX6_cushionNear_53 : decode cX6_cushionNear 53 = .ok (.getfield 9, 3) := by decide +kernel
theorem dX6_cushionNear_56 : decode cX6_cushionNear 56 = .ok (.iload 5, 2) := by decide +kernel
theorem dX6_cushionNear_58 : decode cX6_cushionNear 58 = .ok (.iaload, 1) := by decide +kernel
theorem dX6_cushionNear_59 : decode cX6_cushionNear 59 = .ok (.istore 4, 2) := by decide +kernel
theorem dX6_cushionNear_61 : decode cX6_cushionNear 61 = .ok (.iinc 5 1, 3) := by decide +kernel
theorem dX6_cushionNear_64 : decode cX6_cushionNear 64 = .ok (.goto (-48), 3) := by decide +kernel
theorem dX6_cushionNear_67 : decode cX6_cushionNear 67 = .ok (.iload_n 3, 1) := by decide +kernel
theorem dX6_cushionNear_68 : decode cX6_cushionNear 68 = .ok (.ireturn, 1) := by decide +kernel
theorem dX6_partsByWalks_0 : decode cX6_partsByWalks 0 = .ok (.iconst 0, 1) := by decide +kernel
theorem dX6_partsByWalks_1 : decode cX6_partsByWalks 1 = .ok (.istore_n 2, 1) := by decide +kernel
theorem dX6_partsByWalks_2 : decode cX6_partsByWalks 2 = .ok (.iconst 0, 1) := by decide +kernel
theorem dX6_partsByWalks_3 : decode cX6_partsByWalks 3 = .ok (.istore_n 3, 1) := by decide +kernel
theorem dX6_partsByWalks_4 : decode cX6_partsByWalks 4 = .ok (.iconst 0, 1) := by decide +kernel
theorem dX6_partsByWalks_5 : decode cX6_partsByWalks 5 = .ok (.istore 4, 2) := by decide +kernel
theorem dX6_partsByWalks_7 : decode cX6_partsByWalks 7 = .ok (.iload 4, 2) := by decide +kernel
theorem dX6_partsByWalks_9 : decode cX6_partsByWalks 9 = .ok (.aload_n 1, 1) := by decide +kernel
theorem dX6_partsByWalks_10 : decode cX6_partsByWalks 10 = .ok (.getfield 21, 3) := by decide +kernel
theorem dX6_partsByWalks_13 : decode cX6_partsByWalks 13 = .ok (.if_icmp .ge 30, 3) := by decide +kernel
theorem dX6_partsByWalks_16 : decode cX6_partsByWalks 16 = .ok (.iload_n 3, 1) := by decide +kernel
theorem dX6_partsByWalks_17 : decode cX6_partsByWalks 17 = .ok (.iload 4, 2) := by decide +kernel
theorem dX6_partsByWalks_19 : decode cX6_partsByWalks 19 = .ok (.invokestatic 37, 3) := by decide +kernel
theorem dX6_partsByWalks_22 : decode cX6_partsByWalks 22 = .ok (.ifCond .ne 15, 3) := by decide +kernel
theorem dX6_partsByWalks_25 : decode cX6_partsByWalks 25 = .ok (.iinc 2 1, 3) := by decide +kernel
theorem dX6_partsByWalks_28 : decode cX6_partsByWalks 28 = .ok (.aload_n 1, 1) := by decide +kernel
theorem dX6_partsByWalks_29 : decode cX6_partsByWalks 29 = .ok (.iload 4, 2) := by decide +kernel
theorem dX6_partsByWalks_31 : decode cX6_partsByWalks 31 = .ok (.iload_n 3, 1) := by decide +kernel
theorem dX6_partsByWalks_32 : decode cX6_partsByWalks 32 = .ok (.iconst 0, 1) := by decide +kernel
theorem dX6_partsByWalks_33 : decode cX6_partsByWalks 33 = .ok (.invokestatic 64, 3) := by decide +kernel
theorem dX6_partsByWalks_36 : decode cX6_partsByWalks 36 = .ok (.istore_n 3, 1) := by decide +kernel
theorem dX6_partsByWalks_37 : decode cX6_partsByWalks 37 = .ok (.iinc 4 1, 3) := by decide +kernel
theorem dX6_partsByWalks_40 : decode cX6_partsByWalks 40 = .ok (.goto (-33), 3) := by decide +kernel
theorem dX6_partsByWalks_43 : decode cX6_partsByWalks 43 = .ok (.iload_n 2, 1) := by decide +kernel
theorem dX6_partsByWalks_44 : decode cX6_partsByWalks 44 = .ok (.ireturn, 1) := by decide +kernel
theorem dX6_walk_0 : decode cX6_walk 0 = .ok (.iload_n 3, 1) := by decide +kernel
theorem dX6_walk_1 : decode cX6_walk 1 = .ok (.bipush 14, 2) := by decide +kernel
theorem dX6_walk_3 : decode cX6_walk 3 = .ok (.if_icmp .lt 5, 3) := by decide +kernel
theorem dX6_walk_6 : decode cX6_walk 6 = .ok (.iload_n 2, 1) := by decide +kernel
theorem dX6_walk_7 : decode cX6_walk 7 = .ok (.ireturn, 1) := by decide +kernel
theorem dX6_walk_8 : decode cX6_walk 8 = .ok (.iload_n 2, 1) := by decide +kernel
theorem dX6_walk_9 : decode cX6_walk 9 = .ok (.iconst 1, 1) := by decide +kernel
theorem dX6_walk_10 : decode cX6_walk 10 = .ok (.iload_n 1, 1) := by decide +kernel
theorem dX6_walk_11 : decode cX6_walk 11 = .ok (.ishl, 1) := by decide +kernel
theorem dX6_walk_12 : decode cX6_walk 12 = .ok (.ior, 1) := by decide +kernel
theorem dX6_walk_13 : decode cX6_walk 13 = .ok (.istore 4, 2) := by decide +kernel
theorem dX6_walk_15 : decode cX6_walk 15 = .ok (.iconst 0, 1) := by decide +kernel
theorem dX6_walk_16 : decode cX6_walk 16 = .ok (.istore 5, 2) := by decide +kernel
theorem dX6_walk_18 : decode cX6_walk 18 = .ok (.iload 5, 2) := by decide +kernel
theorem dX6_walk_20 : decode cX6_walk 20 = .ok (.aload_n 0, 1) := by decide +kernel
theorem dX6_walk_21 : decode cX6_walk 21 = .ok (.getfield 21, 3) := by decide +kernel
theorem dX6_walk_24 : decode cX6_walk 24 = .ok (.if_icmp .ge 42, 3) := by decide +kernel
theorem dX6_walk_27 : decode cX6_walk 27 = .ok (.aload_n 0, 1) := by decide +kernel
theorem dX6_walk_28 : decode cX6_walk 28 = .ok (.iload_n 1, 1) := by decide +kernel
theorem dX6_walk_29 : decode cX6_walk 29 = .ok (.iload 5, 2) := by decide +kernel
theorem dX6_walk_31 : decode cX6_walk 31 = .ok (.invokevirtual 45, 3) := by decide +kernel
theorem dX6_walk_34 : decode cX6_walk 34 = .ok (.ifCond .eq 26, 3) := by decide +kernel
theorem dX6_walk_37 : decode cX6_walk 37 = .ok (.iload 4, 2) := by decide +kernel
theorem dX6_walk_39 : decode cX6_walk 39 = .ok (.iload 5, 2) := by decide +kernel
theorem dX6_walk_41 : decode cX6_walk 41 = .ok (.invokestatic 37, 3) := by decide +kernel
theorem dX6_walk_44 : decode cX6_walk 44 = .ok (.ifCond .ne 16, 3) := by decide +kernel
theorem dX6_walk_47 : decode cX6_walk 47 = .ok (.aload_n 0, 1) := by decide +kernel
theorem dX6_walk_48 : decode cX6_walk 48 = .ok (.iload 5, 2) := by decide +kernel
theorem dX6_walk_50 : decode cX6_walk 50 = .ok (.iload 4, 2) := by decide +kernel
theorem dX6_walk_52 : decode cX6_walk 52 = .ok (.iload_n 3, 1) := by decide +kernel
theorem dX6_walk_53 : decode cX6_walk 53 = .ok (.iconst 1, 1) := by decide +kernel
theorem dX6_walk_54 : decode cX6_walk 54 = .ok (.iadd, 1) := by decide +kernel
theorem dX6_walk_55 : decode cX6_walk 55 = .ok (.invokestatic 64, 3) := by decide +kernel
theorem dX6_walk_58 : decode cX6_walk 58 = .ok (.istore 4, 2) := by decide +kernel
theorem dX6_walk_60 : decode cX6_walk 60 = .ok (.iinc 5 1, 3) := by decide +kernel
theorem dX6_walk_63 : decode cX6_walk 63 = .ok (.goto (-45), 3) := by decide +kernel
theorem dX6_walk_66 : decode cX6_walk 66 = .ok (.iload 4, 2) := by decide +kernel
theorem dX6_walk_68 : decode cX6_walk 68 = .ok (.ireturn, 1) := by decide +kernel
theorem dX6_partsByUnions_0 : decode cX6_partsByUnions 0 = .ok (.iconst 0, 1) := by decide +kernel
theorem dX6_partsByUnions_1 : decode cX6_partsByUnions 1 = .ok (.istore_n 2, 1) := by decide +kernel
theorem dX6_partsByUnions_2 : decode cX6_partsByUnions 2 = .ok (.iload_n 2, 1) := by decide +kernel
theorem dX6_partsByUnions_3 : decode cX6_partsByUnions 3 = .ok (.aload_n 1, 1) := by decide +kernel
theorem dX6_partsByUnions_4 : decode cX6_partsByUnions 4 = .ok (.getfield 21, 3) := by decide +kernel
theorem dX6_partsByUnions_7 : decode cX6_partsByUnions 7 = .ok (.if_icmp .ge 16, 3) := by decide +kernel
theorem dX6_partsByUnions_10 : decode cX6_partsByUnions 10 = .ok (.aload_n 0, 1) := by decide +kernel
theorem dX6_partsByUnions_11 : decode cX6_partsByUnions 11 = .ok (.getfield 18, 3) := by decide +kernel
theorem dX6_partsByUnions_14 : decode cX6_partsByUnions 14 = .ok (.iload_n 2, 1) := by decide +kernel
theorem dX6_partsByUnions_15 : decode cX6_partsByUnions 15 = .ok (.iload_n 2, 1) := by decide +kernel
theorem dX6_partsByUnions_16 : decode cX6_partsByUnions 16 = .ok (.iastore, 1) := by decide +kernel
theorem dX6_partsByUnions_17 : decode cX6_partsByUnions 17 = .ok (.iinc 2 1, 3) := by decide +kernel
theorem dX6_partsByUnions_20 : decode cX6_partsByUnions 20 = .ok (.goto (-18), 3) := by decide +kernel
theorem dX6_partsByUnions_23 : decode cX6_partsByUnions 23 = .ok (.aload_n 1, 1) := by decide +kernel
theorem dX6_partsByUnions_24 : decode cX6_partsByUnions 24 = .ok (.getfield 21, 3) := by decide +kernel
theorem dX6_partsByUnions_27 : decode cX6_partsByUnions 27 = .ok (.istore_n 2, 1) := by decide +kernel
theorem dX6_partsByUnions_28 : decode cX6_partsByUnions 28 = .ok (.iconst 0, 1) := by decide +kernel
theorem dX6_partsByUnions_29 : decode cX6_partsByUnions 29 = .ok (.istore_n 3, 1) := by decide +kernel
theorem dX6_partsByUnions_30 : decode cX6_partsByUnions 30 = .ok (.iload_n 3, 1) := by decide +kernel
theorem dX6_partsByUnions_31 : decode cX6_partsByUnions 31 = .ok (.aload_n 1, 1) := by decide +kernel
theorem dX6_partsByUnions_32 : decode cX6_partsByUnions 32 = .ok (.getfield 21, 3) := by decide +kernel
theorem dX6_partsByUnions_35 : decode cX6_partsByUnions 35 = .ok (.if_icmp .ge 74, 3) := by decide +kernel
theorem dX6_partsByUnions_38 : decode cX6_partsByUnions 38 = .ok (.iconst 0, 1) := by decide +kernel
theorem dX6_partsByUnions_39 : decode cX6_partsByUnions 39 = .ok (.istore 4, 2) := by decide +kernel
theorem dX6_partsByUnions_41 : decode cX6_partsByUnions 41 = .ok (.iload 4, 2) := by decide +kernel
theorem dX6_partsByUnions_43 : decode cX6_partsByUnions 43 = .ok (.iload_n 3, 1) := by decide +kernel
theorem dX6_partsByUnions_44 : decode cX6_partsByUnions 44 = .ok (.if_icmp .ge 59, 3) := by decide +kernel
theorem dX6_partsByUnions_47 : decode cX6_partsByUnions 47 = .ok (.aload_n 1, 1) := by decide +kernel
theorem dX6_partsByUnions_48 : decode cX6_partsByUnions 48 = .ok (.iload_n 3, 1) := by decide +kernel
theorem dX6_partsByUnions_49 : decode cX6_partsByUnions 49 = .ok (.iload 4, 2) := by decide +kernel
theorem dX6_partsByUnions_51 : decode cX6_partsByUnions 51 = .ok (.invokevirtual 45, 3) := by decide +kernel
theorem dX6_partsByUnions_54 : decode cX6_partsByUnions 54 = .ok (.ifCond .eq 43, 3) := by decide +kernel
theorem dX6_partsByUnions_57 : decode cX6_partsByUnions 57 = .ok (.aload_n 0, 1) := by decide +kernel
theorem dX6_partsByUnions_58 : decode cX6_partsByUnions 58 = .ok (.getfield 18, 3) := by decide +kernel
theorem dX6_partsByUnions_61 : decode cX6_partsByUnions 61 = .ok (.iload_n 3, 1) := by decide +kernel
theorem dX6_partsByUnions_62 : decode cX6_partsByUnions 62 = .ok (.iaload, 1) := by decide +kernel
theorem dX6_partsByUnions_63 : decode cX6_partsByUnions 63 = .ok (.aload_n 0, 1) := by decide +kernel
theorem dX6_partsByUnions_64 : decode cX6_partsByUnions 64 = .ok (.getfield 18, 3) := by decide +kernel
theorem dX6_partsByUnions_67 : decode cX6_partsByUnions 67 = .ok (.iload 4, 2) := by decide +kernel
theorem dX6_partsByUnions_69 : decode cX6_partsByUnions 69 = .ok (.iaload, 1) := by decide +kernel
theorem dX6_partsByUnions_70 : decode cX6_partsByUnions 70 = .ok (.if_icmp .eq 27, 3) := by decide +kernel
theorem dX6_partsByUnions_73 : decode cX6_partsByUnions 73 = .ok (.aload_n 0, 1) := by decide +kernel
theorem dX6_partsByUnions_74 : decode cX6_partsByUnions 74 = .ok (.aload_n 1, 1) := by decide +kernel
theorem dX6_partsByUnions_75 : decode cX6_partsByUnions 75 = .ok (.getfield 21, 3) := by decide +kernel
theorem dX6_partsByUnions_78 : decode cX6_partsByUnions 78 = .ok (.aload_n 0, 1) := by decide +kernel
theorem dX6_partsByUnions_79 : decode cX6_partsByUnions 79 = .ok (.getfield 18, 3) := by decide +kernel
theorem dX6_partsByUnions_82 : decode cX6_partsByUnions 82 = .ok (.iload_n 3, 1) := by decide +kernel
theorem dX6_partsByUnions_83 : decode cX6_partsByUnions 83 = .ok (.iaload, 1) := by decide +kernel
theorem dX6_partsByUnions_84 : decode cX6_partsByUnions 84 = .ok (.aload_n 0, 1) := by decide +kernel
theorem dX6_partsByUnions_85 : decode cX6_partsByUnions 85 = .ok (.getfield 18, 3) := by decide +kernel
theorem dX6_partsByUnions_88 : decode cX6_partsByUnions 88 = .ok (.iload 4, 2) := by decide +kernel
theorem dX6_partsByUnions_90 : decode cX6_partsByUnions 90 = .ok (.iaload, 1) := by decide +kernel
theorem dX6_partsByUnions_91 : decode cX6_partsByUnions 91 = .ok (.invokevirtual 68, 3) := by decide +kernel
theorem dX6_partsByUnions_94 : decode cX6_partsByUnions 94 = .ok (.iinc 2 (-1), 3) := by decide +kernel
theorem dX6_partsByUnions_97 : decode cX6_partsByUnions 97 = .ok (.iinc 4 1, 3) := by decide +kernel
theorem dX6_partsByUnions_100 : decode cX6_partsByUnions 100 = .ok (.goto (-59), 3) := by decide +kernel
theorem dX6_partsByUnions_103 : decode cX6_partsByUnions 103 = .ok (.iinc 3 1, 3) := by decide +kernel
theorem dX6_partsByUnions_106 : decode cX6_partsByUnions 106 = .ok (.goto (-76), 3) := by decide +kernel
theorem dX6_partsByUnions_109 : decode cX6_partsByUnions 109 = .ok (.iload_n 2, 1) := by decide +kernel
theorem dX6_partsByUnions_110 : decode cX6_partsByUnions 110 = .ok (.ireturn, 1) := by decide +kernel
theorem dX6_unite_0 : decode cX6_unite 0 = .ok (.iconst 0, 1) := by decide +kernel
theorem dX6_unite_1 : decode cX6_unite 1 = .ok (.istore 4, 2) := by decide +kernel
theorem dX6_unite_3 : decode cX6_unite 3 = .ok (.iload 4, 2) := by decide +kernel
theorem dX6_unite_5 : decode cX6_unite 5 = .ok (.iload_n 1, 1) := by decide +kernel
theorem dX6_unite_6 : decode cX6_unite 6 = .ok (.if_icmp .ge 28, 3) := by decide +kernel
theorem dX6_unite_9 : decode cX6_unite 9 = .ok (.aload_n 0, 1) := by decide +kernel
theorem dX6_unite_10 : decode cX6_unite 10 = .ok (.getfield 18, 3) := by decide +kernel
theorem dX6_unite_13 : decode cX6_unite 13 = .ok (.iload 4, 2) := by decide +kernel
theorem dX6_unite_15 : decode cX6_unite 15 = .ok (.iaload, 1) := by decide +kernel
theorem dX6_unite_16 : decode cX6_unite 16 = .ok (.iload_n 2, 1) := by decide +kernel
theorem dX6_unite_17 : decode cX6_unite 17 = .ok (.if_icmp .ne 11, 3) := by decide +kernel
theorem dX6_unite_20 : decode cX6_unite 20 = .ok (.aload_n 0, 1) := by decide +kernel
theorem dX6_unite_21 : decode cX6_unite 21 = .ok (.getfield 18, 3) := by decide +kernel
theorem dX6_unite_24 : decode cX6_unite 24 = .ok (.iload 4, 2) := by decide +kernel
theorem dX6_unite_26 : decode cX6_unite 26 = .ok (.iload_n 3, 1) := by decide +kernel
theorem dX6_unite_27 : decode cX6_unite 27 = .ok (.iastore, 1) := by decide +kernel
theorem dX6_unite_28 : decode cX6_unite 28 = .ok (.iinc 4 1, 3) := by decide +kernel
theorem dX6_unite_31 : decode cX6_unite 31 = .ok (.goto (-28), 3) := by decide +kernel
theorem dX6_unite_34 : decode cX6_unite 34 = .ok (.return_, 1) := by decide +kernel
theorem dX7_init_0 : decode cX7_init 0 = .ok (.aload_n 0, 1) := by decide +kernel
theorem dX7_init_1 : decode cX7_init 1 = .ok (.invokespecial 3, 3) := by decide +kernel
theorem dX7_init_4 : decode cX7_init 4 = .ok (.aload_n 0, 1) := by decide +kernel
theorem dX7_init_5 : decode cX7_init 5 = .ok (.new 9, 3) := by decide +kernel
theorem dX7_init_8 : decode cX7_init 8 = .ok (.dup, 1) := by decide +kernel
theorem dX7_init_9 : decode cX7_init 9 = .ok (.invokespecial 11, 3) := by decide +kernel
theorem dX7_init_12 : decode cX7_init 12 = .ok (.putfield 12, 3) := by decide +kernel
theorem dX7_init_15 : decode cX7_init 15 = .ok (.aload_n 0, 1) := by decide +kernel
theorem dX7_init_16 : decode cX7_init 16 = .ok (.bipush 6, 2) := by decide +kernel
theorem dX7_init_18 : decode cX7_init 18 = .ok (.newarray .int, 2) := by decide +kernel
theorem dX7_init_20 : decode cX7_init 20 = .ok (.putfield 18, 3) := by decide +kernel
theorem dX7_init_23 : decode cX7_init 23 = .ok (.aload_n 0, 1) := by decide +kernel
theorem dX7_init_24 : decode cX7_init 24 = .ok (.bipush 6, 2) := by decide +kernel
theorem dX7_init_26 : decode cX7_init 26 = .ok (.newarray .int, 2) := by decide +kernel
theorem dX7_init_28 : decode cX7_init 28 = .ok (.putfield 22, 3) := by decide +kernel
theorem dX7_init_31 : decode cX7_init 31 = .ok (.return_, 1) := by decide +kernel
theorem dX7_aim_0 : decode cX7_aim 0 = .ok (.aload_n 1, 1) := by decide +kernel
theorem dX7_aim_1 : decode cX7_aim 1 = .ok (.iload_n 2, 1) := by decide +kernel
theorem dX7_aim_2 : decode cX7_aim 2 = .ok (.invokevirtual 25, 3) := by decide +kernel
theorem dX7_aim_5 : decode cX7_aim 5 = .ok (.ifCond .eq 11, 3) := by decide +kernel
theorem dX7_aim_8 : decode cX7_aim 8 = .ok (.aload_n 1, 1) := by decide +kernel
theorem dX7_aim_9 : decode cX7_aim 9 = .ok (.iload_n 3, 1) := by decide +kernel
theorem dX7_aim_10 : decode cX7_aim 10 = .ok (.invokevirtual 31, 3) := by decide +kernel
theorem dX7_aim_13 : decode cX7_aim 13 = .ok (.ifCond .ne 6, 3) := by decide +kernel
theorem dX7_aim_16 : decode cX7_aim 16 = .ok (.bipush (-11), 2) := by decide +kernel
theorem dX7_aim_18 : decode cX7_aim 18 = .ok (.ireturn, 1) := by decide +kernel
theorem dX7_aim_19 : decode cX7_aim 19 = .ok (.aload_n 1, 1) := by decide +kernel
theorem dX7_aim_20 : decode cX7_aim 20 = .ok (.getfield 34, 3) := by decide +kernel
theorem dX7_aim_23 : decode cX7_aim 23 = .ok (.iload_n 3, 1) := by decide +kernel
theorem dX7_aim_24 : decode cX7_aim 24 = .ok (.invokestatic 38, 3) := by decide +kernel
theorem dX7_aim_27 : decode cX7_aim 27 = .ok (.ifCond .ne 6, 3) := by decide +kernel
theorem dX7_aim_30 : decode cX7_aim 30 = .ok (.bipush (-12), 2) := by decide +kernel
theorem dX7_aim_32 : decode cX7_aim 32 = .ok (.ireturn, 1) := by decide +kernel
theorem dX7_aim_33 : decode cX7_aim 33 = .ok (.aload_n 1, 1) := by decide +kernel
theorem dX7_aim_34 : decode cX7_aim 34 = .ok (.getfield 42, 3) := by decide +kernel
theorem dX7_aim_37 : decode cX7_aim 37 = .ok (.iload_n 2, 1) := by decide +kernel
theorem dX7_aim_38 : decode cX7_aim 38 = .ok (.iaload, 1) := by decide +kernel
theorem dX7_aim_39 : decode cX7_aim 39 = .ok (.iload_n 3, 1) := by decide +kernel
theorem dX7_aim_40 : decode cX7_aim 40 = .ok (.if_icmp .ne 6, 3) := by decide +kernel
theorem dX7_aim_43 : decode cX7_aim 43 = .ok (.bipush (-14), 2) := by decide +kernel
theorem dX7_aim_45 : decode cX7_aim 45 = .ok (.ireturn, 1) := by decide +kernel
theorem dX7_aim_46 : decode cX7_aim 46 = .ok (.aload_n 0, 1) := by decide +kernel
theorem dX7_aim_47 : decode cX7_aim 47 = .ok (.getfield 12, 3) := by decide +kernel
theorem dX7_aim_50 : decode cX7_aim 50 = .ok (.aload_n 1, 1) := by decide +kernel
theorem dX7_aim_51 : decode cX7_aim 51 = .ok (.aload_n 1, 1) := by decide +kernel
theorem dX7_aim_52 : decode cX7_aim 52 = .ok (.getfield 42, 3) := by decide +kernel
theorem dX7_aim_55 : decode cX7_aim 55 = .ok (.iload_n 2, 1) := by decide +kernel
theorem dX7_aim_56 : decode cX7_aim 56 = .ok (.iaload, 1) := by decide +kernel
theorem dX7_aim_57 : decode cX7_aim 57 = .ok (.invokevirtual 45, 3) := by decide +kernel
theorem dX7_aim_60 : decode cX7_aim 60 = .ok (.aload_n 0, 1) := by decide +kernel
theorem dX7_aim_61 : decode cX7_aim 61 = .ok (.getfield 12, 3) := by decide +kernel
theorem dX7_aim_64 : decode cX7_aim 64 = .ok (.getfield 49, 3) := by decide +kernel
theorem dX7_aim_67 : decode cX7_aim 67 = .ok (.iload_n 3, 1) := by decide +kernel
theorem dX7_aim_68 : decode cX7_aim 68 = .ok (.iaload, 1) := by decide +kernel
theorem dX7_aim_69 : decode cX7_aim 69 = .ok (.istore 4, 2) := by decide +kernel
theorem dX7_aim_71 : decode cX7_aim 71 = .ok (.iload 4, 2) := by decide +kernel
theorem dX7_aim_73 : decode cX7_aim 73 = .ok (.sipush 1000, 3) := by decide +kernel
theorem dX7_aim_76 : decode cX7_aim 76 = .ok (.if_icmp .lt 6, 3) := by decide +kernel
theorem dX7_aim_79 : decode cX7_aim 79 = .ok (.bipush (-15), 2) := by decide +kernel
theorem dX7_aim_81 : decode cX7_aim 81 = .ok (.ireturn, 1) := by decide +kernel
theorem dX7_aim_82 : decode cX7_aim 82 = .ok (.aload_n 1, 1) := by decide +kernel
theorem dX7_aim_83 : decode cX7_aim 83 = .ok (.getfield 52, 3) := by decide +kernel
theorem dX7_aim_86 : decode cX7_aim 86 = .ok (.iload_n 2, 1) := by decide +kernel
theorem dX7_aim_87 : decode cX7_aim 87 = .ok (.iload_n 3, 1) := by decide +kernel
theorem dX7_aim_88 : decode cX7_aim 88 = .ok (.iastore, 1) := by decide +kernel
theorem dX7_aim_89 : decode cX7_aim 89 = .ok (.iload 4, 2) := by decide +kernel
theorem dX7_aim_91 : decode cX7_aim 91 = .ok (.ireturn, 1) := by decide +kernel
theorem dX7_letPass_0 : decode cX7_letPass 0 = .ok (.iload_n 2, 1) := by decide +kernel
theorem dX7_letPass_1 : decode cX7_letPass 1 = .ok (.iconst 1, 1) := by decide +kernel
theorem dX7_letPass_2 : decode cX7_letPass 2 = .ok (.if_icmp .lt 9, 3) := by decide +kernel
theorem dX7_letPass_5 : decode cX7_letPass 5 = .ok (.iload_n 2, 1) := by decide +kernel
theorem dX7_letPass_6 : decode cX7_letPass 6 = .ok (.bipush 50, 2) := by decide +kernel
theorem dX7_letPass_8 : decode cX7_letPass 8 = .ok (.if_icmp .le 6, 3) := by decide +kernel
theorem dX7_letPass_11 : decode cX7_letPass 11 = .ok (.bipush (-12), 2) := by decide +kernel
theorem dX7_letPass_13 : decode cX7_letPass 13 = .ok (.ireturn, 1) := by decide +kernel
theorem dX7_letPass_14 : decode cX7_letPass 14 = .ok (.aload_n 1, 1) := by decide +kernel
theorem dX7_letPass_15 : decode cX7_letPass 15 = .ok (.getfield 55, 3) := by decide +kernel
theorem dX7_letPass_18 : decode cX7_letPass 18 = .ok (.istore_n 3, 1) := by decide +kernel
theorem dX7_letPass_19 : decode cX7_letPass 19 = .ok (.iconst 0, 1) := by decide +kernel
theorem dX7_letPass_20 : decode cX7_letPass 20 = .ok (.istore 4, 2) := by decide +kernel
theorem dX7_letPass_22 : decode cX7_letPass 22 = .ok (.iload 4, 2) := by decide +kernel
theorem dX7_letPass_24 : decode cX7_letPass 24 = .ok (.iload_n 2, 1) := by decide +kernel
theorem dX7_letPass_25 : decode cX7_letPass 25 = .ok (.if_icmp .ge 48, 3) := by decide +kernel
theorem dX7_letPass_28 : decode cX7_letPass 28 = .ok (.iconst 0, 1) := by decide +kernel
theorem dX7_letPass_29 : decode cX7_letPass 29 = .ok (.istore 5, 2) := by decide +kernel
theorem dX7_letPass_31 : decode cX7_letPass 31 = .ok (.iload 5, 2) := by decide +kernel
theorem dX7_letPass_33 : decode cX7_letPass 33 = .ok (.aload_n 1, 1) := by decide +kernel
theorem dX7_letPass_34 : decode cX7_letPass 34 = .ok (.getfield 58, 3) := by decide +kernel
theorem dX7_letPass_37 : decode cX7_letPass 37 = .ok (.if_icmp .ge 20, 3) := by decide +kernel
theorem dX7_letPass_40 : decode cX7_letPass 40 = .ok (.aload_n 0, 1) := by decide +kernel
theorem dX7_letPass_41 : decode cX7_letPass 41 = .ok (.aload_n 1, 1) := by decide +kernel
theorem dX7_letPass_42 : decode cX7_letPass 42 = .ok (.aload_n 1, 1) := by decide +kernel
theorem dX7_letPass_43 : decode cX7_letPass 43 = .ok (.iload 5, 2) := by decide +kernel
theorem dX7_letPass_45 : decode cX7_letPass 45 = .ok (.invokevirtual 61, 3) := by decide +kernel
theorem dX7_letPass_48 : decode cX7_letPass 48 = .ok (.invokevirtual 65, 3) := by decide +kernel
theorem dX7_letPass_51 : decode cX7_letPass 51 = .ok (.iinc 5 1, 3) := by decide +kernel
theorem dX7_letPass_54 : decode cX7_letPass 54 = .ok (.goto (-23), 3) := by decide +kernel
theorem dX7_letPass_57 : decode cX7_letPass 57 = .ok (.aload_n 1, 1) := by decide +kernel
theorem dX7_letPass_58 : decode cX7_letPass 58 = .ok (.dup, 1) := by decide +kernel
theorem dX7_letPass_59 : decode cX7_letPass 59 = .ok (.getfield 68, 3) := by decide +kernel
theorem dX7_letPass_62 : decode cX7_letPass 62 = .ok (.iconst 1, 1) := by decide +kernel
theorem dX7_letPass_63 : decode cX7_letPass 63 = .ok (.iadd, 1) := by decide +kernel
theorem dX7_letPass_64 : decode cX7_letPass 64 = .ok (.putfield 68, 3) := by decide +kernel
theorem dX7_letPass_67 : decode cX7_letPass 67 = .ok (.iinc 4 1, 3) := by decide +kernel
theorem dX7_letPass_70 : decode cX7_letPass 70 = .ok (.goto (-48), 3) := by decide +kernel
theorem dX7_letPass_73 : decode cX7_letPass 73 = .ok (.aload_n 1, 1) := by decide +kernel
theorem dX7_letPass_74 : decode cX7_letPass 74 = .ok (.getfield 55, 3) := by decide +kernel
theorem dX7_letPass_77 : decode cX7_letPass 77 = .ok (.iload_n 3, 1) := by decide +kernel
theorem dX7_letPass_78 : decode cX7_letPass 78 = .ok (.isub, 1) := by decide +kernel
theorem dX7_letPass_79 : decode cX7_letPass 79 = .ok (.ireturn, 1) := by decide +kernel
theorem dX7_consider_0 : decode cX7_consider 0 = .ok (.aload_n 1, 1) := by decide +kernel
theorem dX7_consider_1 : decode cX7_consider 1 = .ok (.iload_n 2, 1) := by decide +kernel
theorem dX7_consider_2 : decode cX7_consider 2 = .ok (.invokevirtual 25, 3) := by decide +kernel
theorem dX7_consider_5 : decode cX7_consider 5 = .ok (.ifCond .eq 14, 3) := by decide +kernel
theorem dX7_consider_8 : decode cX7_consider 8 = .ok (.aload_n 1, 1) := by decide +kernel
theorem dX7_consider_9 : decode cX7_consider 9 = .ok (.getfield 71, 3) := by decide +kernel
theorem dX7_consider_12 : decode cX7_consider 12 = .ok (.iload_n 2, 1) := by decide +kernel
theorem dX7_consider_13 : decode cX7_consider 13 = .ok (.invokestatic 38, 3) := by decide +kernel
theorem dX7_consider_16 : decode cX7_consider 16 = .ok (.ifCond .eq 4, 3) := by decide +kernel
theorem dX7_consider_19 : decode cX7_consider 19 = .ok (.return_, 1) := by decide +kernel
theorem dX7_consider_20 : decode cX7_consider 20 = .ok (.aload_n 1, 1) := by decide +kernel
theorem dX7_consider_21 : decode cX7_consider 21 = .ok (.getfield 74, 3) := by decide +kernel
theorem dX7_consider_24 : decode cX7_consider 24 = .ok (.iload_n 2, 1) := by decide +kernel
theorem dX7_consider_25 : decode cX7_consider 25 = .ok (.iaload, 1) := by decide +kernel
theorem dX7_consider_26 : decode cX7_consider 26 = .ok (.ifCond .le 14, 3) := by decide +kernel
theorem dX7_consider_29 : decode cX7_consider 29 = .ok (.aload_n 1, 1) := by decide +kernel
theorem dX7_consider_30 : decode cX7_consider 30 = .ok (.getfield 74, 3) := by decide +kernel
theorem dX7_consider_33 : decode cX7_consider 33 = .ok (.iload_n 2, 1) := by decide +kernel
theorem dX7_consider_34 : decode cX7_consider 34 = .ok (.dup2, 1) := by decide +kernel
theorem dX7_consider_35 : decode cX7_consider 35 = .ok (.iaload, 1) := by decide +kernel
theorem dX7_consider_36 : decode cX7_consider 36 = .ok (.iconst 1, 1) := by decide +kernel
theorem dX7_consider_37 : decode cX7_consider 37 = .ok (.isub, 1) := by decide +kernel
theorem dX7_consider_38 : decode cX7_consider 38 = .ok (.iastore, 1) := by decide +kernel
theorem dX7_consider_39 : decode cX7_consider 39 = .ok (.return_, 1) := by decide +kernel
theorem dX7_consider_40 : decode cX7_consider 40 = .ok (.aload_n 0, 1) := by decide +kernel
theorem dX7_consider_41 : decode cX7_consider 41 = .ok (.getfield 12, 3) := by decide +kernel
theorem dX7_consider_44 : decode cX7_consider 44 = .ok (.aload_n 1, 1) := by decide +kernel
theorem dX7_consider_45 : decode cX7_consider 45 = .ok (.iload_n 2, 1) := by decide +kernel
theorem dX7_consider_46 : decode cX7_consider 46 = .ok (.invokevirtual 77, 3) := by decide +kernel
theorem dX7_consider_49 : decode cX7_consider 49 = .ok (.istore_n 3, 1) := by decide +kernel
theorem dX7_consider_50 : decode cX7_consider 50 = .ok (.iload_n 3, 1) := by decide +kernel
theorem dX7_consider_51 : decode cX7_consider 51 = .ok (.iconst (-1), 1) := by decide +kernel
theorem dX7_consider_52 : decode cX7_consider 52 = .ok (.if_icmp .ne 4, 3) := by decide +kernel
theorem dX7_consider_55 : decode cX7_consider 55 = .ok (.return_, 1) := by decide +kernel
theorem dX7_consider_56 : decode cX7_consider 56 = .ok (.aload_n 1, 1) := by decide +kernel
theorem dX7_consider_57 : decode cX7_consider 57 = .ok (.iload_n 2, 1) := by decide +kernel
theorem dX7_consider_58 : decode cX7_consider 58 = .ok (.iload_n 3, 1) := by decide +kernel
theorem dX7_consider_59 : decode cX7_consider 59 = .ok (.invokevirtual 81, 3) := by decide +kernel
theorem dX7_consider_62 : decode cX7_consider 62 = .ok (.ifCond .eq 12, 3) := by decide +kernel
theorem dX7_consider_65 : decode cX7_consider 65 = .ok (.aload_n 1, 1) := by decide +kernel
theorem dX7_consider_66 : decode cX7_consider 66 = .ok (.iload_n 2, 1) := by decide +kernel
theorem dX7_consider_67 : decode cX7_consider 67 = .ok (.iload_n 3, 1) := by decide +kernel
theorem dX7_consider_68 : decode cX7_consider 68 = .ok (.invokevirtual 84, 3) := by decide +kernel
theorem dX7_consider_71 : decode cX7_consider 71 = .ok (.goto 13, 3) := by decide +kernel
theorem dX7_consider_74 : decode cX7_consider 74 = .ok (.aload_n 1, 1) := by decide +kernel
theorem dX7_consider_75 : decode cX7_consider 75 = .ok (.getfield 88, 3) := by decide +kernel
theorem dX7_consider_78 : decode cX7_consider 78 = .ok (.iload_n 2, 1) := by decide +kernel
theorem dX7_consider_79 : decode cX7_consider 79 = .ok (.dup2, 1) := by decide +kernel
theorem dX7_consider_80 : decode cX7_consider 80 = .ok (.iaload, 1) := by decide +kernel
theorem dX7_consider_81 : decode cX7_consider 81 = .ok (.iconst 1, 1) := by decide +kernel
theorem dX7_consider_82 : decode cX7_consider 82 = .ok (.iadd, 1) := by decide +kernel
theorem dX7_consider_83 : decode cX7_consider 83 = .ok (.iastore, 1) := by decide +kernel
theorem dX7_consider_84 : decode cX7_consider 84 = .ok (.return_, 1) := by decide +kernel
theorem dX7_ticksToGoal_0 : decode cX7_ticksToGoal 0 = .ok (.iconst 1, 1) := by decide +kernel
theorem dX7_ticksToGoal_1 : decode cX7_ticksToGoal 1 = .ok (.istore_n 3, 1) := by decide +kernel
theorem dX7_ticksToGoal_2 : decode cX7_ticksToGoal 2 = .ok (.iload_n 3, 1) := by decide +kernel
theorem dX7_ticksToGoal_3 : decode cX7_ticksToGoal 3 = .ok (.bipush 99, 2) := by decide +kernel
theorem dX7_ticksToGoal_5 : decode cX7_ticksToGoal 5 = .ok (.if_icmp .gt 28, 3) := by decide +kernel
theorem dX7_ticksToGoal_8 : decode cX7_ticksToGoal 8 = .ok (.aload_n 0, 1) := by decide +kernel
theorem dX7_ticksToGoal_9 : decode cX7_ticksToGoal 9 = .ok (.aload_n 1, 1) := by decide +kernel
theorem dX7_ticksToGoal_10 : decode cX7_ticksToGoal 10 = .ok (.iconst 1, 1) := by decide +kernel
theorem dX7_ticksToGoal_11 : decode cX7_ticksToGoal 11 = .ok (.invokevirtual 91, 3) := by decide +kernel
theorem dX7_ticksToGoal_14 : decode cX7_ticksToGoal 14 = .ok (.pop, 1) := by decide +kernel
theorem dX7_ticksToGoal_15 : decode cX7_ticksToGoal 15 = .ok (.aload_n 1, 1) := by decide +kernel
theorem dX7_ticksToGoal_16 : decode cX7_ticksToGoal 16 = .ok (.getfield 52, 3) := by decide +kernel
theorem dX7_ticksToGoal_19 : decode cX7_ticksToGoal 19 = .ok (.iload_n 2, 1) := by decide +kernel
theorem dX7_ticksToGoal_20 : decode cX7_ticksToGoal 20 = .ok (.iaload, 1) := by decide +kernel
theorem dX7_ticksToGoal_21 : decode cX7_ticksToGoal 21 = .ok (.iconst (-1), 1) := by decide +kernel
theorem dX7_ticksToGoal_22 : decode cX7_ticksToGoal 22 = .ok (.if_icmp .ne 5, 3) := by decide +kernel
theorem dX7_ticksToGoal_25 : decode cX7_ticksToGoal 25 = .ok (.iload_n 3, 1) := by decide +kernel
theorem dX7_ticksToGoal_26 : decode cX7_ticksToGoal 26 = .ok (.ireturn, 1) := by decide +kernel
theorem dX7_ticksToGoal_27 : decode cX7_ticksToGoal 27 = .ok (.iinc 3 1, 3) := by decide +kernel
theorem dX7_ticksToGoal_30 : decode cX7_ticksToGoal 30 = .ok (.goto (-28), 3) := by decide +kernel
theorem dX7_ticksToGoal_33 : decode cX7_ticksToGoal 33 = .ok (.iconst (-1), 1) := by decide +kernel
theorem dX7_ticksToGoal_34 : decode cX7_ticksToGoal 34 = .ok (.ireturn, 1) := by decide +kernel
theorem dX7_blockerOf_0 : decode cX7_blockerOf 0 = .ok (.aload_n 1, 1) := by decide +kernel
theorem dX7_blockerOf_1 : decode cX7_blockerOf 1 = .ok (.getfield 71, 3) := by decide +kernel
theorem dX7_blockerOf_4 : decode cX7_blockerOf 4 = .ok (.iload_n 2, 1) := by decide +kernel
theorem dX7_blockerOf_5 : decode cX7_blockerOf 5 = .ok (.invokestatic 38, 3) := by decide +kernel
theorem dX7_blockerOf_8 : decode cX7_blockerOf 8 = .ok (.ifCond .eq 5, 3) := by decide +kernel
theorem dX7_blockerOf_11 : decode cX7_blockerOf 11 = .ok (.iconst (-1), 1) := by decide +kernel
theorem dX7_blockerOf_12 : decode cX7_blockerOf 12 = .ok (.ireturn, 1) := by decide +kernel
theorem dX7_blockerOf_13 : decode cX7_blockerOf 13 = .ok (.aload_n 0, 1) := by decide +kernel
theorem dX7_blockerOf_14 : decode cX7_blockerOf 14 = .ok (.getfield 12, 3) := by decide +kernel
theorem dX7_blockerOf_17 : decode cX7_blockerOf 17 = .ok (.aload_n 1, 1) := by decide +kernel
theorem dX7_blockerOf_18 : decode cX7_blockerOf 18 = .ok (.iload_n 2, 1) := by decide +kernel
theorem dX7_blockerOf_19 : decode cX7_blockerOf 19 = .ok (.invokevirtual 77, 3) := by decide +kernel
theorem dX7_blockerOf_22 : decode cX7_blockerOf 22 = .ok (.istore_n 3, 1) := by decide +kernel
theorem dX7_blockerOf_23 : decode cX7_blockerOf 23 = .ok (.iload_n 3, 1) := by decide +kernel
theorem dX7_blockerOf_24 : decode cX7_blockerOf 24 = .ok (.iconst (-1), 1) := by decide +kernel
theorem dX7_blockerOf_25 : decode cX7_blockerOf 25 = .ok (.if_icmp .ne 7, 3) := by decide +kernel
theorem dX7_blockerOf_28 : decode cX7_blockerOf 28 = .ok (.iconst (-1), 1) := by decide +kernel
theorem dX7_blockerOf_29 : decode cX7_blockerOf 29 = .ok (.goto 8, 3) := by decide +kernel
theorem dX7_blockerOf_32 : decode cX7_blockerOf 32 = .ok (.aload_n 1, 1) := by decide +kernel
theorem dX7_blockerOf_33 : decode cX7_blockerOf 33 = .ok (.iload_n 3, 1) := by decide +kernel
theorem dX7_blockerOf_34 : decode cX7_blockerOf 34 = .ok (.invokevirtual 94, 3) := by decide +kernel
theorem dX7_blockerOf_37 : decode cX7_blockerOf 37 = .ok (.ireturn, 1) := by decide +kernel
theorem dX7_stuckByFollowing_0 : decode cX7_stuckByFollowing 0 = .ok (.iconst 0, 1) := by decide +kernel
theorem dX7_stuckByFollowing_1 : decode cX7_stuckByFollowing 1 = .ok (.istore_n 2, 1) := by decide +kernel
theorem dX7_stuckByFollowing_2 : decode cX7_stuckByFollowing 2 = .ok (.iload_n 2, 1) := by decide +kernel
theorem dX7_stuckByFollowing_3 : decode cX7_stuckByFollowing 3 = .ok (.aload_n 1, 1) := by decide +kernel
theorem dX7_stuckByFollowing_4 : decode cX7_stuckByFollowing 4 = .ok (.getfield 58, 3) := by decide +kernel
theorem dX7_stuckByFollowing_7 : decode cX7_stuckByFollowing 7 = .ok (.if_icmp .ge 21, 3) := by decide +kernel
theorem dX7_stuckByFollowing_10 : decode cX7_stuckByFollowing 10 = .ok (.aload_n 0, 1) := by decide +kernel
theorem dX7_stuckByFollowing_11 : decode cX7_stuckByFollowing 11 = .ok (.getfield 18, 3) := by decide +kernel
theorem dX7_stuckByFollowing_14 : decode cX7_stuckByFollowing 14 = .ok (.iload_n 2, 1) := by decide +kernel
theorem dX7_stuckByFollowing_15 : decode cX7_stuckByFollowing 15 = .ok (.aload_n 0, 1) := by decide +kernel
theorem dX7_stuckByFollowing_16 : decode cX7_stuckByFollowing 16 = .ok (.aload_n 1, 1) := by decide +kernel
theorem dX7_stuckByFollowing_17 : decode cX7_stuckByFollowing 17 = .ok (.iload_n 2, 1) := by decide +kernel
theorem dX7_stuckByFollowing_18 : decode cX7_stuckByFollowing 18 = .ok (.invokevirtual 97, 3) := by decide +kernel
theorem dX7_stuckByFollowing_21 : decode cX7_stuckByFollowing 21 = .ok (.iastore, 1) := by decide +kernel
theorem dX7_stuckByFollowing_22 : decode cX7_stuckByFollowing 22 = .ok (.iinc 2 1, 3) := by decide +kernel
theorem dX7_stuckByFollowing_25 : decode cX7_stuckByFollowing 25 = .ok (.goto (-23), 3) := by decide +kernel
theorem dX7_stuckByFollowing_28 : decode cX7_stuckByFollowing 28 = .ok (.iconst 0, 1) := by decide +kernel
theorem dX7_stuckByFollowing_29 : decode cX7_stuckByFollowing 29 = .ok (.istore_n 2, 1) := by decide +kernel
theorem dX7_stuckByFollowing_30 : decode cX7_stuckByFollowing 30 = .ok (.iconst 0, 1) := by decide +kernel
theorem dX7_stuckByFollowing_31 : decode cX7_stuckByFollowing 31 = .ok (.istore_n 3, 1) := by decide +kernel
theorem dX7_stuckByFollowing_32 : decode cX7_stuckByFollowing 32 = .ok (.iload_n 3, 1) := by decide +kernel
theorem dX7_stuckByFollowing_33 : decode cX7_stuckByFollowing 33 = .ok (.aload_n 1, 1) := by decide +kernel
theorem dX7_stuckByFollowing_34 : decode cX7_stuckByFollowing 34 = .ok (.getfield 58, 3) := by decide +kernel
theorem dX7_stuckByFollowing_37 : decode cX7_stuckByFollowing 37 = .ok (.if_icmp .ge 24, 3) := by decide +kernel
theorem dX7_stuckByFollowing_40 : decode cX7_stuckByFollowing 40 = .ok (.aload_n 0, 1) := by decide +kernel
theorem dX7_stuckByFollowing_41 : decode cX7_stuckByFollowing 41 = .ok (.iload_n 3, 1) := by decide +kernel
theorem dX7_stuckByFollowing_42 : decode cX7_stuckByFollowing 42 = .ok (.aload_n 1, 1) := by decide +kernel
theorem dX7_stuckByFollowing_43 : decode cX7_stuckByFollowing 43 = .ok (.getfield 58, 3) := by decide +kernel
theorem dX7_stuckByFollowing_46 : decode cX7_stuckByFollowing 46 = .ok (.invokevirtual 100, 3) := by decide +kernel
theorem dX7_stuckByFollowing_49 : decode cX7_stuckByFollowing 49 = .ok (.ifCond .eq 6, 3) := by decide +kernel
theorem dX7_stuckByFollowing_52 : decode cX7_stuckByFollowing 52 = .ok (.iinc 2 1, 3) := by decide +kernel
theorem dX7_stuckByFollowing_55 : decode cX7_stuckByFollowing 55 = .ok (.iinc 3 1, 3) := by decide +kernel
theorem dX7_stuckByFollowing_58 : decode cX7_stuckByFollowing 58 = .ok (.goto (-26), 3) := by decide +kernel
theorem dX7_stuckByFollowing_61 : decode cX7_stuckByFollowing 61 = .ok (.iload_n 2, 1) := by decide +kernel
theorem dX7_stuckByFollowing_62 : decode cX7_stuckByFollowing 62 = .ok (.ireturn, 1) := by decide +kernel
theorem dX7_leadsBack_0 : decode cX7_leadsBack 0 = .ok (.iload_n 1, 1) := by decide +kernel
theorem dX7_leadsBack_1 : decode cX7_leadsBack 1 = .ok (.istore_n 3, 1) := by decide +kernel
theorem dX7_leadsBack_2 : decode cX7_leadsBack 2 = .ok (.iconst 0, 1) := by decide +kernel
theorem dX7_leadsBack_3 : decode cX7_leadsBack 3 = .ok (.istore 4, 2) := by decide +kernel
theorem dX7_leadsBack_5 : decode cX7_leadsBack 5 = .ok (.iload 4, 2) := by decide +kernel
theorem dX7_leadsBack_7 : decode cX7_leadsBack 7 = .ok (.iload_n 2, 1) := by decide +kernel
theorem dX7_leadsBack_8 : decode cX7_leadsBack 8 = .ok (.if_icmp .ge 30, 3) := by decide +kernel
theorem dX7_leadsBack_11 : decode cX7_leadsBack 11 = .ok (.aload_n 0, 1) := by decide +kernel
theorem dX7_leadsBack_12 : decode cX7_leadsBack 12 = .ok (.getfield 18, 3) := by decide +kernel
theorem dX7_leadsBack_15 : decode cX7_leadsBack 15 = .ok (.iload_n 3, 1) := by decide +kernel
theorem dX7_leadsBack_16 : decode cX7_leadsBack 16 = .ok (.iaload, 1) := by decide +kernel
theorem dX7_leadsBack_17 : decode cX7_leadsBack 17 = .ok (.istore_n 3, 1) := by decide +kernel
theorem dX7_leadsBack_18 : decode cX7_leadsBack 18 = .ok (.iload_n 3, 1) := by decide +kernel
theorem dX7_leadsBack_19 : decode cX7_leadsBack 19 = .ok (.iload_n 1, 1) := by decide +kernel
theorem dX7_leadsBack_20 : decode cX7_leadsBack 20 = .ok (.if_icmp .ne 5, 3) := by decide +kernel
theorem dX7_leadsBack_23 : decode cX7_leadsBack 23 = .ok (.iconst 1, 1) := by decide +kernel
theorem dX7_leadsBack_24 : decode cX7_leadsBack 24 = .ok (.ireturn, 1) := by decide +kernel
theorem dX7_leadsBack_25 : decode cX7_leadsBack 25 = .ok (.iload_n 3, 1) := by decide +kernel
theorem dX7_leadsBack_26 : decode cX7_leadsBack 26 = .ok (.iconst (-1), 1) := by decide +kernel
theorem dX7_leadsBack_27 : decode cX7_leadsBack 27 = .ok (.if_icmp .ne 5, 3) := by decide +kernel
theorem dX7_leadsBack_30 : decode cX7_leadsBack 30 = .ok (.iconst 0, 1) := by decide +kernel
theorem dX7_leadsBack_31 : decode cX7_leadsBack 31 = .ok (.ireturn, 1) := by decide +kernel
theorem dX7_leadsBack_32 : decode cX7_leadsBack 32 = .ok (.iinc 4 1, 3) := by decide +kernel
theorem dX7_leadsBack_35 : decode cX7_leadsBack 35 = .ok (.goto (-30), 3) := by decide +kernel
theorem dX7_leadsBack_38 : decode cX7_leadsBack 38 = .ok (.iconst 0, 1) := by decide +kernel
theorem dX7_leadsBack_39 : decode cX7_leadsBack 39 = .ok (.ireturn, 1) := by decide +kernel
theorem dX7_stuckByTable_0 : decode cX7_stuckByTable 0 = .ok (.iconst 0, 1) := by decide +kernel
theorem dX7_stuckByTable_1 : decode cX7_stuckByTable 1 = .ok (.istore_n 2, 1) := by decide +kernel
theorem dX7_stuckByTable_2 : decode cX7_stuckByTable 2 = .ok (.iload_n 2, 1) := by decide +kernel
theorem dX7_stuckByTable_3 : decode cX7_stuckByTable 3 = .ok (.aload_n 1, 1) := by decide +kernel
theorem dX7_stuckByTable_4 : decode cX7_stuckByTable 4 = .ok (.getfield 58, 3) := by decide +kernel
theorem dX7_stuckByTable_7 : decode cX7_stuckByTable 7 = .ok (.if_icmp .ge 34, 3) := by decide +kernel
theorem dX7_stuckByTable_10 : decode cX7_stuckByTable 10 = .ok (.aload_n 0, 1) := by decide +kernel
theorem dX7_stuckByTable_11 : decode cX7_stuckByTable 11 = .ok (.aload_n 1, 1) := by decide +kernel
theorem dX7_stuckByTable_12 : decode cX7_stuckByTable 12 = .ok (.iload_n 2, 1) := by decide +kernel
theorem dX7_stuckByTable_13 : decode cX7_stuckByTable 13 = .ok (.invokevirtual 97, 3) := by decide +kernel
theorem dX7_stuckByTable_16 : decode cX7_stuckByTable 16 = .ok (.istore_n 3, 1) := by decide +kernel
theorem dX7_stuckByTable_17 : decode cX7_stuckByTable 17 = .ok (.aload_n 0, 1) := by decide +kernel
theorem dX7_stuckByTable_18 : decode cX7_stuckByTable 18 = .ok (.getfield 22, 3) := by decide +kernel
theorem dX7_stuckByTable_21 : decode cX7_stuckByTable 21 = .ok (.iload_n 2, 1) := by decide +kernel
theorem dX7_stuckByTable_22 : decode cX7_stuckByTable 22 = .ok (.iload_n 3, 1) := by decide +kernel
theorem dX7_stuckByTable_23 : decode cX7_stuckByTable 23 = .ok (.iconst (-1), 1) := by decide +kernel
theorem dX7_stuckByTable_24 : decode cX7_stuckByTable 24 = .ok (.if_icmp .ne 7, 3) := by decide +kernel
theorem dX7_stuckByTable_27 : decode cX7_stuckByTable 27 = .ok (.iconst 0, 1) := by decide +kernel
theorem dX7_stuckByTable_28 : decode cX7_stuckByTable 28 = .ok (.goto 6, 3) := by decide +kernel
theorem dX7_stuckByTable_31 : decode cX7_stuckByTable 31 = .ok (.iconst 1, 1) := by decide +kernel
theorem dX7_stuckByTable_32 : decode cX7_stuckByTable 32 = .ok (.iload_n 3, 1) := by decide +kernel
theorem dX7_stuckByTable_33 : decode cX7_stuckByTable 33 = .ok (.ishl, 1) := by decide +kernel
theorem dX7_stuckByTable_34 : decode cX7_stuckByTable 34 = .ok (.iastore, 1) := by decide +kernel
theorem dX7_stuckByTable_35 : decode cX7_stuckByTable 35 = .ok (.iinc 2 1, 3) := by decide +kernel
theorem dX7_stuckByTable_38 : decode cX7_stuckByTable 38 = .ok (.goto (-36), 3) := by decide +kernel
theorem dX7_stuckByTable_41 : decode cX7_stuckByTable 41 = .ok (.iconst 0, 1) := by decide +kernel
theorem dX7_stuckByTable_42 : decode cX7_stuckByTable 42 = .ok (.istore_n 2, 1) := by decide +kernel
theorem dX7_stuckByTable_43 : decode cX7_stuckByTable 43 = .ok (.iload_n 2, 1) := by decide +kernel
theorem dX7_stuckByTable_44 : decode cX7_stuckByTable 44 = .ok (.aload_n 1, 1) := by decide +kernel
theorem dX7_stuckByTable_45 : decode cX7_stuckByTable 45 = .ok (.getfield 58, 3) := by decide +kernel
theorem dX7_stuckByTable_48 : decode cX7_stuckByTable 48 = .ok (.if_icmp .ge 53, 3) := by decide +kernel
theorem dX7_stuckByTable_51 : decode cX7_stuckByTable 51 = .ok (.iconst 0, 1) := by decide +kernel
theorem dX7_stuckByTable_52 : decode cX7_stuckByTable 52 = .ok (.istore_n 3, 1) := by decide +kernel
theorem dX7_stuckByTable_53 : decode cX7_stuckByTable 53 = .ok (.iload_n 3, 1) := by decide +kernel
theorem dX7_stuckByTable_54 : decode cX7_stuckByTable 54 = .ok (.aload_n 1, 1) := by decide +kernel
theorem dX7_stuckByTable_55 : decode cX7_stuckByTable 55 = .ok (.getfield 58, 3) := by decide +kernel
theorem dX7_stuckByTable_58 : decode cX7_stuckByTable 58 = .ok (.if_icmp .ge 37, 3) := by decide +kernel
theorem dX7_stuckByTable_61 : decode cX7_stuckByTable 61 = .ok (.aload_n 0, 1) := by decide +kernel
theorem dX7_stuckByTable_62 : decode cX7_stuckByTable 62 = .ok (.getfield 22, 3) := by decide +kernel
theorem dX7_stuckByTable_65 : decode cX7_stuckByTable 65 = .ok (.iload_n 3, 1) := by decide +kernel
theorem dX7_stuckByTable_66 : decode cX7_stuckByTable 66 = .ok (.iaload, 1) := by decide +kernel
theorem dX7_stuckByTable_67 : decode cX7_stuckByTable 67 = .ok (.iload_n 2, 1) := by decide +kernel
theorem dX7_stuckByTable_68 : decode cX7_stuckByTable 68 = .ok (.invokestatic 38, 3) := by decide +kernel
theorem dX7_stuckByTable_71 : decode cX7_stuckByTable 71 = .ok (.ifCond .eq 18, 3) := by decide +kernel
theorem dX7_stuckByTable_74 : decode cX7_stuckByTable 74 = .ok (.aload_n 0, 1) := by decide +kernel
theorem dX7_stuckByTable_75 : decode cX7_stuckByTable 75 = .ok (.getfield 22, 3) := by decide +kernel
theorem dX7_stuckByTable_78 : decode cX7_stuckByTable 78 = .ok (.iload_n 3, 1) := by decide +kernel
theorem dX7_stuckByTable_79 : decode cX7_stuckByTable 79 = .ok (.dup2, 1) := by decide +kernel
theorem dX7_stuckByTable_80 : decode cX7_stuckByTable 80 = .ok (.iaload, 1) := by decide +kernel
theorem dX7_stuckByTable_81 : decode cX7_stuckByTable 81 = .ok (.aload_n 0, 1) := by decide +kernel
theorem dX7_stuckByTable_82 : decode cX7_stuckByTable 82 = .ok (.getfield 22, 3) := by decide +kernel
theorem dX7_stuckByTable_85 : decode cX7_stuckByTable 85 = .ok (.iload_n 2, 1) := by decide +kernel
theorem dX7_stuckByTable_86 : decode cX7_stuckByTable 86 = .ok (.iaload, 1) := by decide +kernel
theorem dX7_stuckByTable_87 : decode cX7_stuckByTable 87 = .ok (.ior, 1) := by decide +kernel
theorem dX7_stuckByTable_88 : decode cX7_stuckByTable 88 = .ok (.iastore, 1) := by decide +kernel
theorem dX7_stuckByTable_89 : decode cX7_stuckByTable 89 = .ok (.iinc 3 1, 3) := by decide +kernel
theorem dX7_stuckByTable_92 : decode cX7_stuckByTable 92 = .ok (.goto (-39), 3) := by decide +kernel
theorem dX7_stuckByTable_95 : decode cX7_stuckByTable 95 = .ok (.iinc 2 1, 3) := by decide +kernel
theorem dX7_stuckByTable_98 : decode cX7_stuckByTable 98 = .ok (.goto (-55), 3) := by decide +kernel
theorem dX7_stuckByTable_101 : decode cX7_stuckByTable 101 = .ok (.iconst 0, 1) := by decide +kernel
theorem dX7_stuckByTable_102 : decode cX7_stuckByTable 102 = .ok (.istore_n 2, 1) := by decide +kernel
theorem dX7_stuckByTable_103 : decode cX7_stuckByTable 103 = .ok (.iconst 0, 1) := by decide +kernel
theorem dX7_stuckByTable_104 : decode cX7_stuckByTable 104 = .ok (.istore_n 3, 1) := by decide +kernel
theorem dX7_stuckByTable_105 : decode cX7_stuckByTable 105 = .ok (.iload_n 3, 1) := by decide +kernel
theorem dX7_stuckByTable_106 : decode cX7_stuckByTable 106 = .ok (.aload_n 1, 1) := by decide +kernel
theorem dX7_stuckByTable_107 : decode cX7_stuckByTable 107 = .ok (.getfield 58, 3) := by decide +kernel
theorem dX7_stuckByTable_110 : decode cX7_stuckByTable 110 = .ok (.if_icmp .ge 25, 3) := by decide +kernel
theorem dX7_stuckByTable_113 : decode cX7_stuckByTable 113 = .ok (.aload_n 0, 1) := by decide +kernel
theorem dX7_stuckByTable_114 : decode cX7_stuckByTable 114 = .ok (.getfield 22, 3) := by decide +kernel
theorem dX7_stuckByTable_117 : decode cX7_stuckByTable 117 = .ok (.iload_n 3, 1) := by decide +kernel
theorem dX7_stuckByTable_118 : decode cX7_stuckByTable 118 = .ok (.iaload, 1) := by decide +kernel
theorem dX7_stuckByTable_119 : decode cX7_stuckByTable 119 = .ok (.iload_n 3, 1) := by decide +kernel
theorem dX7_stuckByTable_120 : decode cX7_stuckByTable 120 = .ok (.invokestatic 38, 3) := by decide +kernel
theorem dX7_stuckByTable_123 : decode cX7_stuckByTable 123 = .ok (.ifCond .eq 6, 3) := by decide +kernel
theorem dX7_stuckByTable_126 : decode cX7_stuckByTable 126 = .ok (.iinc 2 1, 3) := by decide +kernel
theorem dX7_stuckByTable_129 : decode cX7_stuckByTable 129 = .ok (.iinc 3 1, 3) := by decide +kernel
theorem dX7_stuckByTable_132 : decode cX7_stuckByTable 132 = .ok (.goto (-27), 3) := by decide +kernel
theorem dX7_stuckByTable_135 : decode cX7_stuckByTable 135 = .ok (.iload_n 2, 1) := by decide +kernel
theorem dX7_stuckByTable_136 : decode cX7_stuckByTable 136 = .ok (.ireturn, 1) := by decide +kernel
theorem dX8_init_0 : decode cX8_init 0 = .ok (.aload_n 0, 1) := by decide +kernel
theorem dX8_init_1 : decode cX8_init 1 = .ok (.invokespecial 3, 3) := by decide +kernel
theorem dX8_init_4 : decode cX8_init 4 = .ok (.aload_n 0, 1) := by decide +kernel
theorem dX8_init_5 : decode cX8_init 5 = .ok (.new 9, 3) := by decide +kernel
theorem dX8_init_8 : decode cX8_init 8 = .ok (.dup, 1) := by decide +kernel
theorem dX8_init_9 : decode cX8_init 9 = .ok (.invokespecial 11, 3) := by decide +kernel
theorem dX8_init_12 : decode cX8_init 12 = .ok (.putfield 12, 3) := by decide +kernel
theorem dX8_init_15 : decode cX8_init 15 = .ok (.aload_n 0, 1) := by decide +kernel
theorem dX8_init_16 : decode cX8_init 16 = .ok (.new 9, 3) := by decide +kernel
theorem dX8_init_19 : decode cX8_init 19 = .ok (.dup, 1) := by decide +kernel
theorem dX8_init_20 : decode cX8_init 20 = .ok (.invokespecial 11, 3) := by decide +kernel
theorem dX8_init_23 : decode cX8_init 23 = .ok (.putfield 16, 3) := by decide +kernel
theorem dX8_init_26 : decode cX8_init 26 = .ok (.aload_n 0, 1) := by decide +kernel
theorem dX8_init_27 : decode cX8_init 27 = .ok (.new 9, 3) := by decide +kernel
theorem dX8_init_30 : decode cX8_init 30 = .ok (.dup, 1) := by decide +kernel
theorem dX8_init_31 : decode cX8_init 31 = .ok (.invokespecial 11, 3) := by decide +kernel
theorem dX8_init_34 : decode cX8_init 34 = .ok (.putfield 19, 3) := by decide +kernel
theorem dX8_init_37 : decode cX8_init 37 = .ok (.aload_n 0, 1) := by decide +kernel
theorem dX8_init_38 : decode cX8_init 38 = .ok (.new 22, 3) := by decide +kernel
theorem dX8_init_41 : decode cX8_init 41 = .ok (.dup, 1) := by decide +kernel
theorem dX8_init_42 : decode cX8_init 42 = .ok (.invokespecial 24, 3) := by decide +kernel
theorem dX8_init_45 : decode cX8_init 45 = .ok (.putfield 25, 3) := by decide +kernel
theorem dX8_init_48 : decode cX8_init 48 = .ok (.aload_n 0, 1) := by decide +kernel
theorem dX8_init_49 : decode cX8_init 49 = .ok (.new 29, 3) := by decide +kernel
theorem dX8_init_52 : decode cX8_init 52 = .ok (.dup, 1) := by decide +kernel
theorem dX8_init_53 : decode cX8_init 53 = .ok (.invokespecial 31, 3) := by decide +kernel
theorem dX8_init_56 : decode cX8_init 56 = .ok (.putfield 32, 3) := by decide +kernel
theorem dX8_init_59 : decode cX8_init 59 = .ok (.aload_n 0, 1) := by decide +kernel
theorem dX8_init_60 : decode cX8_init 60 = .ok (.new 36, 3) := by decide +kernel
theorem dX8_init_63 : decode cX8_init 63 = .ok (.dup, 1) := by decide +kernel
theorem dX8_init_64 : decode cX8_init 64 = .ok (.invokespecial 38, 3) := by decide +kernel
theorem dX8_init_67 : decode cX8_init 67 = .ok (.putfield 39, 3) := by decide +kernel
theorem dX8_init_70 : decode cX8_init 70 = .ok (.aload_n 0, 1) := by decide +kernel
theorem dX8_init_71 : decode cX8_init 71 = .ok (.new 43, 3) := by decide +kernel
theorem dX8_init_74 : decode cX8_init 74 = .ok (.dup, 1) := by decide +kernel
theorem dX8_init_75 : decode cX8_init 75 = .ok (.invokespecial 45, 3) := by decide +kernel
theorem dX8_init_78 : decode cX8_init 78 = .ok (.putfield 46, 3) := by decide +kernel
theorem dX8_init_81 : decode cX8_init 81 = .ok (.aload_n 0, 1) := by decide +kernel
theorem dX8_init_82 : decode cX8_init 82 = .ok (.new 50, 3) := by decide +kernel
theorem dX8_init_85 : decode cX8_init 85 = .ok (.dup, 1) := by decide +kernel
theorem dX8_init_86 : decode cX8_init 86 = .ok (.invokespecial 52, 3) := by decide +kernel
theorem dX8_init_89 : decode cX8_init 89 = .ok (.putfield 53, 3) := by decide +kernel
theorem dX8_init_92 : decode cX8_init 92 = .ok (.aload_n 0, 1) := by decide +kernel
theorem dX8_init_93 : decode cX8_init 93 = .ok (.iconst 0, 1) := by decide +kernel
theorem dX8_init_94 : decode cX8_init 94 = .ok (.putfield 57, 3) := by decide +kernel
theorem dX8_init_97 : decode cX8_init 97 = .ok (.aload_n 0, 1) := by decide +kernel
theorem dX8_init_98 : decode cX8_init 98 = .ok (.iconst (-1), 1) := by decide +kernel
theorem dX8_init_99 : decode cX8_init 99 = .ok (.putfield 61, 3) := by decide +kernel
theorem dX8_init_102 : decode cX8_init 102 = .ok (.aload_n 0, 1) := by decide +kernel
theorem dX8_init_103 : decode cX8_init 103 = .ok (.iconst (-1), 1) := by decide +kernel
theorem dX8_init_104 : decode cX8_init 104 = .ok (.putfield 65, 3) := by decide +kernel
theorem dX8_init_107 : decode cX8_init 107 = .ok (.return_, 1) := by decide +kernel
theorem dX8_addBlock_0 : decode cX8_addBlock 0 = .ok (.aload_n 0, 1) := by decide +kernel
theorem dX8_addBlock_1 : decode cX8_addBlock 1 = .ok (.getfield 25, 3) := by decide +kernel
theorem dX8_addBlock_4 : decode cX8_addBlock 4 = .ok (.aload_n 0, 1) := by decide +kernel
theorem dX8_addBlock_5 : decode cX8_addBlock 5 = .ok (.getfield 12, 3) := by decide +kernel
theorem dX8_addBlock_8 : decode cX8_addBlock 8 = .ok (.invokevirtual 68, 3) := by decide +kernel
theorem dX8_addBlock_11 : decode cX8_addBlock 11 = .ok (.aload_n 0, 1) := by decide +kernel
theorem dX8_addBlock_12 : decode cX8_addBlock 12 = .ok (.aload_n 0, 1) := by decide +kernel
theorem dX8_addBlock_13 : decode cX8_addBlock 13 = .ok (.getfield 12, 3) := by decide +kernel
theorem dX8_addBlock_16 : decode cX8_addBlock 16 = .ok (.iload_n 1, 1) := by decide +kernel
theorem dX8_addBlock_17 : decode cX8_addBlock 17 = .ok (.iconst 0, 1) := by decide +kernel
theorem dX8_addBlock_18 : decode cX8_addBlock 18 = .ok (.invokevirtual 72, 3) := by decide +kernel
theorem dX8_addBlock_21 : decode cX8_addBlock 21 = .ok (.invokevirtual 76, 3) := by decide +kernel
theorem dX8_addBlock_24 : decode cX8_addBlock 24 = .ok (.ireturn, 1) := by decide +kernel
theorem dX8_addCushion_0 : decode cX8_addCushion 0 = .ok (.aload_n 0, 1) := by decide +kernel
theorem dX8_addCushion_1 : decode cX8_addCushion 1 = .ok (.getfield 25, 3) := by decide +kernel
theorem dX8_addCushion_4 : decode cX8_addCushion 4 = .ok (.aload_n 0, 1) := by decide +kernel
theorem dX8_addCushion_5 : decode cX8_addCushion 5 = .ok (.getfield 12, 3) := by decide +kernel
theorem dX8_addCushion_8 : decode cX8_addCushion 8 = .ok (.invokevirtual 68, 3) := by decide +kernel
theorem dX8_addCushion_11 : decode cX8_addCushion 11 = .ok (.aload_n 0, 1) := by decide +kernel
theorem dX8_addCushion_12 : decode cX8_addCushion 12 = .ok (.aload_n 0, 1) := by decide +kernel
theorem dX8_addCushion_13 : decode cX8_addCushion 13 = .ok (.getfield 12, 3) := by decide +kernel
theorem dX8_addCushion_16 : decode cX8_addCushion 16 = .ok (.iload_n 1, 1) := by decide +kernel
theorem dX8_addCushion_17 : decode cX8_addCushion 17 = .ok (.iconst 1, 1) := by decide +kernel
theorem dX8_addCushion_18 : decode cX8_addCushion 18 = .ok (.invokevirtual 72, 3) := by decide +kernel
theorem dX8_addCushion_21 : decode cX8_addCushion 21 = .ok (.invokevirtual 76, 3) := by decide +kernel
theorem dX8_addCushion_24 : decode cX8_addCushion 24 = .ok (.ireturn, 1) := by decide +kernel
theorem dX8_link_0 : decode cX8_link 0 = .ok (.aload_n 0, 1) := by decide +kernel
theorem dX8_link_1 : decode cX8_link 1 = .ok (.getfield 25, 3) := by decide +kernel
theorem dX8_link_4 : decode cX8_link 4 = .ok (.aload_n 0, 1) := by decide +kernel
theorem dX8_link_5 : decode cX8_link 5 = .ok (.getfield 12, 3) := by decide +kernel
theorem dX8_link_8 : decode cX8_link 8 = .ok (.invokevirtual 68, 3) := by decide +kernel
theorem dX8_link_11 : decode cX8_link 11 = .ok (.aload_n 0, 1) := by decide +kernel
theorem dX8_link_12 : decode cX8_link 12 = .ok (.aload_n 0, 1) := by decide +kernel
theorem dX8_link_13 : decode cX8_link 13 = .ok (.getfield 12, 3) := by decide +kernel
theorem dX8_link_16 : decode cX8_link 16 = .ok (.iload_n 1, 1) := by decide +kernel
theorem dX8_link_17 : decode cX8_link 17 = .ok (.iload_n 2, 1) := by decide +kernel
theorem dX8_link_18 : decode cX8_link 18 = .ok (.invokevirtual 80, 3) := by decide +kernel
theorem dX8_link_21 : decode cX8_link 21 = .ok (.invokevirtual 76, 3) := by decide +kernel
theorem dX8_link_24 : decode cX8_link 24 = .ok (.ireturn, 1) := by decide +kernel
theorem dX8_unlink_0 : decode cX8_unlink 0 = .ok (.aload_n 0, 1) := by decide +kernel
theorem dX8_unlink_1 : decode cX8_unlink 1 = .ok (.getfield 25, 3) := by decide +kernel
theorem dX8_unlink_4 : decode cX8_unlink 4 = .ok (.aload_n 0, 1) := by decide +kernel
theorem dX8_unlink_5 : decode cX8_unlink 5 = .ok (.getfield 12, 3) := by decide +kernel
theorem dX8_unlink_8 : decode cX8_unlink 8 = .ok (.invokevirtual 68, 3) := by decide +kernel
theorem dX8_unlink_11 : decode cX8_unlink 11 = .ok (.aload_n 0, 1) := by decide +kernel
theorem dX8_unlink_12 : decode cX8_unlink 12 = .ok (.aload_n 0, 1) := by decide +kernel
theorem dX8_unlink_13 : decode cX8_unlink 13 = .ok (.getfield 12, 3) := by decide +kernel
theorem dX8_unlink_16 : decode cX8_unlink 16 = .ok (.iload_n 1, 1) := by decide +kernel
theorem dX8_unlink_17 : decode cX8_unlink 17 = .ok (.iload_n 2, 1) := by decide +kernel
theorem dX8_unlink_18 : decode cX8_unlink 18 = .ok (.invokevirtual 84, 3) := by decide +kernel
theorem dX8_unlink_21 : decode cX8_unlink 21 = .ok (.invokevirtual 76, 3) := by decide +kernel
theorem dX8_unlink_24 : decode cX8_unlink 24 = .ok (.ireturn, 1) := by decide +kernel
theorem dX8_putCat_0 : decode cX8_putCat 0 = .ok (.aload_n 0, 1) := by decide +kernel
theorem dX8_putCat_1 : decode cX8_putCat 1 = .ok (.getfield 25, 3) := by decide +kernel
theorem dX8_putCat_4 : decode cX8_putCat 4 = .ok (.aload_n 0, 1) := by decide +kernel
theorem dX8_putCat_5 : decode cX8_putCat 5 = .ok (.getfield 12, 3) := by decide +kernel
theorem dX8_putCat_8 : decode cX8_putCat 8 = .ok (.invokevirtual 68, 3) := by decide +kernel
theorem dX8_putCat_11 : decode cX8_putCat 11 = .ok (.aload_n 0, 1) := by decide +kernel
theorem dX8_putCat_12 : decode cX8_putCat 12 = .ok (.aload_n 0, 1) := by decide +kernel
theorem dX8_putCat_13 : decode cX8_putCat 13 = .ok (.getfield 12, 3) := by decide +kernel
theorem dX8_putCat_16 : decode cX8_putCat 16 = .ok (.iload_n 1, 1) := by decide +kernel
theorem dX8_putCat_17 : decode cX8_putCat 17 = .ok (.invokevirtual 87, 3) := by decide +kernel
theorem dX8_putCat_20 : decode cX8_putCat 20 = .ok (.invokevirtual 76, 3) := by decide +kernel
theorem dX8_putCat_23 : decode cX8_putCat 23 = .ok (.ireturn, 1) := by decide +kernel
theorem dX8_removeCat_0 : decode cX8_removeCat 0 = .ok (.aload_n 0, 1) := by decide +kernel
theorem dX8_removeCat_1 : decode cX8_removeCat 1 = .ok (.getfield 25, 3) := by decide +kernel
theorem dX8_removeCat_4 : decode cX8_removeCat 4 = .ok (.aload_n 0, 1) := by decide +kernel
theorem dX8_removeCat_5 : decode cX8_removeCat 5 = .ok (.getfield 12, 3) := by decide +kernel
theorem dX8_removeCat_8 : decode cX8_removeCat 8 = .ok (.invokevirtual 68, 3) := by decide +kernel
theorem dX8_removeCat_11 : decode cX8_removeCat 11 = .ok (.aload_n 0, 1) := by decide +kernel
theorem dX8_removeCat_12 : decode cX8_removeCat 12 = .ok (.aload_n 0, 1) := by decide +kernel
theorem dX8_removeCat_13 : decode cX8_removeCat 13 = .ok (.getfield 12, 3) := by decide +kernel
theorem dX8_removeCat_16 : decode cX8_removeCat 16 = .ok (.iload_n 1, 1) := by decide +kernel
theorem dX8_removeCat_17 : decode cX8_removeCat 17 = .ok (.invokevirtual 90, 3) := by decide +kernel
theorem dX8_removeCat_20 : decode cX8_removeCat 20 = .ok (.invokevirtual 76, 3) := by decide +kernel
theorem dX8_removeCat_23 : decode cX8_removeCat 23 = .ok (.ireturn, 1) := by decide +kernel
theorem dX8_blockCount_0 : decode cX8_blockCount 0 = .ok (.aload_n 0, 1) := by decide +kernel
theorem dX8_blockCount_1 : decode cX8_blockCount 1 = .ok (.getfield 12, 3) := by decide +kernel
theorem dX8_blockCount_4 : decode cX8_blockCount 4 = .ok (.getfield 93, 3) := by decide +kernel
theorem dX8_blockCount_7 : decode cX8_blockCount 7 = .ok (.ireturn, 1) := by decide +kernel
theorem dX8_length_0 : decode cX8_length 0 = .ok (.aload_n 0, 1) := by decide +kernel
theorem dX8_length_1 : decode cX8_length 1 = .ok (.iload_n 1, 1) := by decide +kernel
theorem dX8_length_2 : decode cX8_length 2 = .ok (.invokevirtual 96, 3) := by decide +kernel
theorem dX8_length_5 : decode cX8_length 5 = .ok (.aload_n 0, 1) := by decide +kernel
theorem dX8_length_6 : decode cX8_length 6 = .ok (.getfield 12, 3) := by decide +kernel
theorem dX8_length_9 : decode cX8_length 9 = .ok (.getfield 100, 3) := by decide +kernel
theorem dX8_length_12 : decode cX8_length 12 = .ok (.iload_n 1, 1) := by decide +kernel
theorem dX8_length_13 : decode cX8_length 13 = .ok (.iaload, 1) := by decide +kernel
theorem dX8_length_14 : decode cX8_length 14 = .ok (.ireturn, 1) := by decide +kernel
theorem dX8_isCushion_0 : decode cX8_isCushion 0 = .ok (.aload_n 0, 1) := by decide +kernel
theorem dX8_isCushion_1 : decode cX8_isCushion 1 = .ok (.iload_n 1, 1) := by decide +kernel
theorem dX8_isCushion_2 : decode cX8_isCushion 2 = .ok (.invokevirtual 96, 3) := by decide +kernel
theorem dX8_isCushion_5 : decode cX8_isCushion 5 = .ok (.aload_n 0, 1) := by decide +kernel
theorem dX8_isCushion_6 : decode cX8_isCushion 6 = .ok (.getfield 12, 3) := by decide +kernel
theorem dX8_isCushion_9 : decode cX8_isCushion 9 = .ok (.getfield 104, 3) := by decide +kernel
theorem dX8_isCushion_12 : decode cX8_isCushion 12 = .ok (.iload_n 1, 1) := by decide +kernel
theorem dX8_isCushion_13 : decode cX8_isCushion 13 = .ok (.invokestatic 107, 3) := by decide +kernel
theorem dX8_isCushion_16 : decode cX8_isCushion 16 = .ok (.ireturn, 1) := by decide +kernel
theorem dX8_hasCat_0 : decode cX8_hasCat 0 = .ok (.aload_n 0, 1) := by decide +kernel
theorem dX8_hasCat_1 : decode cX8_hasCat 1 = .ok (.iload_n 1, 1) := by decide +kernel
theorem dX8_hasCat_2 : decode cX8_hasCat 2 = .ok (.invokevirtual 96, 3) := by decide +kernel
theorem dX8_hasCat_5 : decode cX8_hasCat 5 = .ok (.aload_n 0, 1) := by decide +kernel
theorem dX8_hasCat_6 : decode cX8_hasCat 6 = .ok (.getfield 12, 3) := by decide +kernel
theorem dX8_hasCat_9 : decode cX8_hasCat 9 = .ok (.getfield 111, 3) := by decide +kernel
theorem dX8_hasCat_12 : decode cX8_hasCat 12 = .ok (.iload_n 1, 1) := by decide +kernel
theorem dX8_hasCat_13 : decode cX8_hasCat 13 = .ok (.invokestatic 107, 3) := by decide +kernel
theorem dX8_hasCat_16 : decode cX8_hasCat 16 = .ok (.ireturn, 1) := by decide +kernel
theorem dX8_areLinked_0 : decode cX8_areLinked 0 = .ok (.aload_n 0, 1) := by decide +kernel
theorem dX8_areLinked_1 : decode cX8_areLinked 1 = .ok (.iload_n 1, 1) := by decide +kernel
theorem dX8_areLinked_2 : decode cX8_areLinked 2 = .ok (.invokevirtual 96, 3) := by decide +kernel
theorem dX8_areLinked_5 : decode cX8_areLinked 5 = .ok (.aload_n 0, 1) := by decide +kernel
theorem dX8_areLinked_6 : decode cX8_areLinked 6 = .ok (.iload_n 2, 1) := by decide +kernel
theorem dX8_areLinked_7 : decode cX8_areLinked 7 = .ok (.invokevirtual 96, 3) := by decide +kernel
theorem dX8_areLinked_10 : decode cX8_areLinked 10 = .ok (.aload_n 0, 1) := by decide +kernel
theorem dX8_areLinked_11 : decode cX8_areLinked 11 = .ok (.getfield 12, 3) := by decide +kernel
theorem dX8_areLinked_14 : decode cX8_areLinked 14 = .ok (.iload_n 1, 1) := by decide +kernel
theorem dX8_areLinked_15 : decode cX8_areLinked 15 = .ok (.iload_n 2, 1) := by decide +kernel
theorem dX8_areLinked_16 : decode cX8_areLinked 16 = .ok (.invokevirtual 114, 3) := by decide +kernel
theorem dX8_areLinked_19 : decode cX8_areLinked 19 = .ok (.ireturn, 1) := by decide +kernel
theorem dX8_degree_0 : decode cX8_degree 0 = .ok (.aload_n 0, 1) := by decide +kernel
theorem dX8_degree_1 : decode cX8_degree 1 = .ok (.iload_n 1, 1) := by decide +kernel
theorem dX8_degree_2 : decode cX8_degree 2 = .ok (.invokevirtual 96, 3) := by decide +kernel
theorem dX8_degree_5 : decode cX8_degree 5 = .ok (.aload_n 0, 1) := by decide +kernel
theorem dX8_degree_6 : decode cX8_degree 6 = .ok (.getfield 12, 3) := by decide +kernel
theorem dX8_degree_9 : decode cX8_degree 9 = .ok (.getfield 117, 3) := by decide +kernel
theorem dX8_degree_12 : decode cX8_degree 12 = .ok (.iload_n 1, 1) := by decide +kernel
theorem dX8_degree_13 : decode cX8_degree 13 = .ok (.iaload, 1) := by decide +kernel
theorem dX8_degree_14 : decode cX8_degree 14 = .ok (.invokestatic 120, 3) := by decide +kernel
theorem dX8_degree_17 : decode cX8_degree 17 = .ok (.ireturn, 1) := by decide +kernel
theorem dX8_trainIn_0 : decode cX8_trainIn 0 = .ok (.aload_n 0, 1) := by decide +kernel
theorem dX8_trainIn_1 : decode cX8_trainIn 1 = .ok (.iload_n 1, 1) := by decide +kernel
theorem dX8_trainIn_2 : decode cX8_trainIn 2 = .ok (.invokevirtual 96, 3) := by decide +kernel
theorem dX8_trainIn_5 : decode cX8_trainIn 5 = .ok (.aload_n 0, 1) := by decide +kernel
theorem dX8_trainIn_6 : decode cX8_trainIn 6 = .ok (.getfield 12, 3) := by decide +kernel
theorem dX8_trainIn_9 : decode cX8_trainIn 9 = .ok (.iload_n 1, 1) := by decide +kernel
theorem dX8_trainIn_10 : decode cX8_trainIn 10 = .ok (.invokevirtual 125, 3) := by decide +kernel
theorem dX8_trainIn_13 : decode cX8_trainIn 13 = .ok (.invokestatic 128, 3) := by decide +kernel
theorem dX8_trainIn_16 : decode cX8_trainIn 16 = .ok (.ireturn, 1) := by decide +kernel
theorem dX8_reservedBy_0 : decode cX8_reservedBy 0 = .ok (.aload_n 0, 1) := by decide +kernel
theorem dX8_reservedBy_1 : decode cX8_reservedBy 1 = .ok (.iload_n 1, 1) := by decide +kernel
theorem dX8_reservedBy_2 : decode cX8_reservedBy 2 = .ok (.invokevirtual 96, 3) := by decide +kernel
theorem dX8_reservedBy_5 : decode cX8_reservedBy 5 = .ok (.aload_n 0, 1) := by decide +kernel
theorem dX8_reservedBy_6 : decode cX8_reservedBy 6 = .ok (.getfield 12, 3) := by decide +kernel
theorem dX8_reservedBy_9 : decode cX8_reservedBy 9 = .ok (.iload_n 1, 1) := by decide +kernel
theorem dX8_reservedBy_10 : decode cX8_reservedBy 10 = .ok (.invokevirtual 131, 3) := by decide +kernel
theorem dX8_reservedBy_13 : decode cX8_reservedBy 13 = .ok (.invokestatic 128, 3) := by decide +kernel
theorem dX8_reservedBy_16 : decode cX8_reservedBy 16 = .ok (.ireturn, 1) := by decide +kernel
theorem dX8_signal_0 : decode cX8_signal 0 = .ok (.aload_n 0, 1) := by decide +kernel
theorem dX8_signal_1 : decode cX8_signal 1 = .ok (.iload_n 1, 1) := by decide +kernel
theorem dX8_signal_2 : decode cX8_signal 2 = .ok (.invokevirtual 96, 3) := by decide +kernel
theorem dX8_signal_5 : decode cX8_signal 5 = .ok (.aload_n 0, 1) := by decide +kernel
theorem dX8_signal_6 : decode cX8_signal 6 = .ok (.getfield 12, 3) := by decide +kernel
theorem dX8_signal_9 : decode cX8_signal 9 = .ok (.iload_n 1, 1) := by decide +kernel
theorem dX8_signal_10 : decode cX8_signal 10 = .ok (.invokevirtual 134, 3) := by decide +kernel
theorem dX8_signal_13 : decode cX8_signal 13 = .ok (.ireturn, 1) := by decide +kernel
theorem dX8_distance_0 : decode cX8_distance 0 = .ok (.aload_n 0, 1) := by decide +kernel
theorem dX8_distance_1 : decode cX8_distance 1 = .ok (.iload_n 1, 1) := by decide +kernel
theorem dX8_distance_2 : decode cX8_distance 2 = .ok (.invokevirtual 96, 3) := by decide +kernel
theorem dX8_distance_5 : decode cX8_distance 5 = .ok (.aload_n 0, 1) := by decide +kernel
theorem dX8_distance_6 : decode cX8_distance 6 = .ok (.iload_n 2, 1) := by decide +kernel
theorem dX8_distance_7 : decode cX8_distance 7 = .ok (.invokevirtual 96, 3) := by decide +kernel
theorem dX8_distance_10 : decode cX8_distance 10 = .ok (.aload_n 0, 1) := by decide +kernel
theorem dX8_distance_11 : decode cX8_distance 11 = .ok (.getfield 32, 3) := by decide +kernel
theorem dX8_distance_14 : decode cX8_distance 14 = .ok (.aload_n 0, 1) := by decide +kernel
theorem dX8_distance_15 : decode cX8_distance 15 = .ok (.getfield 12, 3) := by decide +kernel
theorem dX8_distance_18 : decode cX8_distance 18 = .ok (.iload_n 1, 1) := by decide +kernel
theorem dX8_distance_19 : decode cX8_distance 19 = .ok (.invokevirtual 138, 3) := by decide +kernel
theorem dX8_distance_22 : decode cX8_distance 22 = .ok (.aload_n 0, 1) := by decide +kernel
theorem dX8_distance_23 : decode cX8_distance 23 = .ok (.getfield 32, 3) := by decide +kernel
theorem dX8_distance_26 : decode cX8_distance 26 = .ok (.getfield 142, 3) := by decide +kernel
theorem dX8_distance_29 : decode cX8_distance 29 = .ok (.iload_n 2, 1) := by decide +kernel
theorem dX8_distance_30 : decode cX8_distance 30 = .ok (.iaload, 1) := by decide +kernel
theorem dX8_distance_31 : decode cX8_distance 31 = .ok (.sipush 1000, 3) := by decide +kernel
theorem dX8_distance_34 : decode cX8_distance 34 = .ok (.if_icmp .ge 15, 3) := by decide +kernel
theorem dX8_distance_37 : decode cX8_distance 37 = .ok (.aload_n 0, 1) := by decide +kernel
theorem dX8_distance_38 : decode cX8_distance 38 = .ok (.getfield 32, 3) := by decide +kernel
theorem dX8_distance_41 : decode cX8_distance 41 = .ok (.getfield 142, 3) := by decide +kernel
theorem dX8_distance_44 : decode cX8_distance 44 = .ok (.iload_n 2, 1) := by decide +kernel
theorem dX8_distance_45 : decode cX8_distance 45 = .ok (.iaload, 1) := by decide +kernel
theorem dX8_distance_46 : decode cX8_distance 46 = .ok (.goto 4, 3) := by decide +kernel
theorem dX8_distance_49 : decode cX8_distance 49 = .ok (.iconst (-1), 1) := by decide +kernel
theorem dX8_distance_50 : decode cX8_distance 50 = .ok (.invokestatic 128, 3) := by decide +kernel
theorem dX8_distance_53 : decode cX8_distance 53 = .ok (.ireturn, 1) := by decide +kernel
theorem dX8_distanceByRounds_0 : decode cX8_distanceByRounds 0 = .ok (.aload_n 0, 1) := by decide +kernel
theorem dX8_distanceByRounds_1 : decode cX8_distanceByRounds 1 = .ok (.iload_n 1, 1) := by decide +kernel
theorem dX8_distanceByRounds_2 : decode cX8_distanceByRounds 2 = .ok (.invokevirtual 96, 3) := by decide +kernel
theorem dX8_distanceByRounds_5 : decode cX8_distanceByRounds 5 = .ok (.aload_n 0, 1) := by decide +kernel
theorem dX8_distanceByRounds_6 : decode cX8_distanceByRounds 6 = .ok (.iload_n 2, 1) := by decide +kernel
theorem dX8_distanceByRounds_7 : decode cX8_distanceByRounds 7 = .ok (.invokevirtual 96, 3) := by decide +kernel
theorem dX8_distanceByRounds_10 : decode cX8_distanceByRounds 10 = .ok (.aload_n 0, 1) := by decide +kernel
theorem dX8_distanceByRounds_11 : decode cX8_distanceByRounds 11 = .ok (.getfield 32, 3) := by decide +kernel
theorem dX8_distanceByRounds_14 : decode cX8_distanceByRounds 14 = .ok (.aload_n 0, 1) := by decide +kernel
theorem dX8_distanceByRounds_15 : decode cX8_distanceByRounds 15 = .ok (.getfield 12, 3) := by decide +kernel
theorem dX8_distanceByRounds_18 : decode cX8_distanceByRounds 18 = .ok (.iload_n 1, 1) := by decide +kernel
theorem dX8_distanceByRounds_19 : decode cX8_distanceByRounds 19 = .ok (.invokevirtual 145, 3) := by decide +kernel
theorem dX8_distanceByRounds_22 : decode cX8_distanceByRounds 22 = .ok (.aload_n 0, 1) := by decide +kernel
theorem dX8_distanceByRounds_23 : decode cX8_distanceByRounds 23 = .ok (.getfield 32, 3) := by decide +kernel
theorem dX8_distanceByRounds_26 : decode cX8_distanceByRounds 26 = .ok (.getfield 148, 3) := by decide +kernel
theorem dX8_distanceByRounds_29 : decode cX8_distanceByRounds 29 = .ok (.iload_n 2, 1) := by decide +kernel
theorem dX8_distanceByRounds_30 : decode cX8_distanceByRounds 30 = .ok (.iaload, 1) := by decide +kernel
theorem dX8_distanceByRounds_31 : decode cX8_distanceByRounds 31 = .ok (.sipush 1000, 3) := by decide +kernel
theorem dX8_distanceByRounds_34 : decode cX8_distanceByRounds 34 = .ok (.if_icmp .ge 15, 3) := by decide +kernel
theorem dX8_distanceByRounds_37 : decode cX8_distanceByRounds 37 = .ok (.aload_n 0, 1) := by decide +kernel
theorem dX8_distanceByRounds_38 : decode cX8_distanceByRounds 38 = .ok (.getfield 32, 3) := by decide +kernel
theorem dX8_distanceByRounds_41 : decode cX8_distanceByRounds 41 = .ok (.getfield 148, 3) := by decide +kernel
theorem dX8_distanceByRounds_44 : decode cX8_distanceByRounds 44 = .ok (.iload_n 2, 1) := by decide +kernel
theorem dX8_distanceByRounds_45 : decode cX8_distanceByRounds 45 = .ok (.iaload, 1) := by decide +kernel
theorem dX8_distanceByRounds_46 : decode cX8_distanceByRounds 46 = .ok (.goto 4, 3) := by decide +kernel
theorem dX8_distanceByRounds_49 : decode cX8_distanceByRounds 49 = .ok (.iconst (-1), 1) := by decide +kernel
theorem dX8_distanceByRounds_50 : decode cX8_distanceByRounds 50 = .ok (.invokestatic 128, 3) := by decide +kernel
theorem dX8_distanceByRounds_53 : decode cX8_distanceByRounds 53 = .ok (.ireturn, 1) := by decide +kernel
theorem dX8_nextBlock_0 : decode cX8_nextBlock 0 = .ok (.aload_n 0, 1) := by decide +kernel
theorem dX8_nextBlock_1 : decode cX8_nextBlock 1 = .ok (.iload_n 1, 1) := by decide +kernel
theorem dX8_nextBlock_2 : decode cX8_nextBlock 2 = .ok (.invokevirtual 151, 3) := by decide +kernel
theorem dX8_nextBlock_5 : decode cX8_nextBlock 5 = .ok (.aload_n 0, 1) := by decide +kernel
theorem dX8_nextBlock_6 : decode cX8_nextBlock 6 = .ok (.getfield 32, 3) := by decide +kernel
theorem dX8_nextBlock_9 : decode cX8_nextBlock 9 = .ok (.aload_n 0, 1) := by decide +kernel
theorem dX8_nextBlock_10 : decode cX8_nextBlock 10 = .ok (.getfield 12, 3) := by decide +kernel
theorem dX8_nextBlock_13 : decode cX8_nextBlock 13 = .ok (.iload_n 1, 1) := by decide +kernel
theorem dX8_nextBlock_14 : decode cX8_nextBlock 14 = .ok (.invokevirtual 154, 3) := by decide +kernel
theorem dX8_nextBlock_17 : decode cX8_nextBlock 17 = .ok (.invokestatic 128, 3) := by decide +kernel
theorem dX8_nextBlock_20 : decode cX8_nextBlock 20 = .ok (.ireturn, 1) := by decide +kernel
theorem dX8_partCount_0 : decode cX8_partCount 0 = .ok (.aload_n 0, 1) := by decide +kernel
theorem dX8_partCount_1 : decode cX8_partCount 1 = .ok (.getfield 32, 3) := by decide +kernel
theorem dX8_partCount_4 : decode cX8_partCount 4 = .ok (.aload_n 0, 1) := by decide +kernel
theorem dX8_partCount_5 : decode cX8_partCount 5 = .ok (.getfield 12, 3) := by decide +kernel
theorem dX8_partCount_8 : decode cX8_partCount 8 = .ok (.invokevirtual 158, 3) := by decide +kernel
theorem dX8_partCount_11 : decode cX8_partCount 11 = .ok (.ireturn, 1) := by decide +kernel
theorem dX8_partCountByUnions_0 : decode cX8_partCountByUnions 0 = .ok (.aload_n 0, 1) := by decide +kernel
theorem dX8_partCountByUnions_1 : decode cX8_partCountByUnions 1 = .ok (.getfield 32, 3) := by decide +kernel
theorem dX8_partCountByUnions_4 : decode cX8_partCountByUnions 4 = .ok (.aload_n 0, 1) := by decide +kernel
theorem dX8_partCountByUnions_5 : decode cX8_partCountByUnions 5 = .ok (.getfield 12, 3) := by decide +kernel
theorem dX8_partCountByUnions_8 : decode cX8_partCountByUnions 8 = .ok (.invokevirtual 162, 3) := by decide +kernel
theorem dX8_partCountByUnions_11 : decode cX8_partCountByUnions 11 = .ok (.ireturn, 1) := by decide +kernel
theorem dX8_nearestCushion_0 : decode cX8_nearestCushion 0 = .ok (.aload_n 0, 1) := by decide +kernel
theorem dX8_nearestCushion_1 : decode cX8_nearestCushion 1 = .ok (.iload_n 1, 1) := by decide +kernel
theorem dX8_nearestCushion_2 : decode cX8_nearestCushion 2 = .ok (.invokevirtual 96, 3) := by decide +kernel
theorem dX8_nearestCushion_5 : decode cX8_nearestCushion 5 = .ok (.aload_n 0, 1) := by decide +kernel
theorem dX8_nearestCushion_6 : decode cX8_nearestCushion 6 = .ok (.getfield 32, 3) := by decide +kernel
theorem dX8_nearestCushion_9 : decode cX8_nearestCushion 9 = .ok (.aload_n 0, 1) := by decide +kernel
theorem dX8_nearestCushion_10 : decode cX8_nearestCushion 10 = .ok (.getfield 12, 3) := by decide +kernel
theorem dX8_nearestCushion_13 : decode cX8_nearestCushion 13 = .ok (.iload_n 1, 1) := by decide +kernel
theorem dX8_nearestCushion_14 : decode cX8_nearestCushion 14 = .ok (.invokevirtual 165, 3) := by decide +kernel
theorem dX8_nearestCushion_17 : decode cX8_nearestCushion 17 = .ok (.invokestatic 128, 3) := by decide +kernel
theorem dX8_nearestCushion_20 : decode cX8_nearestCushion 20 = .ok (.ireturn, 1) := by decide +kernel
theorem dX8_addTrain_0 : decode cX8_addTrain 0 = .ok (.aload_n 0, 1) := by decide +kernel
theorem dX8_addTrain_1 : decode cX8_addTrain 1 = .ok (.getfield 25, 3) := by decide +kernel
theorem dX8_addTrain_4 : decode cX8_addTrain 4 = .ok (.aload_n 0, 1) := by decide +kernel
theorem dX8_addTrain_5 : decode cX8_addTrain 5 = .ok (.getfield 12, 3) := by decide +kernel
theorem dX8_addTrain_8 : decode cX8_addTrain 8 = .ok (.invokevirtual 68, 3) := by decide +kernel
theorem dX8_addTrain_11 : decode cX8_addTrain 11 = .ok (.aload_n 0, 1) := by decide +kernel
theorem dX8_addTrain_12 : decode cX8_addTrain 12 = .ok (.aload_n 0, 1) := by decide +kernel
theorem dX8_addTrain_13 : decode cX8_addTrain 13 = .ok (.getfield 12, 3) := by decide +kernel
theorem dX8_addTrain_16 : decode cX8_addTrain 16 = .ok (.iload_n 1, 1) := by decide +kernel
theorem dX8_addTrain_17 : decode cX8_addTrain 17 = .ok (.iload_n 2, 1) := by decide +kernel
theorem dX8_addTrain_18 : decode cX8_addTrain 18 = .ok (.invokevirtual 168, 3) := by decide +kernel
theorem dX8_addTrain_21 : decode cX8_addTrain 21 = .ok (.invokevirtual 76, 3) := by decide +kernel
theorem dX8_addTrain_24 : decode cX8_addTrain 24 = .ok (.ireturn, 1) := by decide +kernel
theorem dX8_setGoal_0 : decode cX8_setGoal 0 = .ok (.aload_n 0, 1) := by decide +kernel
theorem dX8_setGoal_1 : decode cX8_setGoal 1 = .ok (.getfield 25, 3) := by decide +kernel
theorem dX8_setGoal_4 : decode cX8_setGoal 4 = .ok (.aload_n 0, 1) := by decide +kernel
theorem dX8_setGoal_5 : decode cX8_setGoal 5 = .ok (.getfield 12, 3) := by decide +kernel
theorem dX8_setGoal_8 : decode cX8_setGoal 8 = .ok (.invokevirtual 68, 3) := by decide +kernel
theorem dX8_setGoal_11 : decode cX8_setGoal 11 = .ok (.aload_n 0, 1) := by decide +kernel
theorem dX8_setGoal_12 : decode cX8_setGoal 12 = .ok (.aload_n 0, 1) := by decide +kernel
theorem dX8_setGoal_13 : decode cX8_setGoal 13 = .ok (.getfield 39, 3) := by decide +kernel
theorem dX8_setGoal_16 : decode cX8_setGoal 16 = .ok (.aload_n 0, 1) := by decide +kernel
theorem dX8_setGoal_17 : decode cX8_setGoal 17 = .ok (.getfield 12, 3) := by decide +kernel
theorem dX8_setGoal_20 : decode cX8_setGoal 20 = .ok (.iload_n 1, 1) := by decide +kernel
theorem dX8_setGoal_21 : decode cX8_setGoal 21 = .ok (.iload_n 2, 1) := by decide +kernel
theorem dX8_setGoal_22 : decode cX8_setGoal 22 = .ok (.invokevirtual 171, 3) := by decide +kernel
theorem dX8_setGoal_25 : decode cX8_setGoal 25 = .ok (.invokevirtual 76, 3) := by decide +kernel
theorem dX8_setGoal_28 : decode cX8_setGoal 28 = .ok (.ireturn, 1) := by decide +kernel
theorem dX8_clearGoal_0 : decode cX8_clearGoal 0 = .ok (.aload_n 0, 1) := by decide +kernel
theorem dX8_clearGoal_1 : decode cX8_clearGoal 1 = .ok (.getfield 25, 3) := by decide +kernel
theorem dX8_clearGoal_4 : decode cX8_clearGoal 4 = .ok (.aload_n 0, 1) := by decide +kernel
theorem dX8_clearGoal_5 : decode cX8_clearGoal 5 = .ok (.getfield 12, 3) := by decide +kernel
theorem dX8_clearGoal_8 : decode cX8_clearGoal 8 = .ok (.invokevirtual 68, 3) := by decide +kernel
theorem dX8_clearGoal_11 : decode cX8_clearGoal 11 = .ok (.aload_n 0, 1) := by decide +kernel
theorem dX8_clearGoal_12 : decode cX8_clearGoal 12 = .ok (.aload_n 0, 1) := by decide +kernel
theorem dX8_clearGoal_13 : decode cX8_clearGoal 13 = .ok (.getfield 12, 3) := by decide +kernel
theorem dX8_clearGoal_16 : decode cX8_clearGoal 16 = .ok (.iload_n 1, 1) := by decide +kernel
theorem dX8_clearGoal_17 : decode cX8_clearGoal 17 = .ok (.invokevirtual 175, 3) := by decide +kernel
theorem dX8_clearGoal_20 : decode cX8_clearGoal 20 = .ok (.invokevirtual 76, 3) := by decide +kernel
theorem dX8_clearGoal_23 : decode cX8_clearGoal 23 = .ok (.ireturn, 1) := by decide +kernel
theorem dX8_reserve_0 : decode cX8_reserve 0 = .ok (.aload_n 0, 1) := by decide +kernel
theorem dX8_reserve_1 : decode cX8_reserve 1 = .ok (.getfield 25, 3) := by decide +kernel
theorem dX8_reserve_4 : decode cX8_reserve 4 = .ok (.aload_n 0, 1) := by decide +kernel
theorem dX8_reserve_5 : decode cX8_reserve 5 = .ok (.getfield 12, 3) := by decide +kernel
theorem dX8_reserve_8 : decode cX8_reserve 8 = .ok (.invokevirtual 68, 3) := by decide +kernel
theorem dX8_reserve_11 : decode cX8_reserve 11 = .ok (.aload_n 0, 1) := by decide +kernel
theorem dX8_reserve_12 : decode cX8_reserve 12 = .ok (.aload_n 0, 1) := by decide +kernel
theorem dX8_reserve_13 : decode cX8_reserve 13 = .ok (.getfield 12, 3) := by decide +kernel
theorem dX8_reserve_16 : decode cX8_reserve 16 = .ok (.iload_n 1, 1) := by decide +kernel
theorem dX8_reserve_17 : decode cX8_reserve 17 = .ok (.iload_n 2, 1) := by decide +kernel
theorem dX8_reserve_18 : decode cX8_reserve 18 = .ok (.invokevirtual 178, 3) := by decide +kernel
theorem dX8_reserve_21 : decode cX8_reserve 21 = .ok (.invokevirtual 76, 3) := by decide +kernel
theorem dX8_reserve_24 : decode cX8_reserve 24 = .ok (.ireturn, 1) := by decide +kernel
theorem dX8_cancelReservation_0 : decode cX8_cancelReservation 0 = .ok (.aload_n 0, 1) := by decide +kernel
theorem dX8_cancelReservation_1 : decode cX8_cancelReservation 1 = .ok (.getfield 25, 3) := by decide +kernel
theorem dX8_cancelReservation_4 : decode cX8_cancelReservation 4 = .ok (.aload_n 0, 1) := by decide +kernel
theorem dX8_cancelReservation_5 : decode cX8_cancelReservation 5 = .ok (.getfield 12, 3) := by decide +kernel
theorem dX8_cancelReservation_8 : decode cX8_cancelReservation 8 = .ok (.invokevirtual 68, 3) := by decide +kernel
theorem dX8_cancelReservation_11 : decode cX8_cancelReservation 11 = .ok (.aload_n 0, 1) := by decide +kernel
theorem dX8_cancelReservation_12 : decode cX8_cancelReservation 12 = .ok (.aload_n 0, 1) := by decide +kernel
theorem dX8_cancelReservation_13 : decode cX8_cancelReservation 13 = .ok (.getfield 12, 3) := by decide +kernel
theorem dX8_cancelReservation_16 : decode cX8_cancelReservation 16 = .ok (.iload_n 1, 1) := by decide +kernel
theorem dX8_cancelReservation_17 : decode cX8_cancelReservation 17 = .ok (.invokevirtual 181, 3) := by decide +kernel
theorem dX8_cancelReservation_20 : decode cX8_cancelReservation 20 = .ok (.invokevirtual 76, 3) := by decide +kernel
theorem dX8_cancelReservation_23 : decode cX8_cancelReservation 23 = .ok (.ireturn, 1) := by decide +kernel
theorem dX8_rescue_0 : decode cX8_rescue 0 = .ok (.aload_n 0, 1) := by decide +kernel
theorem dX8_rescue_1 : decode cX8_rescue 1 = .ok (.getfield 25, 3) := by decide +kernel
theorem dX8_rescue_4 : decode cX8_rescue 4 = .ok (.aload_n 0, 1) := by decide +kernel
theorem dX8_rescue_5 : decode cX8_rescue 5 = .ok (.getfield 12, 3) := by decide +kernel
theorem dX8_rescue_8 : decode cX8_rescue 8 = .ok (.invokevirtual 68, 3) := by decide +kernel
theorem dX8_rescue_11 : decode cX8_rescue 11 = .ok (.aload_n 0, 1) := by decide +kernel
theorem dX8_rescue_12 : decode cX8_rescue 12 = .ok (.aload_n 0, 1) := by decide +kernel
theorem dX8_rescue_13 : decode cX8_rescue 13 = .ok (.getfield 12, 3) := by decide +kernel
theorem dX8_rescue_16 : decode cX8_rescue 16 = .ok (.iload_n 1, 1) := by decide +kernel
theorem dX8_rescue_17 : decode cX8_rescue 17 = .ok (.invokevirtual 184, 3) := by decide +kernel
theorem dX8_rescue_20 : decode cX8_rescue 20 = .ok (.invokevirtual 76, 3) := by decide +kernel
theorem dX8_rescue_23 : decode cX8_rescue 23 = .ok (.ireturn, 1) := by decide +kernel
theorem dX8_trainCount_0 : decode cX8_trainCount 0 = .ok (.aload_n 0, 1) := by decide +kernel
theorem dX8_trainCount_1 : decode cX8_trainCount 1 = .ok (.getfield 12, 3) := by decide +kernel
theorem dX8_trainCount_4 : decode cX8_trainCount 4 = .ok (.getfield 187, 3) := by decide +kernel
theorem dX8_trainCount_7 : decode cX8_trainCount 7 = .ok (.ireturn, 1) := by decide +kernel
theorem dX8_blockOf_0 : decode cX8_blockOf 0 = .ok (.aload_n 0, 1) := by decide +kernel
theorem dX8_blockOf_1 : decode cX8_blockOf 1 = .ok (.iload_n 1, 1) := by decide +kernel
theorem dX8_blockOf_2 : decode cX8_blockOf 2 = .ok (.invokevirtual 151, 3) := by decide +kernel
theorem dX8_blockOf_5 : decode cX8_blockOf 5 = .ok (.aload_n 0, 1) := by decide +kernel
theorem dX8_blockOf_6 : decode cX8_blockOf 6 = .ok (.getfield 12, 3) := by decide +kernel
theorem dX8_blockOf_9 : decode cX8_blockOf 9 = .ok (.getfield 190, 3) := by decide +kernel
theorem dX8_blockOf_12 : decode cX8_blockOf 12 = .ok (.iload_n 1, 1) := by decide +kernel
theorem dX8_blockOf_13 : decode cX8_blockOf 13 = .ok (.iaload, 1) := by decide +kernel
theorem dX8_blockOf_14 : decode cX8_blockOf 14 = .ok (.ireturn, 1) := by decide +kernel
theorem dX8_priority_0 : decode cX8_priority 0 = .ok (.aload_n 0, 1) := by decide +kernel
theorem dX8_priority_1 : decode cX8_priority 1 = .ok (.iload_n 1, 1) := by decide +kernel
theorem dX8_priority_2 : decode cX8_priority 2 = .ok (.invokevirtual 151, 3) := by decide +kernel
theorem dX8_priority_5 : decode cX8_priority 5 = .ok (.aload_n 0, 1) := by decide +kernel
theorem dX8_priority_6 : decode cX8_priority 6 = .ok (.getfield 12, 3) := by decide +kernel
theorem dX8_priority_9 : decode cX8_priority 9 = .ok (.getfield 193, 3) := by decide +kernel
theorem dX8_priority_12 : decode cX8_priority 12 = .ok (.iload_n 1, 1) := by decide +kernel
theorem dX8_priority_13 : decode cX8_priority 13 = .ok (.iaload, 1) := by decide +kernel
theorem dX8_priority_14 : decode cX8_priority 14 = .ok (.ireturn, 1) := by decide +kernel
theorem dX8_remainingTicks_0 : decode cX8_remainingTicks 0 = .ok (.aload_n 0, 1) := by decide +kernel
theorem dX8_remainingTicks_1 : decode cX8_remainingTicks 1 = .ok (.iload_n 1, 1) := by decide +kernel
theorem dX8_remainingTicks_2 : decode cX8_remainingTicks 2 = .ok (.invokevirtual 151, 3) := by decide +kernel
theorem dX8_remainingTicks_5 : decode cX8_remainingTicks 5 = .ok (.aload_n 0, 1) := by decide +kernel
theorem dX8_remainingTicks_6 : decode cX8_remainingTicks 6 = .ok (.getfield 12, 3) := by decide +kernel
theorem dX8_remainingTicks_9 : decode cX8_remainingTicks 9 = .ok (.getfield 196, 3) := by decide +kernel
theorem dX8_remainingTicks_12 : decode cX8_remainingTicks 12 = .ok (.iload_n 1, 1) := by decide +kernel
theorem dX8_remainingTicks_13 : decode cX8_remainingTicks 13 = .ok (.iaload, 1) := by decide +kernel
theorem dX8_remainingTicks_14 : decode cX8_remainingTicks 14 = .ok (.ireturn, 1) := by decide +kernel
theorem dX8_goal_0 : decode cX8_goal 0 = .ok (.aload_n 0, 1) := by decide +kernel
theorem dX8_goal_1 : decode cX8_goal 1 = .ok (.iload_n 1, 1) := by decide +kernel
theorem dX8_goal_2 : decode cX8_goal 2 = .ok (.invokevirtual 151, 3) := by decide +kernel
theorem dX8_goal_5 : decode cX8_goal 5 = .ok (.aload_n 0, 1) := by decide +kernel
theorem dX8_goal_6 : decode cX8_goal 6 = .ok (.getfield 12, 3) := by decide +kernel
theorem dX8_goal_9 : decode cX8_goal 9 = .ok (.getfield 199, 3) := by decide +kernel
theorem dX8_goal_12 : decode cX8_goal 12 = .ok (.iload_n 1, 1) := by decide +kernel
theorem dX8_goal_13 : decode cX8_goal 13 = .ok (.iaload, 1) := by decide +kernel
theorem dX8_goal_14 : decode cX8_goal 14 = .ok (.invokestatic 128, 3) := by decide +kernel
theorem dX8_goal_17 : decode cX8_goal 17 = .ok (.ireturn, 1) := by decide +kernel
theorem dX8_isDerailed_0 : decode cX8_isDerailed 0 = .ok (.aload_n 0, 1) := by decide +kernel
theorem dX8_isDerailed_1 : decode cX8_isDerailed 1 = .ok (.iload_n 1, 1) := by decide +kernel
theorem dX8_isDerailed_2 : decode cX8_isDerailed 2 = .ok (.invokevirtual 151, 3) := by decide +kernel
theorem dX8_isDerailed_5 : decode cX8_isDerailed 5 = .ok (.aload_n 0, 1) := by decide +kernel
theorem dX8_isDerailed_6 : decode cX8_isDerailed 6 = .ok (.getfield 12, 3) := by decide +kernel
theorem dX8_isDerailed_9 : decode cX8_isDerailed 9 = .ok (.getfield 202, 3) := by decide +kernel
theorem dX8_isDerailed_12 : decode cX8_isDerailed 12 = .ok (.iload_n 1, 1) := by decide +kernel
theorem dX8_isDerailed_13 : decode cX8_isDerailed 13 = .ok (.invokestatic 107, 3) := by decide +kernel
theorem dX8_isDerailed_16 : decode cX8_isDerailed 16 = .ok (.ireturn, 1) := by decide +kernel
theorem dX8_waits_0 : decode cX8_waits 0 = .ok (.aload_n 0, 1) := by decide +kernel
theorem dX8_waits_1 : decode cX8_waits 1 = .ok (.iload_n 1, 1) := by decide +kernel
theorem dX8_waits_2 : decode cX8_waits 2 = .ok (.invokevirtual 151, 3) := by decide +kernel
theorem dX8_waits_5 : decode cX8_waits 5 = .ok (.aload_n 0, 1) := by decide +kernel
theorem dX8_waits_6 : decode cX8_waits 6 = .ok (.getfield 12, 3) := by decide +kernel
theorem dX8_waits_9 : decode cX8_waits 9 = .ok (.getfield 205, 3) := by decide +kernel
theorem dX8_waits_12 : decode cX8_waits 12 = .ok (.iload_n 1, 1) := by decide +kernel
theorem dX8_waits_13 : decode cX8_waits 13 = .ok (.iaload, 1) := by decide +kernel
theorem dX8_waits_14 : decode cX8_waits 14 = .ok (.ireturn, 1) := by decide +kernel
theorem dX8_trainByPriority_0 : decode cX8_trainByPriority 0 = .ok (.aload_n 0, 1) := by decide +kernel
theorem dX8_trainByPriority_1 : decode cX8_trainByPriority 1 = .ok (.getfield 12, 3) := by decide +kernel
theorem dX8_trainByPriority_4 : decode cX8_trainByPriority 4 = .ok (.iload_n 1, 1) := by decide +kernel
theorem dX8_trainByPriority_5 : decode cX8_trainByPriority 5 = .ok (.invokevirtual 208, 3) := by decide +kernel
theorem dX8_trainByPriority_8 : decode cX8_trainByPriority 8 = .ok (.invokestatic 128, 3) := by decide +kernel
theorem dX8_trainByPriority_11 : decode cX8_trainByPriority 11 = .ok (.ireturn, 1) := by decide +kernel
theorem dX8_blockedBy_0 : decode cX8_blockedBy 0 = .ok (.aload_n 0, 1) := by decide +kernel
theorem dX8_blockedBy_1 : decode cX8_blockedBy 1 = .ok (.iload_n 1, 1) := by decide +kernel
theorem dX8_blockedBy_2 : decode cX8_blockedBy 2 = .ok (.invokevirtual 151, 3) := by decide +kernel
theorem dX8_blockedBy_5 : decode cX8_blockedBy 5 = .ok (.aload_n 0, 1) := by decide +kernel
theorem dX8_blockedBy_6 : decode cX8_blockedBy 6 = .ok (.getfield 39, 3) := by decide +kernel
theorem dX8_blockedBy_9 : decode cX8_blockedBy 9 = .ok (.aload_n 0, 1) := by decide +kernel
theorem dX8_blockedBy_10 : decode cX8_blockedBy 10 = .ok (.getfield 12, 3) := by decide +kernel
theorem dX8_blockedBy_13 : decode cX8_blockedBy 13 = .ok (.iload_n 1, 1) := by decide +kernel
theorem dX8_blockedBy_14 : decode cX8_blockedBy 14 = .ok (.invokevirtual 211, 3) := by decide +kernel
theorem dX8_blockedBy_17 : decode cX8_blockedBy 17 = .ok (.invokestatic 128, 3) := by decide +kernel
theorem dX8_blockedBy_20 : decode cX8_blockedBy 20 = .ok (.ireturn, 1) := by decide +kernel
theorem dX8_deadlocked_0 : decode cX8_deadlocked 0 = .ok (.aload_n 0, 1) := by decide +kernel
theorem dX8_deadlocked_1 : decode cX8_deadlocked 1 = .ok (.getfield 39, 3) := by decide +kernel
theorem dX8_deadlocked_4 : decode cX8_deadlocked 4 = .ok (.aload_n 0, 1) := by decide +kernel
theorem dX8_deadlocked_5 : decode cX8_deadlocked 5 = .ok (.getfield 12, 3) := by decide +kernel
theorem dX8_deadlocked_8 : decode cX8_deadlocked 8 = .ok (.invokevirtual 214, 3) := by decide +kernel
theorem dX8_deadlocked_11 : decode cX8_deadlocked 11 = .ok (.ireturn, 1) := by decide +kernel
theorem dX8_deadlockedByTable_0 : decode cX8_deadlockedByTable 0 = .ok (.aload_n 0, 1) := by decide +kernel
theorem dX8_deadlockedByTable_1 : decode cX8_deadlockedByTable 1 = .ok (.getfield 39, 3) := by decide +kernel
theorem dX8_deadlockedByTable_4 : decode cX8_deadlockedByTable 4 = .ok (.aload_n 0, 1) := by decide +kernel
theorem dX8_deadlockedByTable_5 : decode cX8_deadlockedByTable 5 = .ok (.getfield 12, 3) := by decide +kernel
theorem dX8_deadlockedByTable_8 : decode cX8_deadlockedByTable 8 = .ok (.invokevirtual 217, 3) := by decide +kernel
theorem dX8_deadlockedByTable_11 : decode cX8_deadlockedByTable 11 = .ok (.ireturn, 1) := by decide +kernel
theorem dX8_passTicks_0 : decode cX8_passTicks 0 = .ok (.aload_n 0, 1) := by decide +kernel
theorem dX8_passTicks_1 : decode cX8_passTicks 1 = .ok (.getfield 25, 3) := by decide +kernel
theorem dX8_passTicks_4 : decode cX8_passTicks 4 = .ok (.aload_n 0, 1) := by decide +kernel
theorem dX8_passTicks_5 : decode cX8_passTicks 5 = .ok (.getfield 12, 3) := by decide +kernel
theorem dX8_passTicks_8 : decode cX8_passTicks 8 = .ok (.invokevirtual 68, 3) := by decide +kernel
theorem dX8_passTicks_11 : decode cX8_passTicks 11 = .ok (.aload_n 0, 1) := by decide +kernel
theorem dX8_passTicks_12 : decode cX8_passTicks 12 = .ok (.aload_n 0, 1) := by decide +kernel
theorem dX8_passTicks_13 : decode cX8_passTicks 13 = .ok (.getfield 39, 3) := by decide +kernel
theorem dX8_passTicks_16 : decode cX8_passTicks 16 = .ok (.aload_n 0, 1) := by decide +kernel
theorem dX8_passTicks_17 : decode cX8_passTicks 17 = .ok (.getfield 12, 3) := by decide +kernel
theorem dX8_passTicks_20 : decode cX8_passTicks 20 = .ok (.iload_n 1, 1) := by decide +kernel
theorem dX8_passTicks_21 : decode cX8_passTicks 21 = .ok (.invokevirtual 220, 3) := by decide +kernel
theorem dX8_passTicks_24 : decode cX8_passTicks 24 = .ok (.invokevirtual 76, 3) := by decide +kernel
theorem dX8_passTicks_27 : decode cX8_passTicks 27 = .ok (.ireturn, 1) := by decide +kernel
theorem dX8_ticks_0 : decode cX8_ticks 0 = .ok (.aload_n 0, 1) := by decide +kernel
theorem dX8_ticks_1 : decode cX8_ticks 1 = .ok (.getfield 12, 3) := by decide +kernel
theorem dX8_ticks_4 : decode cX8_ticks 4 = .ok (.getfield 223, 3) := by decide +kernel
theorem dX8_ticks_7 : decode cX8_ticks 7 = .ok (.ireturn, 1) := by decide +kernel
theorem dX8_arrivals_0 : decode cX8_arrivals 0 = .ok (.aload_n 0, 1) := by decide +kernel
theorem dX8_arrivals_1 : decode cX8_arrivals 1 = .ok (.getfield 12, 3) := by decide +kernel
theorem dX8_arrivals_4 : decode cX8_arrivals 4 = .ok (.getfield 226, 3) := by decide +kernel
theorem dX8_arrivals_7 : decode cX8_arrivals 7 = .ok (.ireturn, 1) := by decide +kernel
theorem dX8_ticksUntilArrival_0 : decode cX8_ticksUntilArrival 0 = .ok (.aload_n 0, 1) := by decide +kernel
theorem dX8_ticksUntilArrival_1 : decode cX8_ticksUntilArrival 1 = .ok (.iload_n 1, 1) := by decide +kernel
theorem dX8_ticksUntilArrival_2 : decode cX8_ticksUntilArrival 2 = .ok (.invokevirtual 151, 3) := by decide +kernel
theorem dX8_ticksUntilArrival_5 : decode cX8_ticksUntilArrival 5 = .ok (.aload_n 0, 1) := by decide +kernel
theorem dX8_ticksUntilArrival_6 : decode cX8_ticksUntilArrival 6 = .ok (.getfield 12, 3) := by decide +kernel
theorem dX8_ticksUntilArrival_9 : decode cX8_ticksUntilArrival 9 = .ok (.getfield 199, 3) := by decide +kernel
theorem dX8_ticksUntilArrival_12 : decode cX8_ticksUntilArrival 12 = .ok (.iload_n 1, 1) := by decide +kernel
theorem dX8_ticksUntilArrival_13 : decode cX8_ticksUntilArrival 13 = .ok (.iaload, 1) := by decide +kernel
theorem dX8_ticksUntilArrival_14 : decode cX8_ticksUntilArrival 14 = .ok (.iconst (-1), 1) := by decide +kernel
theorem dX8_ticksUntilArrival_15 : decode cX8_ticksUntilArrival 15 = .ok (.if_icmp .ne 13, 3) := by decide +kernel
theorem dX8_ticksUntilArrival_18 : decode cX8_ticksUntilArrival 18 = .ok (.new 229, 3) := by decide +kernel
theorem dX8_ticksUntilArrival_21 : decode cX8_ticksUntilArrival 21 = .ok (.dup, 1) := by decide +kernel
theorem dX8_ticksUntilArrival_22 : decode cX8_ticksUntilArrival 22 = .ok (.ldc 231, 2) := by decide +kernel
theorem dX8_ticksUntilArrival_24 : decode cX8_ticksUntilArrival 24 = .ok (.invokespecial 233, 3) := by decide +kernel
theorem dX8_ticksUntilArrival_27 : decode cX8_ticksUntilArrival 27 = .ok (.athrow, 1) := by decide +kernel
theorem dX8_ticksUntilArrival_28 : decode cX8_ticksUntilArrival 28 = .ok (.aload_n 0, 1) := by decide +kernel
theorem dX8_ticksUntilArrival_29 : decode cX8_ticksUntilArrival 29 = .ok (.getfield 19, 3) := by decide +kernel
theorem dX8_ticksUntilArrival_32 : decode cX8_ticksUntilArrival 32 = .ok (.aload_n 0, 1) := by decide +kernel
theorem dX8_ticksUntilArrival_33 : decode cX8_ticksUntilArrival 33 = .ok (.getfield 12, 3) := by decide +kernel
theorem dX8_ticksUntilArrival_36 : decode cX8_ticksUntilArrival 36 = .ok (.invokevirtual 236, 3) := by decide +kernel
theorem dX8_ticksUntilArrival_39 : decode cX8_ticksUntilArrival 39 = .ok (.aload_n 0, 1) := by decide +kernel
theorem dX8_ticksUntilArrival_40 : decode cX8_ticksUntilArrival 40 = .ok (.getfield 39, 3) := by decide +kernel
theorem dX8_ticksUntilArrival_43 : decode cX8_ticksUntilArrival 43 = .ok (.aload_n 0, 1) := by decide +kernel
theorem dX8_ticksUntilArrival_44 : decode cX8_ticksUntilArrival 44 = .ok (.getfield 19, 3) := by decide +kernel
theorem dX8_ticksUntilArrival_47 : decode cX8_ticksUntilArrival 47 = .ok (.iload_n 1, 1) := by decide +kernel
theorem dX8_ticksUntilArrival_48 : decode cX8_ticksUntilArrival 48 = .ok (.invokevirtual 239, 3) := by decide +kernel
theorem dX8_ticksUntilArrival_51 : decode cX8_ticksUntilArrival 51 = .ok (.invokestatic 128, 3) := by decide +kernel
theorem dX8_ticksUntilArrival_54 : decode cX8_ticksUntilArrival 54 = .ok (.ireturn, 1) := by decide +kernel
theorem dX8_meanWaits_0 : decode cX8_meanWaits 0 = .ok (.aload_n 0, 1) := by decide +kernel
theorem dX8_meanWaits_1 : decode cX8_meanWaits 1 = .ok (.getfield 12, 3) := by decide +kernel
theorem dX8_meanWaits_4 : decode cX8_meanWaits 4 = .ok (.getfield 187, 3) := by decide +kernel
theorem dX8_meanWaits_7 : decode cX8_meanWaits 7 = .ok (.ifCond .ne 13, 3) := by decide +kernel
theorem dX8_meanWaits_10 : decode cX8_meanWaits 10 = .ok (.new 242, 3) := by decide +kernel
theorem dX8_meanWaits_13 : decode cX8_meanWaits 13 = .ok (.dup, 1) := by decide +kernel
theorem dX8_meanWaits_14 : decode cX8_meanWaits 14 = .ok (.ldc 244, 2) := by decide +kernel
theorem dX8_meanWaits_16 : decode cX8_meanWaits 16 = .ok (.invokespecial 246, 3) := by decide +kernel
theorem dX8_meanWaits_19 : decode cX8_meanWaits 19 = .ok (.athrow, 1) := by decide +kernel
theorem dX8_meanWaits_20 : decode cX8_meanWaits 20 = .ok (.aload_n 0, 1) := by decide +kernel
theorem dX8_meanWaits_21 : decode cX8_meanWaits 21 = .ok (.getfield 12, 3) := by decide +kernel
theorem dX8_meanWaits_24 : decode cX8_meanWaits 24 = .ok (.invokevirtual 247, 3) := by decide +kernel
theorem dX8_meanWaits_27 : decode cX8_meanWaits 27 = .ok (.i2d, 1) := by decide +kernel
theorem dX8_meanWaits_28 : decode cX8_meanWaits 28 = .ok (.aload_n 0, 1) := by decide +kernel
theorem dX8_meanWaits_29 : decode cX8_meanWaits 29 = .ok (.getfield 12, 3) := by decide +kernel
theorem dX8_meanWaits_32 : decode cX8_meanWaits 32 = .ok (.getfield 187, 3) := by decide +kernel
theorem dX8_meanWaits_35 : decode cX8_meanWaits 35 = .ok (.i2d, 1) := by decide +kernel
theorem dX8_meanWaits_36 : decode cX8_meanWaits 36 = .ok (.ddiv, 1) := by decide +kernel
theorem dX8_meanWaits_37 : decode cX8_meanWaits 37 = .ok (.dreturn, 1) := by decide +kernel
theorem dX8_occupiedFraction_0 : decode cX8_occupiedFraction 0 = .ok (.aload_n 0, 1) := by decide +kernel
theorem dX8_occupiedFraction_1 : decode cX8_occupiedFraction 1 = .ok (.getfield 12, 3) := by decide +kernel
theorem dX8_occupiedFraction_4 : decode cX8_occupiedFraction 4 = .ok (.getfield 93, 3) := by decide +kernel
theorem dX8_occupiedFraction_7 : decode cX8_occupiedFraction 7 = .ok (.ifCond .ne 13, 3) := by decide +kernel
theorem dX8_occupiedFraction_10 : decode cX8_occupiedFraction 10 = .ok (.new 242, 3) := by decide +kernel
theorem dX8_occupiedFraction_13 : decode cX8_occupiedFraction 13 = .ok (.dup, 1) := by decide +kernel
theorem dX8_occupiedFraction_14 : decode cX8_occupiedFraction 14 = .ok (.ldc 251, 2) := by decide +kernel
theorem dX8_occupiedFraction_16 : decode cX8_occupiedFraction 16 = .ok (.invokespecial 246, 3) := by decide +kernel
theorem dX8_occupiedFraction_19 : decode cX8_occupiedFraction 19 = .ok (.athrow, 1) := by decide +kernel
theorem dX8_occupiedFraction_20 : decode cX8_occupiedFraction 20 = .ok (.aload_n 0, 1) := by decide +kernel
theorem dX8_occupiedFraction_21 : decode cX8_occupiedFraction 21 = .ok (.getfield 12, 3) := by decide +kernel
theorem dX8_occupiedFraction_24 : decode cX8_occupiedFraction 24 = .ok (.getfield 187, 3) := by decide +kernel
theorem dX8_occupiedFraction_27 : decode cX8_occupiedFraction 27 = .ok (.i2f, 1) := by decide +kernel
theorem dX8_occupiedFraction_28 : decode cX8_occupiedFraction 28 = .ok (.aload_n 0, 1) := by decide +kernel
theorem dX8_occupiedFraction_29 : decode cX8_occupiedFraction 29 = .ok (.getfield 12, 3) := by decide +kernel
theorem dX8_occupiedFraction_32 : decode cX8_occupiedFraction 32 = .ok (.getfield 93, 3) := by decide +kernel
theorem dX8_occupiedFraction_35 : decode cX8_occupiedFraction 35 = .ok (.i2f, 1) := by decide +kernel
theorem dX8_occupiedFraction_36 : decode cX8_occupiedFraction 36 = .ok (.fdiv, 1) := by decide +kernel
theorem dX8_occupiedFraction_37 : decode cX8_occupiedFraction 37 = .ok (.freturn, 1) := by decide +kernel
theorem dX8_writeTrain_0 : decode cX8_writeTrain 0 = .ok (.aload_n 0, 1) := by decide +kernel
theorem dX8_writeTrain_1 : decode cX8_writeTrain 1 = .ok (.iload_n 1, 1) := by decide +kernel
theorem dX8_writeTrain_2 : decode cX8_writeTrain 2 = .ok (.invokevirtual 151, 3) := by decide +kernel
theorem dX8_writeTrain_5 : decode cX8_writeTrain 5 = .ok (.aload_n 0, 1) := by decide +kernel
theorem dX8_writeTrain_6 : decode cX8_writeTrain 6 = .ok (.getfield 53, 3) := by decide +kernel
theorem dX8_writeTrain_9 : decode cX8_writeTrain 9 = .ok (.invokevirtual 253, 3) := by decide +kernel
theorem dX8_writeTrain_12 : decode cX8_writeTrain 12 = .ok (.aload_n 0, 1) := by decide +kernel
theorem dX8_writeTrain_13 : decode cX8_writeTrain 13 = .ok (.getfield 53, 3) := by decide +kernel
theorem dX8_writeTrain_16 : decode cX8_writeTrain 16 = .ok (.bipush 84, 2) := by decide +kernel
theorem dX8_writeTrain_18 : decode cX8_writeTrain 18 = .ok (.iload_n 1, 1) := by decide +kernel
theorem dX8_writeTrain_19 : decode cX8_writeTrain 19 = .ok (.invokevirtual 256, 3) := by decide +kernel
theorem dX8_writeTrain_22 : decode cX8_writeTrain 22 = .ok (.aload_n 0, 1) := by decide +kernel
theorem dX8_writeTrain_23 : decode cX8_writeTrain 23 = .ok (.getfield 53, 3) := by decide +kernel
theorem dX8_writeTrain_26 : decode cX8_writeTrain 26 = .ok (.bipush 64, 2) := by decide +kernel
theorem dX8_writeTrain_28 : decode cX8_writeTrain 28 = .ok (.aload_n 0, 1) := by decide +kernel
theorem dX8_writeTrain_29 : decode cX8_writeTrain 29 = .ok (.getfield 12, 3) := by decide +kernel
theorem dX8_writeTrain_32 : decode cX8_writeTrain 32 = .ok (.getfield 190, 3) := by decide +kernel
theorem dX8_writeTrain_35 : decode cX8_writeTrain 35 = .ok (.iload_n 1, 1) := by decide +kernel
theorem dX8_writeTrain_36 : decode cX8_writeTrain 36 = .ok (.iaload, 1) := by decide +kernel
theorem dX8_writeTrain_37 : decode cX8_writeTrain 37 = .ok (.invokevirtual 256, 3) := by decide +kernel
theorem dX8_writeTrain_40 : decode cX8_writeTrain 40 = .ok (.aload_n 0, 1) := by decide +kernel
theorem dX8_writeTrain_41 : decode cX8_writeTrain 41 = .ok (.getfield 12, 3) := by decide +kernel
theorem dX8_writeTrain_44 : decode cX8_writeTrain 44 = .ok (.getfield 196, 3) := by decide +kernel
theorem dX8_writeTrain_47 : decode cX8_writeTrain 47 = .ok (.iload_n 1, 1) := by decide +kernel
theorem dX8_writeTrain_48 : decode cX8_writeTrain 48 = .ok (.iaload, 1) := by decide +kernel
theorem dX8_writeTrain_49 : decode cX8_writeTrain 49 = .ok (.ifCond .le 21, 3) := by decide +kernel
theorem dX8_writeTrain_52 : decode cX8_writeTrain 52 = .ok (.aload_n 0, 1) := by decide +kernel
theorem dX8_writeTrain_53 : decode cX8_writeTrain 53 = .ok (.getfield 53, 3) := by decide +kernel
theorem dX8_writeTrain_56 : decode cX8_writeTrain 56 = .ok (.bipush 43, 2) := by decide +kernel
theorem dX8_writeTrain_58 : decode cX8_writeTrain 58 = .ok (.aload_n 0, 1) := by decide +kernel
theorem dX8_writeTrain_59 : decode cX8_writeTrain 59 = .ok (.getfield 12, 3) := by decide +kernel
theorem dX8_writeTrain_62 : decode cX8_writeTrain 62 = .ok (.getfield 196, 3) := by decide +kernel
theorem dX8_writeTrain_65 : decode cX8_writeTrain 65 = .ok (.iload_n 1, 1) := by decide +kernel
theorem dX8_writeTrain_66 : decode cX8_writeTrain 66 = .ok (.iaload, 1) := by decide +kernel
theorem dX8_writeTrain_67 : decode cX8_writeTrain 67 = .ok (.invokevirtual 256, 3) := by decide +kernel
theorem dX8_writeTrain_70 : decode cX8_writeTrain 70 = .ok (.aload_n 0, 1) := by decide +kernel
theorem dX8_writeTrain_71 : decode cX8_writeTrain 71 = .ok (.getfield 12, 3) := by decide +kernel
theorem dX8_writeTrain_74 : decode cX8_writeTrain 74 = .ok (.getfield 199, 3) := by decide +kernel
theorem dX8_writeTrain_77 : decode cX8_writeTrain 77 = .ok (.iload_n 1, 1) := by decide +kernel
theorem dX8_writeTrain_78 : decode cX8_writeTrain 78 = .ok (.iaload, 1) := by decide +kernel
theorem dX8_writeTrain_79 : decode cX8_writeTrain 79 = .ok (.iconst (-1), 1) := by decide +kernel
theorem dX8_writeTrain_80 : decode cX8_writeTrain 80 = .ok (.if_icmp .eq 21, 3) := by decide +kernel
theorem dX8_writeTrain_83 : decode cX8_writeTrain 83 = .ok (.aload_n 0, 1) := by decide +kernel
theorem dX8_writeTrain_84 : decode cX8_writeTrain 84 = .ok (.getfield 53, 3) := by decide +kernel
theorem dX8_writeTrain_87 : decode cX8_writeTrain 87 = .ok (.bipush 62, 2) := by decide +kernel
theorem dX8_writeTrain_89 : decode cX8_writeTrain 89 = .ok (.aload_n 0, 1) := by decide +kernel
theorem dX8_writeTrain_90 : decode cX8_writeTrain 90 = .ok (.getfield 12, 3) := by decide +kernel
theorem dX8_writeTrain_93 : decode cX8_writeTrain 93 = .ok (.getfield 199, 3) := by decide +kernel
theorem dX8_writeTrain_96 : decode cX8_writeTrain 96 = .ok (.iload_n 1, 1) := by decide +kernel
theorem dX8_writeTrain_97 : decode cX8_writeTrain 97 = .ok (.iaload, 1) := by decide +kernel
theorem dX8_writeTrain_98 : decode cX8_writeTrain 98 = .ok (.invokevirtual 256, 3) := by decide +kernel
theorem dX8_writeTrain_101 : decode cX8_writeTrain 101 = .ok (.aload_n 0, 1) := by decide +kernel
theorem dX8_writeTrain_102 : decode cX8_writeTrain 102 = .ok (.getfield 12, 3) := by decide +kernel
theorem dX8_writeTrain_105 : decode cX8_writeTrain 105 = .ok (.getfield 202, 3) := by decide +kernel
theorem dX8_writeTrain_108 : decode cX8_writeTrain 108 = .ok (.iload_n 1, 1) := by decide +kernel
theorem dX8_writeTrain_109 : decode cX8_writeTrain 109 = .ok (.invokestatic 107, 3) := by decide +kernel
theorem dX8_writeTrain_112 : decode cX8_writeTrain 112 = .ok (.ifCond .eq 12, 3) := by decide +kernel
theorem dX8_writeTrain_115 : decode cX8_writeTrain 115 = .ok (.aload_n 0, 1) := by decide +kernel
theorem dX8_writeTrain_116 : decode cX8_writeTrain 116 = .ok (.getfield 53, 3) := by decide +kernel
theorem dX8_writeTrain_119 : decode cX8_writeTrain 119 = .ok (.bipush 33, 2) := by decide +kernel
theorem dX8_writeTrain_121 : decode cX8_writeTrain 121 = .ok (.invokevirtual 260, 3) := by decide +kernel
theorem dX8_writeTrain_124 : decode cX8_writeTrain 124 = .ok (.aload_n 0, 1) := by decide +kernel
theorem dX8_writeTrain_125 : decode cX8_writeTrain 125 = .ok (.getfield 53, 3) := by decide +kernel
theorem dX8_writeTrain_128 : decode cX8_writeTrain 128 = .ok (.getfield 264, 3) := by decide +kernel
theorem dX8_writeTrain_131 : decode cX8_writeTrain 131 = .ok (.ireturn, 1) := by decide +kernel
theorem dX8_writeSignals_0 : decode cX8_writeSignals 0 = .ok (.aload_n 0, 1) := by decide +kernel
theorem dX8_writeSignals_1 : decode cX8_writeSignals 1 = .ok (.getfield 53, 3) := by decide +kernel
theorem dX8_writeSignals_4 : decode cX8_writeSignals 4 = .ok (.invokevirtual 253, 3) := by decide +kernel
theorem dX8_writeSignals_7 : decode cX8_writeSignals 7 = .ok (.iconst 0, 1) := by decide +kernel
theorem dX8_writeSignals_8 : decode cX8_writeSignals 8 = .ok (.istore_n 1, 1) := by decide +kernel
theorem dX8_writeSignals_9 : decode cX8_writeSignals 9 = .ok (.iload_n 1, 1) := by decide +kernel
theorem dX8_writeSignals_10 : decode cX8_writeSignals 10 = .ok (.aload_n 0, 1) := by decide +kernel
theorem dX8_writeSignals_11 : decode cX8_writeSignals 11 = .ok (.getfield 12, 3) := by decide +kernel
theorem dX8_writeSignals_14 : decode cX8_writeSignals 14 = .ok (.getfield 93, 3) := by decide +kernel
theorem dX8_writeSignals_17 : decode cX8_writeSignals 17 = .ok (.if_icmp .ge 24, 3) := by decide +kernel
theorem dX8_writeSignals_20 : decode cX8_writeSignals 20 = .ok (.aload_n 0, 1) := by decide +kernel
theorem dX8_writeSignals_21 : decode cX8_writeSignals 21 = .ok (.getfield 53, 3) := by decide +kernel
theorem dX8_writeSignals_24 : decode cX8_writeSignals 24 = .ok (.aload_n 0, 1) := by decide +kernel
theorem dX8_writeSignals_25 : decode cX8_writeSignals 25 = .ok (.getfield 12, 3) := by decide +kernel
theorem dX8_writeSignals_28 : decode cX8_writeSignals 28 = .ok (.iload_n 1, 1) := by decide +kernel
theorem dX8_writeSignals_29 : decode cX8_writeSignals 29 = .ok (.invokevirtual 134, 3) := by decide +kernel
theorem dX8_writeSignals_32 : decode cX8_writeSignals 32 = .ok (.invokevirtual 260, 3) := by decide +kernel
theorem dX8_writeSignals_35 : decode cX8_writeSignals 35 = .ok (.iinc 1 1, 3) := by decide +kernel
theorem dX8_writeSignals_38 : decode cX8_writeSignals 38 = .ok (.goto (-29), 3) := by decide +kernel
theorem dX8_writeSignals_41 : decode cX8_writeSignals 41 = .ok (.aload_n 0, 1) := by decide +kernel
theorem dX8_writeSignals_42 : decode cX8_writeSignals 42 = .ok (.getfield 53, 3) := by decide +kernel
theorem dX8_writeSignals_45 : decode cX8_writeSignals 45 = .ok (.getfield 264, 3) := by decide +kernel
theorem dX8_writeSignals_48 : decode cX8_writeSignals 48 = .ok (.ireturn, 1) := by decide +kernel
theorem dX8_outputCharacter_0 : decode cX8_outputCharacter 0 = .ok (.iload_n 1, 1) := by decide +kernel
theorem dX8_outputCharacter_1 : decode cX8_outputCharacter 1 = .ok (.ifCond .lt 14, 3) := by decide +kernel
theorem dX8_outputCharacter_4 : decode cX8_outputCharacter 4 = .ok (.iload_n 1, 1) := by decide +kernel
theorem dX8_outputCharacter_5 : decode cX8_outputCharacter 5 = .ok (.aload_n 0, 1) := by decide +kernel
theorem dX8_outputCharacter_6 : decode cX8_outputCharacter 6 = .ok (.getfield 53, 3) := by decide +kernel
theorem dX8_outputCharacter_9 : decode cX8_outputCharacter 9 = .ok (.getfield 264, 3) := by decide +kernel
theorem dX8_outputCharacter_12 : decode cX8_outputCharacter 12 = .ok (.if_icmp .lt 14, 3) := by decide +kernel
theorem dX8_outputCharacter_15 : decode cX8_outputCharacter 15 = .ok (.new 267, 3) := by decide +kernel
theorem dX8_outputCharacter_18 : decode cX8_outputCharacter 18 = .ok (.dup, 1) := by decide +kernel
theorem dX8_outputCharacter_19 : decode cX8_outputCharacter 19 = .ok (.ldc_w 269, 3) := by decide +kernel
theorem dX8_outputCharacter_22 : decode cX8_outputCharacter 22 = .ok (.invokespecial 271, 3) := by decide +kernel
theorem dX8_outputCharacter_25 : decode cX8_outputCharacter 25 = .ok (.athrow, 1) := by decide +kernel
theorem dX8_outputCharacter_26 : decode cX8_outputCharacter 26 = .ok (.aload_n 0, 1) := by decide +kernel
theorem dX8_outputCharacter_27 : decode cX8_outputCharacter 27 = .ok (.getfield 53, 3) := by decide +kernel
theorem dX8_outputCharacter_30 : decode cX8_outputCharacter 30 = .ok (.getfield 272, 3) := by decide +kernel
theorem dX8_outputCharacter_33 : decode cX8_outputCharacter 33 = .ok (.iload_n 1, 1) := by decide +kernel
theorem dX8_outputCharacter_34 : decode cX8_outputCharacter 34 = .ok (.caload, 1) := by decide +kernel
theorem dX8_outputCharacter_35 : decode cX8_outputCharacter 35 = .ok (.ireturn, 1) := by decide +kernel
theorem dX8_isConsistent_0 : decode cX8_isConsistent 0 = .ok (.aload_n 0, 1) := by decide +kernel
theorem dX8_isConsistent_1 : decode cX8_isConsistent 1 = .ok (.getfield 32, 3) := by decide +kernel
theorem dX8_isConsistent_4 : decode cX8_isConsistent 4 = .ok (.aload_n 0, 1) := by decide +kernel
theorem dX8_isConsistent_5 : decode cX8_isConsistent 5 = .ok (.getfield 12, 3) := by decide +kernel
theorem dX8_isConsistent_8 : decode cX8_isConsistent 8 = .ok (.invokevirtual 276, 3) := by decide +kernel
theorem dX8_isConsistent_11 : decode cX8_isConsistent 11 = .ok (.ifCond .eq 57, 3) := by decide +kernel
theorem dX8_isConsistent_14 : decode cX8_isConsistent 14 = .ok (.aload_n 0, 1) := by decide +kernel
theorem dX8_isConsistent_15 : decode cX8_isConsistent 15 = .ok (.getfield 32, 3) := by decide +kernel
theorem dX8_isConsistent_18 : decode cX8_isConsistent 18 = .ok (.aload_n 0, 1) := by decide +kernel
theorem dX8_isConsistent_19 : decode cX8_isConsistent 19 = .ok (.getfield 12, 3) := by decide +kernel
theorem dX8_isConsistent_22 : decode cX8_isConsistent 22 = .ok (.invokevirtual 158, 3) := by decide +kernel
theorem dX8_isConsistent_25 : decode cX8_isConsistent 25 = .ok (.aload_n 0, 1) := by decide +kernel
theorem dX8_isConsistent_26 : decode cX8_isConsistent 26 = .ok (.getfield 32, 3) := by decide +kernel
theorem dX8_isConsistent_29 : decode cX8_isConsistent 29 = .ok (.aload_n 0, 1) := by decide +kernel
theorem dX8_isConsistent_30 : decode cX8_isConsistent 30 = .ok (.getfield 12, 3) := by decide +kernel
theorem dX8_isConsistent_33 : decode cX8_isConsistent 33 = .ok (.invokevirtual 162, 3) := by decide +kernel
theorem dX8_isConsistent_36 : decode cX8_isConsistent 36 = .ok (.if_icmp .ne 32, 3) := by decide +kernel
theorem dX8_isConsistent_39 : decode cX8_isConsistent 39 = .ok (.aload_n 0, 1) := by decide +kernel
theorem dX8_isConsistent_40 : decode cX8_isConsistent 40 = .ok (.getfield 39, 3) := by decide +kernel
theorem dX8_isConsistent_43 : decode cX8_isConsistent 43 = .ok (.aload_n 0, 1) := by decide +kernel
theorem dX8_isConsistent_44 : decode cX8_isConsistent 44 = .ok (.getfield 12, 3) := by decide +kernel
theorem dX8_isConsistent_47 : decode cX8_isConsistent 47 = .ok (.invokevirtual 214, 3) := by decide +kernel
theorem dX8_isConsistent_50 : decode cX8_isConsistent 50 = .ok (.aload_n 0, 1) := by decide +kernel
theorem dX8_isConsistent_51 : decode cX8_isConsistent 51 = .ok (.getfield 39, 3) := by decide +kernel
theorem dX8_isConsistent_54 : decode cX8_isConsistent 54 = .ok (.aload_n 0, 1) := by decide +kernel
theorem dX8_isConsistent_55 : decode cX8_isConsistent 55 = .ok (.getfield 12, 3) := by decide +kernel
theorem dX8_isConsistent_58 : decode cX8_isConsistent 58 = .ok (.invokevirtual 217, 3) := by decide +kernel
theorem dX8_isConsistent_61 : decode cX8_isConsistent 61 = .ok (.if_icmp .ne 7, 3) := by decide +kernel
theorem dX8_isConsistent_64 : decode cX8_isConsistent 64 = .ok (.iconst 1, 1) := by decide +kernel
theorem dX8_isConsistent_65 : decode cX8_isConsistent 65 = .ok (.goto 4, 3) := by decide +kernel
theorem dX8_isConsistent_68 : decode cX8_isConsistent 68 = .ok (.iconst 0, 1) := by decide +kernel
theorem dX8_isConsistent_69 : decode cX8_isConsistent 69 = .ok (.ireturn, 1) := by decide +kernel
theorem dX8_feed_0 : decode cX8_feed 0 = .ok (.aload_n 0, 1) := by decide +kernel
theorem dX8_feed_1 : decode cX8_feed 1 = .ok (.getfield 46, 3) := by decide +kernel
theorem dX8_feed_4 : decode cX8_feed 4 = .ok (.iload_n 1, 1) := by decide +kernel
theorem dX8_feed_5 : decode cX8_feed 5 = .ok (.invokevirtual 280, 3) := by decide +kernel
theorem dX8_feed_8 : decode cX8_feed 8 = .ok (.ifCond .ne 14, 3) := by decide +kernel
theorem dX8_feed_11 : decode cX8_feed 11 = .ok (.new 284, 3) := by decide +kernel
theorem dX8_feed_14 : decode cX8_feed 14 = .ok (.dup, 1) := by decide +kernel
theorem dX8_feed_15 : decode cX8_feed 15 = .ok (.ldc_w 286, 3) := by decide +kernel
theorem dX8_feed_18 : decode cX8_feed 18 = .ok (.invokespecial 288, 3) := by decide +kernel
theorem dX8_feed_21 : decode cX8_feed 21 = .ok (.athrow, 1) := by decide +kernel
theorem dX8_feed_22 : decode cX8_feed 22 = .ok (.aload_n 0, 1) := by decide +kernel
theorem dX8_feed_23 : decode cX8_feed 23 = .ok (.getfield 46, 3) := by decide +kernel
theorem dX8_feed_26 : decode cX8_feed 26 = .ok (.getfield 289, 3) := by decide +kernel
theorem dX8_feed_29 : decode cX8_feed 29 = .ok (.ireturn, 1) := by decide +kernel
theorem dX8_execute_0 : decode cX8_execute 0 = .ok (.aload_n 0, 1) := by decide +kernel
theorem dX8_execute_1 : decode cX8_execute 1 = .ok (.getfield 46, 3) := by decide +kernel
theorem dX8_execute_4 : decode cX8_execute 4 = .ok (.invokevirtual 290, 3) := by decide +kernel
theorem dX8_execute_7 : decode cX8_execute 7 = .ok (.istore_n 1, 1) := by decide +kernel
theorem dX8_execute_8 : decode cX8_execute 8 = .ok (.iload_n 1, 1) := by decide +kernel
theorem dX8_execute_9 : decode cX8_execute 9 = .ok (.iconst (-1), 1) := by decide +kernel
theorem dX8_execute_10 : decode cX8_execute 10 = .ok (.if_icmp .eq 26, 3) := by decide +kernel
theorem dX8_execute_13 : decode cX8_execute 13 = .ok (.aload_n 0, 1) := by decide +kernel
theorem dX8_execute_14 : decode cX8_execute 14 = .ok (.iload_n 1, 1) := by decide +kernel
theorem dX8_execute_15 : decode cX8_execute 15 = .ok (.putfield 61, 3) := by decide +kernel
theorem dX8_execute_18 : decode cX8_execute 18 = .ok (.aload_n 0, 1) := by decide +kernel
theorem dX8_execute_19 : decode cX8_execute 19 = .ok (.getfield 46, 3) := by decide +kernel
theorem dX8_execute_22 : decode cX8_execute 22 = .ok (.invokevirtual 293, 3) := by decide +kernel
theorem dX8_execute_25 : decode cX8_execute 25 = .ok (.new 294, 3) := by decide +kernel
theorem dX8_execute_28 : decode cX8_execute 28 = .ok (.dup, 1) := by decide +kernel
theorem dX8_execute_29 : decode cX8_execute 29 = .ok (.ldc_w 296, 3) := by decide +kernel
theorem dX8_execute_32 : decode cX8_execute 32 = .ok (.invokespecial 298, 3) := by decide +kernel
theorem dX8_execute_35 : decode cX8_execute 35 = .ok (.athrow, 1) := by decide +kernel
theorem dX8_execute_36 : decode cX8_execute 36 = .ok (.aload_n 0, 1) := by decide +kernel
theorem dX8_execute_37 : decode cX8_execute 37 = .ok (.getfield 25, 3) := by decide +kernel
theorem dX8_execute_40 : decode cX8_execute 40 = .ok (.aload_n 0, 1) := by decide +kernel
theorem dX8_execute_41 : decode cX8_execute 41 = .ok (.getfield 12, 3) := by decide +kernel
theorem dX8_execute_44 : decode cX8_execute 44 = .ok (.invokevirtual 68, 3) := by decide +kernel
theorem dX8_execute_47 : decode cX8_execute 47 = .ok (.iconst 0, 1) := by decide +kernel
theorem dX8_execute_48 : decode cX8_execute 48 = .ok (.istore_n 2, 1) := by decide +kernel
theorem dX8_execute_49 : decode cX8_execute 49 = .ok (.iconst 0, 1) := by decide +kernel
theorem dX8_execute_50 : decode cX8_execute 50 = .ok (.istore_n 3, 1) := by decide +kernel
theorem dX8_execute_51 : decode cX8_execute 51 = .ok (.aload_n 0, 1) := by decide +kernel
theorem dX8_execute_52 : decode cX8_execute 52 = .ok (.getfield 46, 3) := by decide +kernel
theorem dX8_execute_55 : decode cX8_execute 55 = .ok (.invokevirtual 299, 3) := by decide +kernel
theorem dX8_execute_58 : decode cX8_execute 58 = .ok (.iload_n 2, 1) := by decide +kernel
theorem dX8_execute_59 : decode cX8_execute 59 = .ok (.ifCond .ne 63, 3) := by decide +kernel
theorem dX8_execute_62 : decode cX8_execute 62 = .ok (.iload_n 3, 1) := by decide +kernel
theorem dX8_execute_63 : decode cX8_execute 63 = .ok (.bipush 60, 2) := by decide +kernel
theorem dX8_execute_65 : decode cX8_execute 65 = .ok (.if_icmp .ge 57, 3) := by decide +kernel
theorem dX8_execute_68 : decode cX8_execute 68 = .ok (.aload_n 0, 1) := by decide +kernel
theorem dX8_execute_69 : decode cX8_execute 69 = .ok (.getfield 46, 3) := by decide +kernel
theorem dX8_execute_72 : decode cX8_execute 72 = .ok (.invokevirtual 302, 3) := by decide +kernel
theorem dX8_execute_75 : decode cX8_execute 75 = .ok (.ifCond .eq 47, 3) := by decide +kernel
theorem dX8_execute_78 : decode cX8_execute 78 = .ok (.aload_n 0, 1) := by decide +kernel
theorem dX8_execute_79 : decode cX8_execute 79 = .ok (.aload_n 0, 1) := by decide +kernel
theorem dX8_execute_80 : decode cX8_execute 80 = .ok (.getfield 46, 3) := by decide +kernel
theorem dX8_execute_83 : decode cX8_execute 83 = .ok (.getfield 306, 3) := by decide +kernel
theorem dX8_execute_86 : decode cX8_execute 86 = .ok (.aload_n 0, 1) := by decide +kernel
theorem dX8_execute_87 : decode cX8_execute 87 = .ok (.getfield 46, 3) := by decide +kernel
theorem dX8_execute_90 : decode cX8_execute 90 = .ok (.getfield 310, 3) := by decide +kernel
theorem dX8_execute_93 : decode cX8_execute 93 = .ok (.aload_n 0, 1) := by decide +kernel
theorem dX8_execute_94 : decode cX8_execute 94 = .ok (.getfield 46, 3) := by decide +kernel
theorem dX8_execute_97 : decode cX8_execute 97 = .ok (.getfield 313, 3) := by decide +kernel
theorem dX8_execute_100 : decode cX8_execute 100 = .ok (.invokevirtual 316, 3) := by decide +kernel
theorem dX8_execute_103 : decode cX8_execute 103 = .ok (.ifCond .ge 7, 3) := by decide +kernel
theorem dX8_execute_106 : decode cX8_execute 106 = .ok (.iconst 1, 1) := by decide +kernel
theorem dX8_execute_107 : decode cX8_execute 107 = .ok (.goto 4, 3) := by decide +kernel
theorem dX8_execute_110 : decode cX8_execute 110 = .ok (.iconst 0, 1) := by decide +kernel
theorem dX8_execute_111 : decode cX8_execute 111 = .ok (.istore_n 2, 1) := by decide +kernel
theorem dX8_execute_112 : decode cX8_execute 112 = .ok (.iload_n 2, 1) := by decide +kernel
theorem dX8_execute_113 : decode cX8_execute 113 = .ok (.ifCond .ne (-55), 3) := by decide +kernel
theorem dX8_execute_116 : decode cX8_execute 116 = .ok (.iinc 3 1, 3) := by decide +kernel
theorem dX8_execute_119 : decode cX8_execute 119 = .ok (.goto (-61), 3) := by decide +kernel
theorem dX8_execute_122 : decode cX8_execute 122 = .ok (.aload_n 0, 1) := by decide +kernel
theorem dX8_execute_123 : decode cX8_execute 123 = .ok (.getfield 46, 3) := by decide +kernel
theorem dX8_execute_126 : decode cX8_execute 126 = .ok (.invokevirtual 293, 3) := by decide +kernel
theorem dX8_execute_129 : decode cX8_execute 129 = .ok (.iload_n 2, 1) := by decide +kernel
theorem dX8_execute_130 : decode cX8_execute 130 = .ok (.ifCond .eq 30, 3) := by decide +kernel
theorem dX8_execute_133 : decode cX8_execute 133 = .ok (.aload_n 0, 1) := by decide +kernel
theorem dX8_execute_134 : decode cX8_execute 134 = .ok (.getfield 25, 3) := by decide +kernel
theorem dX8_execute_137 : decode cX8_execute 137 = .ok (.aload_n 0, 1) := by decide +kernel
