theorem dX4_isTrain_0 : decode cX4_isTrain 0 = .ok (.iload_n 1, 1) := by decide +kernel
theorem dX4_isTrain_1 : decode cX4_isTrain 1 = .ok (.ifCond .lt 15, 3) := by decide +kernel
theorem dX4_isTrain_4 : decode cX4_isTrain 4 = .ok (.iload_n 1, 1) := by decide +kernel
theorem dX4_isTrain_5 : decode cX4_isTrain 5 = .ok (.aload_n 0, 1) := by decide +kernel
theorem dX4_isTrain_6 : decode cX4_isTrain 6 = .ok (.getfield 15, 3) := by decide +kernel
theorem dX4_isTrain_9 : decode cX4_isTrain 9 = .ok (.if_icmp .ge 7, 3) := by decide +kernel
theorem dX4_isTrain_12 : decode cX4_isTrain 12 = .ok (.iconst 1, 1) := by decide +kernel
theorem dX4_isTrain_13 : decode cX4_isTrain 13 = .ok (.goto 4, 3) := by decide +kernel
theorem dX4_isTrain_16 : decode cX4_isTrain 16 = .ok (.iconst 0, 1) := by decide +kernel
theorem dX4_isTrain_17 : decode cX4_isTrain 17 = .ok (.ireturn, 1) := by decide +kernel
theorem dX4_isJoined_0 : decode cX4_isJoined 0 = .ok (.aload_n 0, 1) := by decide +kernel
theorem dX4_isJoined_1 : decode cX4_isJoined 1 = .ok (.getfield 37, 3) := by decide +kernel
theorem dX4_isJoined_4 : decode cX4_isJoined 4 = .ok (.iload_n 1, 1) := by decide +kernel
theorem dX4_isJoined_5 : decode cX4_isJoined 5 = .ok (.iaload, 1) := by decide +kernel
theorem dX4_isJoined_6 : decode cX4_isJoined 6 = .ok (.iload_n 2, 1) := by decide +kernel
theorem dX4_isJoined_7 : decode cX4_isJoined 7 = .ok (.invokestatic 64, 3) := by decide +kernel
theorem dX4_isJoined_10 : decode cX4_isJoined 10 = .ok (.ireturn, 1) := by decide +kernel
theorem dX4_trainAt_0 : decode cX4_trainAt 0 = .ok (.iconst 0, 1) := by decide +kernel
theorem dX4_trainAt_1 : decode cX4_trainAt 1 = .ok (.istore_n 2, 1) := by decide +kernel
theorem dX4_trainAt_2 : decode cX4_trainAt 2 = .ok (.iload_n 2, 1) := by decide +kernel
theorem dX4_trainAt_3 : decode cX4_trainAt 3 = .ok (.aload_n 0, 1) := by decide +kernel
theorem dX4_trainAt_4 : decode cX4_trainAt 4 = .ok (.getfield 15, 3) := by decide +kernel
theorem dX4_trainAt_7 : decode cX4_trainAt 7 = .ok (.if_icmp .ge 21, 3) := by decide +kernel
theorem dX4_trainAt_10 : decode cX4_trainAt 10 = .ok (.aload_n 0, 1) := by decide +kernel
theorem dX4_trainAt_11 : decode cX4_trainAt 11 = .ok (.getfield 40, 3) := by decide +kernel
theorem dX4_trainAt_14 : decode cX4_trainAt 14 = .ok (.iload_n 2, 1) := by decide +kernel
theorem dX4_trainAt_15 : decode cX4_trainAt 15 = .ok (.iaload, 1) := by decide +kernel
theorem dX4_trainAt_16 : decode cX4_trainAt 16 = .ok (.iload_n 1, 1) := by decide +kernel
theorem dX4_trainAt_17 : decode cX4_trainAt 17 = .ok (.if_icmp .ne 5, 3) := by decide +kernel
theorem dX4_trainAt_20 : decode cX4_trainAt 20 = .ok (.iload_n 2, 1) := by decide +kernel
theorem dX4_trainAt_21 : decode cX4_trainAt 21 = .ok (.ireturn, 1) := by decide +kernel
theorem dX4_trainAt_22 : decode cX4_trainAt 22 = .ok (.iinc 2 1, 3) := by decide +kernel
theorem dX4_trainAt_25 : decode cX4_trainAt 25 = .ok (.goto (-23), 3) := by decide +kernel
theorem dX4_trainAt_28 : decode cX4_trainAt 28 = .ok (.iconst (-1), 1) := by decide +kernel
theorem dX4_trainAt_29 : decode cX4_trainAt 29 = .ok (.ireturn, 1) := by decide +kernel
theorem dX4_holderOf_0 : decode cX4_holderOf 0 = .ok (.iconst 0, 1) := by decide +kernel
theorem dX4_holderOf_1 : decode cX4_holderOf 1 = .ok (.istore_n 2, 1) := by decide +kernel
theorem dX4_holderOf_2 : decode cX4_holderOf 2 = .ok (.iload_n 2, 1) := by decide +kernel
theorem dX4_holderOf_3 : decode cX4_holderOf 3 = .ok (.aload_n 0, 1) := by decide +kernel
theorem dX4_holderOf_4 : decode cX4_holderOf 4 = .ok (.getfield 15, 3) := by decide +kernel
theorem dX4_holderOf_7 : decode cX4_holderOf 7 = .ok (.if_icmp .ge 21, 3) := by decide +kernel
theorem dX4_holderOf_10 : decode cX4_holderOf 10 = .ok (.aload_n 0, 1) := by decide +kernel
theorem dX4_holderOf_11 : decode cX4_holderOf 11 = .ok (.getfield 52, 3) := by decide +kernel
theorem dX4_holderOf_14 : decode cX4_holderOf 14 = .ok (.iload_n 2, 1) := by decide +kernel
theorem dX4_holderOf_15 : decode cX4_holderOf 15 = .ok (.iaload, 1) := by decide +kernel
theorem dX4_holderOf_16 : decode cX4_holderOf 16 = .ok (.iload_n 1, 1) := by decide +kernel
theorem dX4_holderOf_17 : decode cX4_holderOf 17 = .ok (.if_icmp .ne 5, 3) := by decide +kernel
theorem dX4_holderOf_20 : decode cX4_holderOf 20 = .ok (.iload_n 2, 1) := by decide +kernel
theorem dX4_holderOf_21 : decode cX4_holderOf 21 = .ok (.ireturn, 1) := by decide +kernel
theorem dX4_holderOf_22 : decode cX4_holderOf 22 = .ok (.iinc 2 1, 3) := by decide +kernel
theorem dX4_holderOf_25 : decode cX4_holderOf 25 = .ok (.goto (-23), 3) := by decide +kernel
theorem dX4_holderOf_28 : decode cX4_holderOf 28 = .ok (.iconst (-1), 1) := by decide +kernel
theorem dX4_holderOf_29 : decode cX4_holderOf 29 = .ok (.ireturn, 1) := by decide +kernel
theorem dX4_signalOf_0 : decode cX4_signalOf 0 = .ok (.aload_n 0, 1) := by decide +kernel
theorem dX4_signalOf_1 : decode cX4_signalOf 1 = .ok (.getfield 27, 3) := by decide +kernel
theorem dX4_signalOf_4 : decode cX4_signalOf 4 = .ok (.iload_n 1, 1) := by decide +kernel
theorem dX4_signalOf_5 : decode cX4_signalOf 5 = .ok (.invokestatic 64, 3) := by decide +kernel
theorem dX4_signalOf_8 : decode cX4_signalOf 8 = .ok (.ifCond .eq 6, 3) := by decide +kernel
theorem dX4_signalOf_11 : decode cX4_signalOf 11 = .ok (.bipush 99, 2) := by decide +kernel
theorem dX4_signalOf_13 : decode cX4_signalOf 13 = .ok (.ireturn, 1) := by decide +kernel
theorem dX4_signalOf_14 : decode cX4_signalOf 14 = .ok (.aload_n 0, 1) := by decide +kernel
theorem dX4_signalOf_15 : decode cX4_signalOf 15 = .ok (.iload_n 1, 1) := by decide +kernel
theorem dX4_signalOf_16 : decode cX4_signalOf 16 = .ok (.invokevirtual 68, 3) := by decide +kernel
theorem dX4_signalOf_19 : decode cX4_signalOf 19 = .ok (.iconst (-1), 1) := by decide +kernel
theorem dX4_signalOf_20 : decode cX4_signalOf 20 = .ok (.if_icmp .eq 6, 3) := by decide +kernel
theorem dX4_signalOf_23 : decode cX4_signalOf 23 = .ok (.bipush 111, 2) := by decide +kernel
theorem dX4_signalOf_25 : decode cX4_signalOf 25 = .ok (.ireturn, 1) := by decide +kernel
theorem dX4_signalOf_26 : decode cX4_signalOf 26 = .ok (.aload_n 0, 1) := by decide +kernel
theorem dX4_signalOf_27 : decode cX4_signalOf 27 = .ok (.iload_n 1, 1) := by decide +kernel
theorem dX4_signalOf_28 : decode cX4_signalOf 28 = .ok (.invokevirtual 72, 3) := by decide +kernel
theorem dX4_signalOf_31 : decode cX4_signalOf 31 = .ok (.iconst (-1), 1) := by decide +kernel
theorem dX4_signalOf_32 : decode cX4_signalOf 32 = .ok (.if_icmp .eq 8, 3) := by decide +kernel
theorem dX4_signalOf_35 : decode cX4_signalOf 35 = .ok (.bipush 114, 2) := by decide +kernel
theorem dX4_signalOf_37 : decode cX4_signalOf 37 = .ok (.goto 5, 3) := by decide +kernel
theorem dX4_signalOf_40 : decode cX4_signalOf 40 = .ok (.bipush 102, 2) := by decide +kernel
theorem dX4_signalOf_42 : decode cX4_signalOf 42 = .ok (.ireturn, 1) := by decide +kernel
theorem dX4_trainAtRank_0 : decode cX4_trainAtRank 0 = .ok (.iconst 0, 1) := by decide +kernel
theorem dX4_trainAtRank_1 : decode cX4_trainAtRank 1 = .ok (.istore_n 2, 1) := by decide +kernel
theorem dX4_trainAtRank_2 : decode cX4_trainAtRank 2 = .ok (.bipush 9, 2) := by decide +kernel
theorem dX4_trainAtRank_4 : decode cX4_trainAtRank 4 = .ok (.istore_n 3, 1) := by decide +kernel
theorem dX4_trainAtRank_5 : decode cX4_trainAtRank 5 = .ok (.iload_n 3, 1) := by decide +kernel
theorem dX4_trainAtRank_6 : decode cX4_trainAtRank 6 = .ok (.iconst 1, 1) := by decide +kernel
theorem dX4_trainAtRank_7 : decode cX4_trainAtRank 7 = .ok (.if_icmp .lt 49, 3) := by decide +kernel
theorem dX4_trainAtRank_10 : decode cX4_trainAtRank 10 = .ok (.iconst 0, 1) := by decide +kernel
theorem dX4_trainAtRank_11 : decode cX4_trainAtRank 11 = .ok (.istore 4, 2) := by decide +kernel
theorem dX4_trainAtRank_13 : decode cX4_trainAtRank 13 = .ok (.iload 4, 2) := by decide +kernel
theorem dX4_trainAtRank_15 : decode cX4_trainAtRank 15 = .ok (.aload_n 0, 1) := by decide +kernel
theorem dX4_trainAtRank_16 : decode cX4_trainAtRank 16 = .ok (.getfield 15, 3) := by decide +kernel
theorem dX4_trainAtRank_19 : decode cX4_trainAtRank 19 = .ok (.if_icmp .ge 31, 3) := by decide +kernel
theorem dX4_trainAtRank_22 : decode cX4_trainAtRank 22 = .ok (.aload_n 0, 1) := by decide +kernel
theorem dX4_trainAtRank_23 : decode cX4_trainAtRank 23 = .ok (.getfield 43, 3) := by decide +kernel
theorem dX4_trainAtRank_26 : decode cX4_trainAtRank 26 = .ok (.iload 4, 2) := by decide +kernel
theorem dX4_trainAtRank_28 : decode cX4_trainAtRank 28 = .ok (.iaload, 1) := by decide +kernel
theorem dX4_trainAtRank_29 : decode cX4_trainAtRank 29 = .ok (.iload_n 3, 1) := by decide +kernel
theorem dX4_trainAtRank_30 : decode cX4_trainAtRank 30 = .ok (.if_icmp .ne 14, 3) := by decide +kernel
theorem dX4_trainAtRank_33 : decode cX4_trainAtRank 33 = .ok (.iload_n 2, 1) := by decide +kernel
theorem dX4_trainAtRank_34 : decode cX4_trainAtRank 34 = .ok (.iload_n 1, 1) := by decide +kernel
theorem dX4_trainAtRank_35 : decode cX4_trainAtRank 35 = .ok (.if_icmp .ne 6, 3) := by decide +kernel
theorem dX4_trainAtRank_38 : decode cX4_trainAtRank 38 = .ok (.iload 4, 2) := by decide +kernel
theorem dX4_trainAtRank_40 : decode cX4_trainAtRank 40 = .ok (.ireturn, 1) := by decide +kernel
theorem dX4_trainAtRank_41 : decode cX4_trainAtRank 41 = .ok (.iinc 2 1, 3) := by decide +kernel
theorem dX4_trainAtRank_44 : decode cX4_trainAtRank 44 = .ok (.iinc 4 1, 3) := by decide +kernel
theorem dX4_trainAtRank_47 : decode cX4_trainAtRank 47 = .ok (.goto (-34), 3) := by decide +kernel
theorem dX4_trainAtRank_50 : decode cX4_trainAtRank 50 = .ok (.iinc 3 (-1), 3) := by decide +kernel
theorem dX4_trainAtRank_53 : decode cX4_trainAtRank 53 = .ok (.goto (-48), 3) := by decide +kernel
theorem dX4_trainAtRank_56 : decode cX4_trainAtRank 56 = .ok (.iconst (-1), 1) := by decide +kernel
theorem dX4_trainAtRank_57 : decode cX4_trainAtRank 57 = .ok (.ireturn, 1) := by decide +kernel
theorem dX4_allWaits_0 : decode cX4_allWaits 0 = .ok (.iconst 0, 1) := by decide +kernel
theorem dX4_allWaits_1 : decode cX4_allWaits 1 = .ok (.istore_n 1, 1) := by decide +kernel
theorem dX4_allWaits_2 : decode cX4_allWaits 2 = .ok (.iconst 0, 1) := by decide +kernel
theorem dX4_allWaits_3 : decode cX4_allWaits 3 = .ok (.istore_n 2, 1) := by decide +kernel
theorem dX4_allWaits_4 : decode cX4_allWaits 4 = .ok (.iload_n 2, 1) := by decide +kernel
theorem dX4_allWaits_5 : decode cX4_allWaits 5 = .ok (.aload_n 0, 1) := by decide +kernel
theorem dX4_allWaits_6 : decode cX4_allWaits 6 = .ok (.getfield 15, 3) := by decide +kernel
theorem dX4_allWaits_9 : decode cX4_allWaits 9 = .ok (.if_icmp .ge 18, 3) := by decide +kernel
theorem dX4_allWaits_12 : decode cX4_allWaits 12 = .ok (.iload_n 1, 1) := by decide +kernel
theorem dX4_allWaits_13 : decode cX4_allWaits 13 = .ok (.aload_n 0, 1) := by decide +kernel
theorem dX4_allWaits_14 : decode cX4_allWaits 14 = .ok (.getfield 55, 3) := by decide +kernel
theorem dX4_allWaits_17 : decode cX4_allWaits 17 = .ok (.iload_n 2, 1) := by decide +kernel
theorem dX4_allWaits_18 : decode cX4_allWaits 18 = .ok (.iaload, 1) := by decide +kernel
theorem dX4_allWaits_19 : decode cX4_allWaits 19 = .ok (.iadd, 1) := by decide +kernel
theorem dX4_allWaits_20 : decode cX4_allWaits 20 = .ok (.istore_n 1, 1) := by decide +kernel
theorem dX4_allWaits_21 : decode cX4_allWaits 21 = .ok (.iinc 2 1, 3) := by decide +kernel
theorem dX4_allWaits_24 : decode cX4_allWaits 24 = .ok (.goto (-20), 3) := by decide +kernel
theorem dX4_allWaits_27 : decode cX4_allWaits 27 = .ok (.iload_n 1, 1) := by decide +kernel
theorem dX4_allWaits_28 : decode cX4_allWaits 28 = .ok (.ireturn, 1) := by decide +kernel
theorem dX4_placeBlock_0 : decode cX4_placeBlock 0 = .ok (.iload_n 1, 1) := by decide +kernel
theorem dX4_placeBlock_1 : decode cX4_placeBlock 1 = .ok (.iconst 1, 1) := by decide +kernel
theorem dX4_placeBlock_2 : decode cX4_placeBlock 2 = .ok (.if_icmp .lt 9, 3) := by decide +kernel
theorem dX4_placeBlock_5 : decode cX4_placeBlock 5 = .ok (.iload_n 1, 1) := by decide +kernel
theorem dX4_placeBlock_6 : decode cX4_placeBlock 6 = .ok (.bipush 9, 2) := by decide +kernel
theorem dX4_placeBlock_8 : decode cX4_placeBlock 8 = .ok (.if_icmp .le 6, 3) := by decide +kernel
theorem dX4_placeBlock_11 : decode cX4_placeBlock 11 = .ok (.bipush (-12), 2) := by decide +kernel
theorem dX4_placeBlock_13 : decode cX4_placeBlock 13 = .ok (.ireturn, 1) := by decide +kernel
theorem dX4_placeBlock_14 : decode cX4_placeBlock 14 = .ok (.aload_n 0, 1) := by decide +kernel
theorem dX4_placeBlock_15 : decode cX4_placeBlock 15 = .ok (.getfield 9, 3) := by decide +kernel
theorem dX4_placeBlock_18 : decode cX4_placeBlock 18 = .ok (.bipush 14, 2) := by decide +kernel
theorem dX4_placeBlock_20 : decode cX4_placeBlock 20 = .ok (.if_icmp .lt 6, 3) := by decide +kernel
theorem dX4_placeBlock_23 : decode cX4_placeBlock 23 = .ok (.bipush (-13), 2) := by decide +kernel
theorem dX4_placeBlock_25 : decode cX4_placeBlock 25 = .ok (.ireturn, 1) := by decide +kernel
theorem dX4_placeBlock_26 : decode cX4_placeBlock 26 = .ok (.aload_n 0, 1) := by decide +kernel
theorem dX4_placeBlock_27 : decode cX4_placeBlock 27 = .ok (.getfield 9, 3) := by decide +kernel
theorem dX4_placeBlock_30 : decode cX4_placeBlock 30 = .ok (.istore_n 3, 1) := by decide +kernel
theorem dX4_placeBlock_31 : decode cX4_placeBlock 31 = .ok (.aload_n 0, 1) := by decide +kernel
theorem dX4_placeBlock_32 : decode cX4_placeBlock 32 = .ok (.getfield 33, 3) := by decide +kernel
theorem dX4_placeBlock_35 : decode cX4_placeBlock 35 = .ok (.iload_n 3, 1) := by decide +kernel
theorem dX4_placeBlock_36 : decode cX4_placeBlock 36 = .ok (.iload_n 1, 1) := by decide +kernel
theorem dX4_placeBlock_37 : decode cX4_placeBlock 37 = .ok (.iastore, 1) := by decide +kernel
theorem dX4_placeBlock_38 : decode cX4_placeBlock 38 = .ok (.iload_n 2, 1) := by decide +kernel
theorem dX4_placeBlock_39 : decode cX4_placeBlock 39 = .ok (.ifCond .eq 15, 3) := by decide +kernel
theorem dX4_placeBlock_42 : decode cX4_placeBlock 42 = .ok (.aload_n 0, 1) := by decide +kernel
theorem dX4_placeBlock_43 : decode cX4_placeBlock 43 = .ok (.dup, 1) := by decide +kernel
theorem dX4_placeBlock_44 : decode cX4_placeBlock 44 = .ok (.getfield 24, 3) := by decide +kernel
theorem dX4_placeBlock_47 : decode cX4_placeBlock 47 = .ok (.iconst 1, 1) := by decide +kernel
theorem dX4_placeBlock_48 : decode cX4_placeBlock 48 = .ok (.iload_n 3, 1) := by decide +kernel
theorem dX4_placeBlock_49 : decode cX4_placeBlock 49 = .ok (.ishl, 1) := by decide +kernel
theorem dX4_placeBlock_50 : decode cX4_placeBlock 50 = .ok (.ior, 1) := by decide +kernel
theorem dX4_placeBlock_51 : decode cX4_placeBlock 51 = .ok (.putfield 24, 3) := by decide +kernel
theorem dX4_placeBlock_54 : decode cX4_placeBlock 54 = .ok (.aload_n 0, 1) := by decide +kernel
theorem dX4_placeBlock_55 : decode cX4_placeBlock 55 = .ok (.dup, 1) := by decide +kernel
theorem dX4_placeBlock_56 : decode cX4_placeBlock 56 = .ok (.getfield 9, 3) := by decide +kernel
theorem dX4_placeBlock_59 : decode cX4_placeBlock 59 = .ok (.iconst 1, 1) := by decide +kernel
theorem dX4_placeBlock_60 : decode cX4_placeBlock 60 = .ok (.iadd, 1) := by decide +kernel
theorem dX4_placeBlock_61 : decode cX4_placeBlock 61 = .ok (.putfield 9, 3) := by decide +kernel
theorem dX4_placeBlock_64 : decode cX4_placeBlock 64 = .ok (.iload_n 3, 1) := by decide +kernel
theorem dX4_placeBlock_65 : decode cX4_placeBlock 65 = .ok (.ireturn, 1) := by decide +kernel
theorem dX4_join_0 : decode cX4_join 0 = .ok (.aload_n 0, 1) := by decide +kernel
theorem dX4_join_1 : decode cX4_join 1 = .ok (.iload_n 1, 1) := by decide +kernel
theorem dX4_join_2 : decode cX4_join 2 = .ok (.invokevirtual 75, 3) := by decide +kernel
theorem dX4_join_5 : decode cX4_join 5 = .ok (.ifCond .eq 11, 3) := by decide +kernel
theorem dX4_join_8 : decode cX4_join 8 = .ok (.aload_n 0, 1) := by decide +kernel
theorem dX4_join_9 : decode cX4_join 9 = .ok (.iload_n 2, 1) := by decide +kernel
theorem dX4_join_10 : decode cX4_join 10 = .ok (.invokevirtual 75, 3) := by decide +kernel
theorem dX4_join_13 : decode cX4_join 13 = .ok (.ifCond .ne 6, 3) := by decide +kernel
theorem dX4_join_16 : decode cX4_join 16 = .ok (.bipush (-11), 2) := by decide +kernel
theorem dX4_join_18 : decode cX4_join 18 = .ok (.ireturn, 1) := by decide +kernel
theorem dX4_join_19 : decode cX4_join 19 = .ok (.iload_n 1, 1) := by decide +kernel
theorem dX4_join_20 : decode cX4_join 20 = .ok (.iload_n 2, 1) := by decide +kernel
theorem dX4_join_21 : decode cX4_join 21 = .ok (.if_icmp .ne 6, 3) := by decide +kernel
theorem dX4_join_24 : decode cX4_join 24 = .ok (.bipush (-12), 2) := by decide +kernel
theorem dX4_join_26 : decode cX4_join 26 = .ok (.ireturn, 1) := by decide +kernel
theorem dX4_join_27 : decode cX4_join 27 = .ok (.aload_n 0, 1) := by decide +kernel
theorem dX4_join_28 : decode cX4_join 28 = .ok (.iload_n 1, 1) := by decide +kernel
theorem dX4_join_29 : decode cX4_join 29 = .ok (.iload_n 2, 1) := by decide +kernel
theorem dX4_join_30 : decode cX4_join 30 = .ok (.invokevirtual 79, 3) := by decide +kernel
theorem dX4_join_33 : decode cX4_join 33 = .ok (.ifCond .eq 6, 3) := by decide +kernel
theorem dX4_join_36 : decode cX4_join 36 = .ok (.bipush (-13), 2) := by decide +kernel
theorem dX4_join_38 : decode cX4_join 38 = .ok (.ireturn, 1) := by decide +kernel
theorem dX4_join_39 : decode cX4_join 39 = .ok (.aload_n 0, 1) := by decide +kernel
theorem dX4_join_40 : decode cX4_join 40 = .ok (.getfield 37, 3) := by decide +kernel
theorem dX4_join_43 : decode cX4_join 43 = .ok (.iload_n 1, 1) := by decide +kernel
theorem dX4_join_44 : decode cX4_join 44 = .ok (.dup2, 1) := by decide +kernel
theorem dX4_join_45 : decode cX4_join 45 = .ok (.iaload, 1) := by decide +kernel
theorem dX4_join_46 : decode cX4_join 46 = .ok (.iconst 1, 1) := by decide +kernel
theorem dX4_join_47 : decode cX4_join 47 = .ok (.iload_n 2, 1) := by decide +kernel
theorem dX4_join_48 : decode cX4_join 48 = .ok (.ishl, 1) := by decide +kernel
theorem dX4_join_49 : decode cX4_join 49 = .ok (.ior, 1) := by decide +kernel
theorem dX4_join_50 : decode cX4_join 50 = .ok (.iastore, 1) := by decide +kernel
theorem dX4_join_51 : decode cX4_join 51 = .ok (.aload_n 0, 1) := by decide +kernel
theorem dX4_join_52 : decode cX4_join 52 = .ok (.getfield 37, 3) := by decide +kernel
theorem dX4_join_55 : decode cX4_join 55 = .ok (.iload_n 2, 1) := by decide +kernel
theorem dX4_join_56 : decode cX4_join 56 = .ok (.dup2, 1) := by decide +kernel
theorem dX4_join_57 : decode cX4_join 57 = .ok (.iaload, 1) := by decide +kernel
theorem dX4_join_58 : decode cX4_join 58 = .ok (.iconst 1, 1) := by decide +kernel
theorem dX4_join_59 : decode cX4_join 59 = .ok (.iload_n 1, 1) := by decide +kernel
theorem dX4_join_60 : decode cX4_join 60 = .ok (.ishl, 1) := by decide +kernel
theorem dX4_join_61 : decode cX4_join 61 = .ok (.ior, 1) := by decide +kernel
theorem dX4_join_62 : decode cX4_join 62 = .ok (.iastore, 1) := by decide +kernel
theorem dX4_join_63 : decode cX4_join 63 = .ok (.aload_n 0, 1) := by decide +kernel
theorem dX4_join_64 : decode cX4_join 64 = .ok (.invokevirtual 82, 3) := by decide +kernel
theorem dX4_join_67 : decode cX4_join 67 = .ok (.ireturn, 1) := by decide +kernel
theorem dX4_separate_0 : decode cX4_separate 0 = .ok (.aload_n 0, 1) := by decide +kernel
theorem dX4_separate_1 : decode cX4_separate 1 = .ok (.iload_n 1, 1) := by decide +kernel
theorem dX4_separate_2 : decode cX4_separate 2 = .ok (.invokevirtual 75, 3) := by decide +kernel
theorem dX4_separate_5 : decode cX4_separate 5 = .ok (.ifCond .eq 11, 3) := by decide +kernel
theorem dX4_separate_8 : decode cX4_separate 8 = .ok (.aload_n 0, 1) := by decide +kernel
theorem dX4_separate_9 : decode cX4_separate 9 = .ok (.iload_n 2, 1) := by decide +kernel
theorem dX4_separate_10 : decode cX4_separate 10 = .ok (.invokevirtual 75, 3) := by decide +kernel
theorem dX4_separate_13 : decode cX4_separate 13 = .ok (.ifCond .ne 6, 3) := by decide +kernel
theorem dX4_separate_16 : decode cX4_separate 16 = .ok (.bipush (-11), 2) := by decide +kernel
theorem dX4_separate_18 : decode cX4_separate 18 = .ok (.ireturn, 1) := by decide +kernel
theorem dX4_separate_19 : decode cX4_separate 19 = .ok (.aload_n 0, 1) := by decide +kernel
theorem dX4_separate_20 : decode cX4_separate 20 = .ok (.iload_n 1, 1) := by decide +kernel
theorem dX4_separate_21 : decode cX4_separate 21 = .ok (.iload_n 2, 1) := by decide +kernel
theorem dX4_separate_22 : decode cX4_separate 22 = .ok (.invokevirtual 79, 3) := by decide +kernel
theorem dX4_separate_25 : decode cX4_separate 25 = .ok (.ifCond .ne 6, 3) := by decide +kernel
theorem dX4_separate_28 : decode cX4_separate 28 = .ok (.bipush (-15), 2) := by decide +kernel
theorem dX4_separate_30 : decode cX4_separate 30 = .ok (.ireturn, 1) := by decide +kernel
theorem dX4_separate_31 : decode cX4_separate 31 = .ok (.aload_n 0, 1) := by decide +kernel
theorem dX4_separate_32 : decode cX4_separate 32 = .ok (.getfield 37, 3) := by decide +kernel
theorem dX4_separate_35 : decode cX4_separate 35 = .ok (.iload_n 1, 1) := by decide +kernel
theorem dX4_separate_36 : decode cX4_separate 36 = .ok (.dup2, 1) := by decide +kernel
theorem dX4_separate_37 : decode cX4_separate 37 = .ok (.iaload, 1) := by decide +kernel
theorem dX4_separate_38 : decode cX4_separate 38 = .ok (.iconst 1, 1) := by decide +kernel
theorem dX4_separate_39 : decode cX4_separate 39 = .ok (.iload_n 2, 1) := by decide +kernel
theorem dX4_separate_40 : decode cX4_separate 40 = .ok (.ishl, 1) := by decide +kernel
theorem dX4_separate_41 : decode cX4_separate 41 = .ok (.iconst (-1), 1) := by decide +kernel
theorem dX4_separate_42 : decode cX4_separate 42 = .ok (.ixor, 1) := by decide +kernel
theorem dX4_separate_43 : decode cX4_separate 43 = .ok (.iand, 1) := by decide +kernel
theorem dX4_separate_44 : decode cX4_separate 44 = .ok (.iastore, 1) := by decide +kernel
theorem dX4_separate_45 : decode cX4_separate 45 = .ok (.aload_n 0, 1) := by decide +kernel
theorem dX4_separate_46 : decode cX4_separate 46 = .ok (.getfield 37, 3) := by decide +kernel
theorem dX4_separate_49 : decode cX4_separate 49 = .ok (.iload_n 2, 1) := by decide +kernel
theorem dX4_separate_50 : decode cX4_separate 50 = .ok (.dup2, 1) := by decide +kernel
theorem dX4_separate_51 : decode cX4_separate 51 = .ok (.iaload, 1) := by decide +kernel
theorem dX4_separate_52 : decode cX4_separate 52 = .ok (.iconst 1, 1) := by decide +kernel
theorem dX4_separate_53 : decode cX4_separate 53 = .ok (.iload_n 1, 1) := by decide +kernel
theorem dX4_separate_54 : decode cX4_separate 54 = .ok (.ishl, 1) := by decide +kernel
theorem dX4_separate_55 : decode cX4_separate 55 = .ok (.iconst (-1), 1) := by decide +kernel
theorem dX4_separate_56 : decode cX4_separate 56 = .ok (.ixor, 1) := by decide +kernel
theorem dX4_separate_57 : decode cX4_separate 57 = .ok (.iand, 1) := by decide +kernel
theorem dX4_separate_58 : decode cX4_separate 58 = .ok (.iastore, 1) := by decide +kernel
theorem dX4_separate_59 : decode cX4_separate 59 = .ok (.aload_n 0, 1) := by decide +kernel
theorem dX4_separate_60 : decode cX4_separate 60 = .ok (.invokevirtual 82, 3) := by decide +kernel
theorem dX4_separate_63 : decode cX4_separate 63 = .ok (.ireturn, 1) := by decide +kernel
theorem dX4_seatCat_0 : decode cX4_seatCat 0 = .ok (.aload_n 0, 1) := by decide +kernel
theorem dX4_seatCat_1 : decode cX4_seatCat 1 = .ok (.iload_n 1, 1) := by decide +kernel
theorem dX4_seatCat_2 : decode cX4_seatCat 2 = .ok (.invokevirtual 75, 3) := by decide +kernel
theorem dX4_seatCat_5 : decode cX4_seatCat 5 = .ok (.ifCond .ne 6, 3) := by decide +kernel
theorem dX4_seatCat_8 : decode cX4_seatCat 8 = .ok (.bipush (-11), 2) := by decide +kernel
theorem dX4_seatCat_10 : decode cX4_seatCat 10 = .ok (.ireturn, 1) := by decide +kernel
theorem dX4_seatCat_11 : decode cX4_seatCat 11 = .ok (.aload_n 0, 1) := by decide +kernel
theorem dX4_seatCat_12 : decode cX4_seatCat 12 = .ok (.getfield 27, 3) := by decide +kernel
theorem dX4_seatCat_15 : decode cX4_seatCat 15 = .ok (.iload_n 1, 1) := by decide +kernel
theorem dX4_seatCat_16 : decode cX4_seatCat 16 = .ok (.invokestatic 64, 3) := by decide +kernel
theorem dX4_seatCat_19 : decode cX4_seatCat 19 = .ok (.ifCond .eq 6, 3) := by decide +kernel
theorem dX4_seatCat_22 : decode cX4_seatCat 22 = .ok (.bipush (-13), 2) := by decide +kernel
theorem dX4_seatCat_24 : decode cX4_seatCat 24 = .ok (.ireturn, 1) := by decide +kernel
theorem dX4_seatCat_25 : decode cX4_seatCat 25 = .ok (.aload_n 0, 1) := by decide +kernel
theorem dX4_seatCat_26 : decode cX4_seatCat 26 = .ok (.iload_n 1, 1) := by decide +kernel
theorem dX4_seatCat_27 : decode cX4_seatCat 27 = .ok (.invokevirtual 68, 3) := by decide +kernel
theorem dX4_seatCat_30 : decode cX4_seatCat 30 = .ok (.iconst (-1), 1) := by decide +kernel
theorem dX4_seatCat_31 : decode cX4_seatCat 31 = .ok (.if_icmp .eq 6, 3) := by decide +kernel
theorem dX4_seatCat_34 : decode cX4_seatCat 34 = .ok (.bipush (-14), 2) := by decide +kernel
theorem dX4_seatCat_36 : decode cX4_seatCat 36 = .ok (.ireturn, 1) := by decide +kernel
theorem dX4_seatCat_37 : decode cX4_seatCat 37 = .ok (.aload_n 0, 1) := by decide +kernel
theorem dX4_seatCat_38 : decode cX4_seatCat 38 = .ok (.dup, 1) := by decide +kernel
theorem dX4_seatCat_39 : decode cX4_seatCat 39 = .ok (.getfield 27, 3) := by decide +kernel
theorem dX4_seatCat_42 : decode cX4_seatCat 42 = .ok (.iconst 1, 1) := by decide +kernel
theorem dX4_seatCat_43 : decode cX4_seatCat 43 = .ok (.iload_n 1, 1) := by decide +kernel
theorem dX4_seatCat_44 : decode cX4_seatCat 44 = .ok (.ishl, 1) := by decide +kernel
theorem dX4_seatCat_45 : decode cX4_seatCat 45 = .ok (.ior, 1) := by decide +kernel
theorem dX4_seatCat_46 : decode cX4_seatCat 46 = .ok (.putfield 27, 3) := by decide +kernel
theorem dX4_seatCat_49 : decode cX4_seatCat 49 = .ok (.aload_n 0, 1) := by decide +kernel
theorem dX4_seatCat_50 : decode cX4_seatCat 50 = .ok (.getfield 27, 3) := by decide +kernel
theorem dX4_seatCat_53 : decode cX4_seatCat 53 = .ok (.invokestatic 86, 3) := by decide +kernel
theorem dX4_seatCat_56 : decode cX4_seatCat 56 = .ok (.ireturn, 1) := by decide +kernel
theorem dX4_liftCat_0 : decode cX4_liftCat 0 = .ok (.aload_n 0, 1) := by decide +kernel
theorem dX4_liftCat_1 : decode cX4_liftCat 1 = .ok (.iload_n 1, 1) := by decide +kernel
theorem dX4_liftCat_2 : decode cX4_liftCat 2 = .ok (.invokevirtual 75, 3) := by decide +kernel
theorem dX4_liftCat_5 : decode cX4_liftCat 5 = .ok (.ifCond .ne 6, 3) := by decide +kernel
theorem dX4_liftCat_8 : decode cX4_liftCat 8 = .ok (.bipush (-11), 2) := by decide +kernel
theorem dX4_liftCat_10 : decode cX4_liftCat 10 = .ok (.ireturn, 1) := by decide +kernel
theorem dX4_liftCat_11 : decode cX4_liftCat 11 = .ok (.aload_n 0, 1) := by decide +kernel
theorem dX4_liftCat_12 : decode cX4_liftCat 12 = .ok (.getfield 27, 3) := by decide +kernel
theorem dX4_liftCat_15 : decode cX4_liftCat 15 = .ok (.iload_n 1, 1) := by decide +kernel
theorem dX4_liftCat_16 : decode cX4_liftCat 16 = .ok (.invokestatic 64, 3) := by decide +kernel
theorem dX4_liftCat_19 : decode cX4_liftCat 19 = .ok (.ifCond .ne 6, 3) := by decide +kernel
theorem dX4_liftCat_22 : decode cX4_liftCat 22 = .ok (.bipush (-15), 2) := by decide +kernel
theorem dX4_liftCat_24 : decode cX4_liftCat 24 = .ok (.ireturn, 1) := by decide +kernel
theorem dX4_liftCat_25 : decode cX4_liftCat 25 = .ok (.aload_n 0, 1) := by decide +kernel
theorem dX4_liftCat_26 : decode cX4_liftCat 26 = .ok (.dup, 1) := by decide +kernel
theorem dX4_liftCat_27 : decode cX4_liftCat 27 = .ok (.getfield 27, 3) := by decide +kernel
theorem dX4_liftCat_30 : decode cX4_liftCat 30 = .ok (.iconst 1, 1) := by decide +kernel
theorem dX4_liftCat_31 : decode cX4_liftCat 31 = .ok (.iload_n 1, 1) := by decide +kernel
theorem dX4_liftCat_32 : decode cX4_liftCat 32 = .ok (.ishl, 1) := by decide +kernel
theorem dX4_liftCat_33 : decode cX4_liftCat 33 = .ok (.iconst (-1), 1) := by decide +kernel
theorem dX4_liftCat_34 : decode cX4_liftCat 34 = .ok (.ixor, 1) := by decide +kernel
theorem dX4_liftCat_35 : decode cX4_liftCat 35 = .ok (.iand, 1) := by decide +kernel
theorem dX4_liftCat_36 : decode cX4_liftCat 36 = .ok (.putfield 27, 3) := by decide +kernel
theorem dX4_liftCat_39 : decode cX4_liftCat 39 = .ok (.aload_n 0, 1) := by decide +kernel
theorem dX4_liftCat_40 : decode cX4_liftCat 40 = .ok (.getfield 27, 3) := by decide +kernel
theorem dX4_liftCat_43 : decode cX4_liftCat 43 = .ok (.invokestatic 86, 3) := by decide +kernel
theorem dX4_liftCat_46 : decode cX4_liftCat 46 = .ok (.ireturn, 1) := by decide +kernel
theorem dX4_placeTrain_0 : decode cX4_placeTrain 0 = .ok (.aload_n 0, 1) := by decide +kernel
theorem dX4_placeTrain_1 : decode cX4_placeTrain 1 = .ok (.iload_n 1, 1) := by decide +kernel
theorem dX4_placeTrain_2 : decode cX4_placeTrain 2 = .ok (.invokevirtual 75, 3) := by decide +kernel
theorem dX4_placeTrain_5 : decode cX4_placeTrain 5 = .ok (.ifCond .ne 6, 3) := by decide +kernel
theorem dX4_placeTrain_8 : decode cX4_placeTrain 8 = .ok (.bipush (-11), 2) := by decide +kernel
theorem dX4_placeTrain_10 : decode cX4_placeTrain 10 = .ok (.ireturn, 1) := by decide +kernel
theorem dX4_placeTrain_11 : decode cX4_placeTrain 11 = .ok (.iload_n 2, 1) := by decide +kernel
theorem dX4_placeTrain_12 : decode cX4_placeTrain 12 = .ok (.iconst 1, 1) := by decide +kernel
theorem dX4_placeTrain_13 : decode cX4_placeTrain 13 = .ok (.if_icmp .lt 9, 3) := by decide +kernel
theorem dX4_placeTrain_16 : decode cX4_placeTrain 16 = .ok (.iload_n 2, 1) := by decide +kernel
theorem dX4_placeTrain_17 : decode cX4_placeTrain 17 = .ok (.bipush 9, 2) := by decide +kernel
theorem dX4_placeTrain_19 : decode cX4_placeTrain 19 = .ok (.if_icmp .le 6, 3) := by decide +kernel
theorem dX4_placeTrain_22 : decode cX4_placeTrain 22 = .ok (.bipush (-12), 2) := by decide +kernel
theorem dX4_placeTrain_24 : decode cX4_placeTrain 24 = .ok (.ireturn, 1) := by decide +kernel
theorem dX4_placeTrain_25 : decode cX4_placeTrain 25 = .ok (.aload_n 0, 1) := by decide +kernel
theorem dX4_placeTrain_26 : decode cX4_placeTrain 26 = .ok (.getfield 15, 3) := by decide +kernel
theorem dX4_placeTrain_29 : decode cX4_placeTrain 29 = .ok (.bipush 6, 2) := by decide +kernel
theorem dX4_placeTrain_31 : decode cX4_placeTrain 31 = .ok (.if_icmp .lt 6, 3) := by decide +kernel
theorem dX4_placeTrain_34 : decode cX4_placeTrain 34 = .ok (.bipush (-13), 2) := by decide +kernel
theorem dX4_placeTrain_36 : decode cX4_placeTrain 36 = .ok (.ireturn, 1) := by decide +kernel
theorem dX4_placeTrain_37 : decode cX4_placeTrain 37 = .ok (.aload_n 0, 1) := by decide +kernel
theorem dX4_placeTrain_38 : decode cX4_placeTrain 38 = .ok (.iload_n 1, 1) := by decide +kernel
theorem dX4_placeTrain_39 : decode cX4_placeTrain 39 = .ok (.invokevirtual 68, 3) := by decide +kernel
theorem dX4_placeTrain_42 : decode cX4_placeTrain 42 = .ok (.iconst (-1), 1) := by decide +kernel
theorem dX4_placeTrain_43 : decode cX4_placeTrain 43 = .ok (.if_icmp .ne 23, 3) := by decide +kernel
theorem dX4_placeTrain_46 : decode cX4_placeTrain 46 = .ok (.aload_n 0, 1) := by decide +kernel
theorem dX4_placeTrain_47 : decode cX4_placeTrain 47 = .ok (.getfield 27, 3) := by decide +kernel
theorem dX4_placeTrain_50 : decode cX4_placeTrain 50 = .ok (.iload_n 1, 1) := by decide +kernel
theorem dX4_placeTrain_51 : decode cX4_placeTrain 51 = .ok (.invokestatic 64, 3) := by decide +kernel
theorem dX4_placeTrain_54 : decode cX4_placeTrain 54 = .ok (.ifCond .ne 12, 3) := by decide +kernel
theorem dX4_placeTrain_57 : decode cX4_placeTrain 57 = .ok (.aload_n 0, 1) := by decide +kernel
theorem dX4_placeTrain_58 : decode cX4_placeTrain 58 = .ok (.iload_n 1, 1) := by decide +kernel
theorem dX4_placeTrain_59 : decode cX4_placeTrain 59 = .ok (.invokevirtual 72, 3) := by decide +kernel
theorem dX4_placeTrain_62 : decode cX4_placeTrain 62 = .ok (.iconst (-1), 1) := by decide +kernel
theorem dX4_placeTrain_63 : decode cX4_placeTrain 63 = .ok (.if_icmp .eq 6, 3) := by decide +kernel
theorem dX4_placeTrain_66 : decode cX4_placeTrain 66 = .ok (.bipush (-14), 2) := by decide +kernel
theorem dX4_placeTrain_68 : decode cX4_placeTrain 68 = .ok (.ireturn, 1) := by decide +kernel
theorem dX4_placeTrain_69 : decode cX4_placeTrain 69 = .ok (.aload_n 0, 1) := by decide +kernel
theorem dX4_placeTrain_70 : decode cX4_placeTrain 70 = .ok (.getfield 15, 3) := by decide +kernel
theorem dX4_placeTrain_73 : decode cX4_placeTrain 73 = .ok (.istore_n 3, 1) := by decide +kernel
theorem dX4_placeTrain_74 : decode cX4_placeTrain 74 = .ok (.aload_n 0, 1) := by decide +kernel
theorem dX4_placeTrain_75 : decode cX4_placeTrain 75 = .ok (.getfield 40, 3) := by decide +kernel
theorem dX4_placeTrain_78 : decode cX4_placeTrain 78 = .ok (.iload_n 3, 1) := by decide +kernel
theorem dX4_placeTrain_79 : decode cX4_placeTrain 79 = .ok (.iload_n 1, 1) := by decide +kernel
theorem dX4_placeTrain_80 : decode cX4_placeTrain 80 = .ok (.iastore, 1) := by decide +kernel
theorem dX4_placeTrain_81 : decode cX4_placeTrain 81 = .ok (.aload_n 0, 1) := by decide +kernel
theorem dX4_placeTrain_82 : decode cX4_placeTrain 82 = .ok (.getfield 43, 3) := by decide +kernel
theorem dX4_placeTrain_85 : decode cX4_placeTrain 85 = .ok (.iload_n 3, 1) := by decide +kernel
theorem dX4_placeTrain_86 : decode cX4_placeTrain 86 = .ok (.iload_n 2, 1) := by decide +kernel
theorem dX4_placeTrain_87 : decode cX4_placeTrain 87 = .ok (.iastore, 1) := by decide +kernel
theorem dX4_placeTrain_88 : decode cX4_placeTrain 88 = .ok (.aload_n 0, 1) := by decide +kernel
theorem dX4_placeTrain_89 : decode cX4_placeTrain 89 = .ok (.getfield 46, 3) := by decide +kernel
theorem dX4_placeTrain_92 : decode cX4_placeTrain 92 = .ok (.iload_n 3, 1) := by decide +kernel
theorem dX4_placeTrain_93 : decode cX4_placeTrain 93 = .ok (.iconst 0, 1) := by decide +kernel
theorem dX4_placeTrain_94 : decode cX4_placeTrain 94 = .ok (.iastore, 1) := by decide +kernel
theorem dX4_placeTrain_95 : decode cX4_placeTrain 95 = .ok (.aload_n 0, 1) := by decide +kernel
theorem dX4_placeTrain_96 : decode cX4_placeTrain 96 = .ok (.getfield 49, 3) := by decide +kernel
theorem dX4_placeTrain_99 : decode cX4_placeTrain 99 = .ok (.iload_n 3, 1) := by decide +kernel
theorem dX4_placeTrain_100 : decode cX4_placeTrain 100 = .ok (.iconst (-1), 1) := by decide +kernel
theorem dX4_placeTrain_101 : decode cX4_placeTrain 101 = .ok (.iastore, 1) := by decide +kernel
theorem dX4_placeTrain_102 : decode cX4_placeTrain 102 = .ok (.aload_n 0, 1) := by decide +kernel
theorem dX4_placeTrain_103 : decode cX4_placeTrain 103 = .ok (.getfield 52, 3) := by decide +kernel
theorem dX4_placeTrain_106 : decode cX4_placeTrain 106 = .ok (.iload_n 3, 1) := by decide +kernel
theorem dX4_placeTrain_107 : decode cX4_placeTrain 107 = .ok (.iconst (-1), 1) := by decide +kernel
theorem dX4_placeTrain_108 : decode cX4_placeTrain 108 = .ok (.iastore, 1) := by decide +kernel
theorem dX4_placeTrain_109 : decode cX4_placeTrain 109 = .ok (.aload_n 0, 1) := by decide +kernel
theorem dX4_placeTrain_110 : decode cX4_placeTrain 110 = .ok (.getfield 55, 3) := by decide +kernel
theorem dX4_placeTrain_113 : decode cX4_placeTrain 113 = .ok (.iload_n 3, 1) := by decide +kernel
theorem dX4_placeTrain_114 : decode cX4_placeTrain 114 = .ok (.iconst 0, 1) := by decide +kernel
theorem dX4_placeTrain_115 : decode cX4_placeTrain 115 = .ok (.iastore, 1) := by decide +kernel
theorem dX4_placeTrain_116 : decode cX4_placeTrain 116 = .ok (.aload_n 0, 1) := by decide +kernel
theorem dX4_placeTrain_117 : decode cX4_placeTrain 117 = .ok (.dup, 1) := by decide +kernel
theorem dX4_placeTrain_118 : decode cX4_placeTrain 118 = .ok (.getfield 15, 3) := by decide +kernel
theorem dX4_placeTrain_121 : decode cX4_placeTrain 121 = .ok (.iconst 1, 1) := by decide +kernel
theorem dX4_placeTrain_122 : decode cX4_placeTrain 122 = .ok (.iadd, 1) := by decide +kernel
theorem dX4_placeTrain_123 : decode cX4_placeTrain 123 = .ok (.putfield 15, 3) := by decide +kernel
theorem dX4_placeTrain_126 : decode cX4_placeTrain 126 = .ok (.iload_n 3, 1) := by decide +kernel
theorem dX4_placeTrain_127 : decode cX4_placeTrain 127 = .ok (.ireturn, 1) := by decide +kernel
theorem dX4_dropGoal_0 : decode cX4_dropGoal 0 = .ok (.aload_n 0, 1) := by decide +kernel
theorem dX4_dropGoal_1 : decode cX4_dropGoal 1 = .ok (.iload_n 1, 1) := by decide +kernel
theorem dX4_dropGoal_2 : decode cX4_dropGoal 2 = .ok (.invokevirtual 91, 3) := by decide +kernel
theorem dX4_dropGoal_5 : decode cX4_dropGoal 5 = .ok (.ifCond .ne 6, 3) := by decide +kernel
theorem dX4_dropGoal_8 : decode cX4_dropGoal 8 = .ok (.bipush (-11), 2) := by decide +kernel
theorem dX4_dropGoal_10 : decode cX4_dropGoal 10 = .ok (.ireturn, 1) := by decide +kernel
theorem dX4_dropGoal_11 : decode cX4_dropGoal 11 = .ok (.aload_n 0, 1) := by decide +kernel
theorem dX4_dropGoal_12 : decode cX4_dropGoal 12 = .ok (.getfield 49, 3) := by decide +kernel
theorem dX4_dropGoal_15 : decode cX4_dropGoal 15 = .ok (.iload_n 1, 1) := by decide +kernel
theorem dX4_dropGoal_16 : decode cX4_dropGoal 16 = .ok (.iaload, 1) := by decide +kernel
theorem dX4_dropGoal_17 : decode cX4_dropGoal 17 = .ok (.istore_n 2, 1) := by decide +kernel
theorem dX4_dropGoal_18 : decode cX4_dropGoal 18 = .ok (.iload_n 2, 1) := by decide +kernel
theorem dX4_dropGoal_19 : decode cX4_dropGoal 19 = .ok (.iconst (-1), 1) := by decide +kernel
theorem dX4_dropGoal_20 : decode cX4_dropGoal 20 = .ok (.if_icmp .ne 6, 3) := by decide +kernel
theorem dX4_dropGoal_23 : decode cX4_dropGoal 23 = .ok (.bipush (-15), 2) := by decide +kernel
theorem dX4_dropGoal_25 : decode cX4_dropGoal 25 = .ok (.ireturn, 1) := by decide +kernel
theorem dX4_dropGoal_26 : decode cX4_dropGoal 26 = .ok (.aload_n 0, 1) := by decide +kernel
theorem dX4_dropGoal_27 : decode cX4_dropGoal 27 = .ok (.getfield 49, 3) := by decide +kernel
theorem dX4_dropGoal_30 : decode cX4_dropGoal 30 = .ok (.iload_n 1, 1) := by decide +kernel
theorem dX4_dropGoal_31 : decode cX4_dropGoal 31 = .ok (.iconst (-1), 1) := by decide +kernel
theorem dX4_dropGoal_32 : decode cX4_dropGoal 32 = .ok (.iastore, 1) := by decide +kernel
theorem dX4_dropGoal_33 : decode cX4_dropGoal 33 = .ok (.iload_n 2, 1) := by decide +kernel
theorem dX4_dropGoal_34 : decode cX4_dropGoal 34 = .ok (.ireturn, 1) := by decide +kernel
theorem dX4_hold_0 : decode cX4_hold 0 = .ok (.aload_n 0, 1) := by decide +kernel
theorem dX4_hold_1 : decode cX4_hold 1 = .ok (.iload_n 1, 1) := by decide +kernel
theorem dX4_hold_2 : decode cX4_hold 2 = .ok (.invokevirtual 91, 3) := by decide +kernel
theorem dX4_hold_5 : decode cX4_hold 5 = .ok (.ifCond .eq 11, 3) := by decide +kernel
theorem dX4_hold_8 : decode cX4_hold 8 = .ok (.aload_n 0, 1) := by decide +kernel
theorem dX4_hold_9 : decode cX4_hold 9 = .ok (.iload_n 2, 1) := by decide +kernel
theorem dX4_hold_10 : decode cX4_hold 10 = .ok (.invokevirtual 75, 3) := by decide +kernel
theorem dX4_hold_13 : decode cX4_hold 13 = .ok (.ifCond .ne 6, 3) := by decide +kernel
theorem dX4_hold_16 : decode cX4_hold 16 = .ok (.bipush (-11), 2) := by decide +kernel
theorem dX4_hold_18 : decode cX4_hold 18 = .ok (.ireturn, 1) := by decide +kernel
theorem dX4_hold_19 : decode cX4_hold 19 = .ok (.aload_n 0, 1) := by decide +kernel
theorem dX4_hold_20 : decode cX4_hold 20 = .ok (.aload_n 0, 1) := by decide +kernel
theorem dX4_hold_21 : decode cX4_hold 21 = .ok (.getfield 40, 3) := by decide +kernel
theorem dX4_hold_24 : decode cX4_hold 24 = .ok (.iload_n 1, 1) := by decide +kernel
theorem dX4_hold_25 : decode cX4_hold 25 = .ok (.iaload, 1) := by decide +kernel
theorem dX4_hold_26 : decode cX4_hold 26 = .ok (.iload_n 2, 1) := by decide +kernel
theorem dX4_hold_27 : decode cX4_hold 27 = .ok (.invokevirtual 79, 3) := by decide +kernel
theorem dX4_hold_30 : decode cX4_hold 30 = .ok (.ifCond .ne 6, 3) := by decide +kernel
theorem dX4_hold_33 : decode cX4_hold 33 = .ok (.bipush (-12), 2) := by decide +kernel
theorem dX4_hold_35 : decode cX4_hold 35 = .ok (.ireturn, 1) := by decide +kernel
theorem dX4_hold_36 : decode cX4_hold 36 = .ok (.aload_n 0, 1) := by decide +kernel
theorem dX4_hold_37 : decode cX4_hold 37 = .ok (.getfield 52, 3) := by decide +kernel
theorem dX4_hold_40 : decode cX4_hold 40 = .ok (.iload_n 1, 1) := by decide +kernel
theorem dX4_hold_41 : decode cX4_hold 41 = .ok (.iaload, 1) := by decide +kernel
theorem dX4_hold_42 : decode cX4_hold 42 = .ok (.iconst (-1), 1) := by decide +kernel
theorem dX4_hold_43 : decode cX4_hold 43 = .ok (.if_icmp .eq 6, 3) := by decide +kernel
theorem dX4_hold_46 : decode cX4_hold 46 = .ok (.bipush (-13), 2) := by decide +kernel
theorem dX4_hold_48 : decode cX4_hold 48 = .ok (.ireturn, 1) := by decide +kernel
theorem dX4_hold_49 : decode cX4_hold 49 = .ok (.aload_n 0, 1) := by decide +kernel
theorem dX4_hold_50 : decode cX4_hold 50 = .ok (.iload_n 2, 1) := by decide +kernel
theorem dX4_hold_51 : decode cX4_hold 51 = .ok (.invokevirtual 68, 3) := by decide +kernel
theorem dX4_hold_54 : decode cX4_hold 54 = .ok (.iconst (-1), 1) := by decide +kernel
theorem dX4_hold_55 : decode cX4_hold 55 = .ok (.if_icmp .ne 12, 3) := by decide +kernel
theorem dX4_hold_58 : decode cX4_hold 58 = .ok (.aload_n 0, 1) := by decide +kernel
theorem dX4_hold_59 : decode cX4_hold 59 = .ok (.iload_n 2, 1) := by decide +kernel
theorem dX4_hold_60 : decode cX4_hold 60 = .ok (.invokevirtual 72, 3) := by decide +kernel
theorem dX4_hold_63 : decode cX4_hold 63 = .ok (.iconst (-1), 1) := by decide +kernel
theorem dX4_hold_64 : decode cX4_hold 64 = .ok (.if_icmp .eq 6, 3) := by decide +kernel
theorem dX4_hold_67 : decode cX4_hold 67 = .ok (.bipush (-14), 2) := by decide +kernel
theorem dX4_hold_69 : decode cX4_hold 69 = .ok (.ireturn, 1) := by decide +kernel
theorem dX4_hold_70 : decode cX4_hold 70 = .ok (.aload_n 0, 1) := by decide +kernel
theorem dX4_hold_71 : decode cX4_hold 71 = .ok (.getfield 52, 3) := by decide +kernel
theorem dX4_hold_74 : decode cX4_hold 74 = .ok (.iload_n 1, 1) := by decide +kernel
theorem dX4_hold_75 : decode cX4_hold 75 = .ok (.iload_n 2, 1) := by decide +kernel
theorem dX4_hold_76 : decode cX4_hold 76 = .ok (.iastore, 1) := by decide +kernel
theorem dX4_hold_77 : decode cX4_hold 77 = .ok (.aload_n 0, 1) := by decide +kernel
theorem dX4_hold_78 : decode cX4_hold 78 = .ok (.invokevirtual 94, 3) := by decide +kernel
theorem dX4_hold_81 : decode cX4_hold 81 = .ok (.ireturn, 1) := by decide +kernel
theorem dX4_release_0 : decode cX4_release 0 = .ok (.aload_n 0, 1) := by decide +kernel
theorem dX4_release_1 : decode cX4_release 1 = .ok (.iload_n 1, 1) := by decide +kernel
theorem dX4_release_2 : decode cX4_release 2 = .ok (.invokevirtual 91, 3) := by decide +kernel
theorem dX4_release_5 : decode cX4_release 5 = .ok (.ifCond .ne 6, 3) := by decide +kernel
theorem dX4_release_8 : decode cX4_release 8 = .ok (.bipush (-11), 2) := by decide +kernel
theorem dX4_release_10 : decode cX4_release 10 = .ok (.ireturn, 1) := by decide +kernel
theorem dX4_release_11 : decode cX4_release 11 = .ok (.aload_n 0, 1) := by decide +kernel
theorem dX4_release_12 : decode cX4_release 12 = .ok (.getfield 52, 3) := by decide +kernel
theorem dX4_release_15 : decode cX4_release 15 = .ok (.iload_n 1, 1) := by decide +kernel
theorem dX4_release_16 : decode cX4_release 16 = .ok (.iaload, 1) := by decide +kernel
theorem dX4_release_17 : decode cX4_release 17 = .ok (.istore_n 2, 1) := by decide +kernel
theorem dX4_release_18 : decode cX4_release 18 = .ok (.iload_n 2, 1) := by decide +kernel
theorem dX4_release_19 : decode cX4_release 19 = .ok (.iconst (-1), 1) := by decide +kernel
theorem dX4_release_20 : decode cX4_release 20 = .ok (.if_icmp .ne 6, 3) := by decide +kernel
theorem dX4_release_23 : decode cX4_release 23 = .ok (.bipush (-15), 2) := by decide +kernel
theorem dX4_release_25 : decode cX4_release 25 = .ok (.ireturn, 1) := by decide +kernel
theorem dX4_release_26 : decode cX4_release 26 = .ok (.aload_n 0, 1) := by decide +kernel
theorem dX4_release_27 : decode cX4_release 27 = .ok (.getfield 52, 3) := by decide +kernel
theorem dX4_release_30 : decode cX4_release 30 = .ok (.iload_n 1, 1) := by decide +kernel
theorem dX4_release_31 : decode cX4_release 31 = .ok (.iconst (-1), 1) := by decide +kernel
theorem dX4_release_32 : decode cX4_release 32 = .ok (.iastore, 1) := by decide +kernel
theorem dX4_release_33 : decode cX4_release 33 = .ok (.iload_n 2, 1) := by decide +kernel
theorem dX4_release_34 : decode cX4_release 34 = .ok (.ireturn, 1) := by decide +kernel
theorem dX4_rerail_0 : decode cX4_rerail 0 = .ok (.aload_n 0, 1) := by decide +kernel
theorem dX4_rerail_1 : decode cX4_rerail 1 = .ok (.iload_n 1, 1) := by decide +kernel
theorem dX4_rerail_2 : decode cX4_rerail 2 = .ok (.invokevirtual 91, 3) := by decide +kernel
theorem dX4_rerail_5 : decode cX4_rerail 5 = .ok (.ifCond .ne 6, 3) := by decide +kernel
theorem dX4_rerail_8 : decode cX4_rerail 8 = .ok (.bipush (-11), 2) := by decide +kernel
theorem dX4_rerail_10 : decode cX4_rerail 10 = .ok (.ireturn, 1) := by decide +kernel
theorem dX4_rerail_11 : decode cX4_rerail 11 = .ok (.aload_n 0, 1) := by decide +kernel
theorem dX4_rerail_12 : decode cX4_rerail 12 = .ok (.getfield 30, 3) := by decide +kernel
theorem dX4_rerail_15 : decode cX4_rerail 15 = .ok (.iload_n 1, 1) := by decide +kernel
theorem dX4_rerail_16 : decode cX4_rerail 16 = .ok (.invokestatic 64, 3) := by decide +kernel
theorem dX4_rerail_19 : decode cX4_rerail 19 = .ok (.ifCond .ne 6, 3) := by decide +kernel
theorem dX4_rerail_22 : decode cX4_rerail 22 = .ok (.bipush (-13), 2) := by decide +kernel
theorem dX4_rerail_24 : decode cX4_rerail 24 = .ok (.ireturn, 1) := by decide +kernel
theorem dX4_rerail_25 : decode cX4_rerail 25 = .ok (.aload_n 0, 1) := by decide +kernel
theorem dX4_rerail_26 : decode cX4_rerail 26 = .ok (.dup, 1) := by decide +kernel
theorem dX4_rerail_27 : decode cX4_rerail 27 = .ok (.getfield 30, 3) := by decide +kernel
theorem dX4_rerail_30 : decode cX4_rerail 30 = .ok (.iconst 1, 1) := by decide +kernel
theorem dX4_rerail_31 : decode cX4_rerail 31 = .ok (.iload_n 1, 1) := by decide +kernel
theorem dX4_rerail_32 : decode cX4_rerail 32 = .ok (.ishl, 1) := by decide +kernel
theorem dX4_rerail_33 : decode cX4_rerail 33 = .ok (.iconst (-1), 1) := by decide +kernel
theorem dX4_rerail_34 : decode cX4_rerail 34 = .ok (.ixor, 1) := by decide +kernel
theorem dX4_rerail_35 : decode cX4_rerail 35 = .ok (.iand, 1) := by decide +kernel
theorem dX4_rerail_36 : decode cX4_rerail 36 = .ok (.putfield 30, 3) := by decide +kernel
theorem dX4_rerail_39 : decode cX4_rerail 39 = .ok (.aload_n 0, 1) := by decide +kernel
theorem dX4_rerail_40 : decode cX4_rerail 40 = .ok (.getfield 30, 3) := by decide +kernel
theorem dX4_rerail_43 : decode cX4_rerail 43 = .ok (.invokestatic 86, 3) := by decide +kernel
theorem dX4_rerail_46 : decode cX4_rerail 46 = .ok (.ireturn, 1) := by decide +kernel
theorem dX4_letsIn_0 : decode cX4_letsIn 0 = .ok (.aload_n 0, 1) := by decide +kernel
theorem dX4_letsIn_1 : decode cX4_letsIn 1 = .ok (.iload_n 2, 1) := by decide +kernel
theorem dX4_letsIn_2 : decode cX4_letsIn 2 = .ok (.invokevirtual 72, 3) := by decide +kernel
theorem dX4_letsIn_5 : decode cX4_letsIn 5 = .ok (.istore_n 3, 1) := by decide +kernel
theorem dX4_letsIn_6 : decode cX4_letsIn 6 = .ok (.aload_n 0, 1) := by decide +kernel
theorem dX4_letsIn_7 : decode cX4_letsIn 7 = .ok (.iload_n 2, 1) := by decide +kernel
theorem dX4_letsIn_8 : decode cX4_letsIn 8 = .ok (.invokevirtual 68, 3) := by decide +kernel
theorem dX4_letsIn_11 : decode cX4_letsIn 11 = .ok (.iconst (-1), 1) := by decide +kernel
theorem dX4_letsIn_12 : decode cX4_letsIn 12 = .ok (.if_icmp .ne 17, 3) := by decide +kernel
theorem dX4_letsIn_15 : decode cX4_letsIn 15 = .ok (.iload_n 3, 1) := by decide +kernel
theorem dX4_letsIn_16 : decode cX4_letsIn 16 = .ok (.iconst (-1), 1) := by decide +kernel
theorem dX4_letsIn_17 : decode cX4_letsIn 17 = .ok (.if_icmp .eq 8, 3) := by decide +kernel
theorem dX4_letsIn_20 : decode cX4_letsIn 20 = .ok (.iload_n 3, 1) := by decide +kernel
theorem dX4_letsIn_21 : decode cX4_letsIn 21 = .ok (.iload_n 1, 1) := by decide +kernel
