theorem dX8_unlink_16 : decode cX8_unlink 16 = .ok (.iload_n 1, 1) := by decide +kernel
theorem dX8_unlink_17 : decode cX8_unlink 17 = .ok (.iload_n 2, 1) := by decide +kernel
theorem dX8_unlink_18 : decode cX8_unlink 18 = .ok (.invokevirtual 84, 3) := by decide +kernel
theorem dX8_unlink_21 : decode cX8_unlink 21 = .ok (.invokevirtual 76, 3) := by decide +kernel
theorem dX8_unlink_24 : decode cX8_unlink 24 = .ok (.ireturn, 1) := by decide +kernel
theorem dX8_putCat_0 : decode cX8_putCat 0 = .ok (.aload_n 0, 1) := by decide +kernel
theorem dX8_putCat_1 : decode cX8_putCat 1 = .ok (.getfield 25, 3) := by decide +kernel
theorem dX8_putCat_4 : decode cX8_putCat 4 = .ok (.aload_n 0, 1) := by decide +kernel
theorem dX8_putCat_5 : decode cX8_putCat 5 = .ok (.getfield 12, 3) := by decide +kernel
theorem dX8_putCat_8 : decode cX8_putCat 8 = .ok (.invokevirtual 68, 3) := by decide +kernel
theorem dX8_putCat_11 : decode cX8_putCat 11 = .ok (.aload_n 0, 1) := by decide +kernel
theorem dX8_putCat_12 : decode cX8_putCat 12 = .ok (.aload_n 0, 1) := by decide +kernel
theorem dX8_putCat_13 : decode cX8_putCat 13 = .ok (.getfield 12, 3) := by decide +kernel
theorem dX8_putCat_16 : decode cX8_putCat 16 = .ok (.iload_n 1, 1) := by decide +kernel
theorem dX8_putCat_17 : decode cX8_putCat 17 = .ok (.invokevirtual 87, 3) := by decide +kernel
theorem dX8_putCat_20 : decode cX8_putCat 20 = .ok (.invokevirtual 76, 3) := by decide +kernel
theorem dX8_putCat_23 : decode cX8_putCat 23 = .ok (.ireturn, 1) := by decide +kernel
theorem dX8_removeCat_0 : decode cX8_removeCat 0 = .ok (.aload_n 0, 1) := by decide +kernel
theorem dX8_removeCat_1 : decode cX8_removeCat 1 = .ok (.getfield 25, 3) := by decide +kernel
theorem dX8_removeCat_4 : decode cX8_removeCat 4 = .ok (.aload_n 0, 1) := by decide +kernel
theorem dX8_removeCat_5 : decode cX8_removeCat 5 = .ok (.getfield 12, 3) := by decide +kernel
theorem dX8_removeCat_8 : decode cX8_removeCat 8 = .ok (.invokevirtual 68, 3) := by decide +kernel
theorem dX8_removeCat_11 : decode cX8_removeCat 11 = .ok (.aload_n 0, 1) := by decide +kernel
theorem dX8_removeCat_12 : decode cX8_removeCat 12 = .ok (.aload_n 0, 1) := by decide +kernel
theorem dX8_removeCat_13 : decode cX8_removeCat 13 = .ok (.getfield 12, 3) := by decide +kernel
theorem dX8_removeCat_16 : decode cX8_removeCat 16 = .ok (.iload_n 1, 1) := by decide +kernel
theorem dX8_removeCat_17 : decode cX8_removeCat 17 = .ok (.invokevirtual 90, 3) := by decide +kernel
theorem dX8_removeCat_20 : decode cX8_removeCat 20 = .ok (.invokevirtual 76, 3) := by decide +kernel
theorem dX8_removeCat_23 : decode cX8_removeCat 23 = .ok (.ireturn, 1) := by decide +kernel
theorem dX8_blockCount_0 : decode cX8_blockCount 0 = .ok (.aload_n 0, 1) := by decide +kernel
theorem dX8_blockCount_1 : decode cX8_blockCount 1 = .ok (.getfield 12, 3) := by decide +kernel
theorem dX8_blockCount_4 : decode cX8_blockCount 4 = .ok (.getfield 93, 3) := by decide +kernel
theorem dX8_blockCount_7 : decode cX8_blockCount 7 = .ok (.ireturn, 1) := by decide +kernel
theorem dX8_length_0 : decode cX8_length 0 = .ok (.aload_n 0, 1) := by decide +kernel
theorem dX8_length_1 : decode cX8_length 1 = .ok (.iload_n 1, 1) := by decide +kernel
theorem dX8_length_2 : decode cX8_length 2 = .ok (.invokevirtual 96, 3) := by decide +kernel
theorem dX8_length_5 : decode cX8_length 5 = .ok (.aload_n 0, 1) := by decide +kernel
theorem dX8_length_6 : decode cX8_length 6 = .ok (.getfield 12, 3) := by decide +kernel
theorem dX8_length_9 : decode cX8_length 9 = .ok (.getfield 100, 3) := by decide +kernel
theorem dX8_length_12 : decode cX8_length 12 = .ok (.iload_n 1, 1) := by decide +kernel
theorem dX8_length_13 : decode cX8_length 13 = .ok (.iaload, 1) := by decide +kernel
theorem dX8_length_14 : decode cX8_length 14 = .ok (.ireturn, 1) := by decide +kernel
theorem dX8_isCushion_0 : decode cX8_isCushion 0 = .ok (.aload_n 0, 1) := by decide +kernel
theorem dX8_isCushion_1 : decode cX8_isCushion 1 = .ok (.iload_n 1, 1) := by decide +kernel
theorem dX8_isCushion_2 : decode cX8_isCushion 2 = .ok (.invokevirtual 96, 3) := by decide +kernel
theorem dX8_isCushion_5 : decode cX8_isCushion 5 = .ok (.aload_n 0, 1) := by decide +kernel
theorem dX8_isCushion_6 : decode cX8_isCushion 6 = .ok (.getfield 12, 3) := by decide +kernel
theorem dX8_isCushion_9 : decode cX8_isCushion 9 = .ok (.getfield 104, 3) := by decide +kernel
theorem dX8_isCushion_12 : decode cX8_isCushion 12 = .ok (.iload_n 1, 1) := by decide +kernel
theorem dX8_isCushion_13 : decode cX8_isCushion 13 = .ok (.invokestatic 107, 3) := by decide +kernel
theorem dX8_isCushion_16 : decode cX8_isCushion 16 = .ok (.ireturn, 1) := by decide +kernel
theorem dX8_hasCat_0 : decode cX8_hasCat 0 = .ok (.aload_n 0, 1) := by decide +kernel
theorem dX8_hasCat_1 : decode cX8_hasCat 1 = .ok (.iload_n 1, 1) := by decide +kernel
theorem dX8_hasCat_2 : decode cX8_hasCat 2 = .ok (.invokevirtual 96, 3) := by decide +kernel
theorem dX8_hasCat_5 : decode cX8_hasCat 5 = .ok (.aload_n 0, 1) := by decide +kernel
theorem dX8_hasCat_6 : decode cX8_hasCat 6 = .ok (.getfield 12, 3) := by decide +kernel
theorem dX8_hasCat_9 : decode cX8_hasCat 9 = .ok (.getfield 111, 3) := by decide +kernel
theorem dX8_hasCat_12 : decode cX8_hasCat 12 = .ok (.iload_n 1, 1) := by decide +kernel
theorem dX8_hasCat_13 : decode cX8_hasCat 13 = .ok (.invokestatic 107, 3) := by decide +kernel
theorem dX8_hasCat_16 : decode cX8_hasCat 16 = .ok (.ireturn, 1) := by decide +kernel
theorem dX8_areLinked_0 : decode cX8_areLinked 0 = .ok (.aload_n 0, 1) := by decide +kernel
theorem dX8_areLinked_1 : decode cX8_areLinked 1 = .ok (.iload_n 1, 1) := by decide +kernel
theorem dX8_areLinked_2 : decode cX8_areLinked 2 = .ok (.invokevirtual 96, 3) := by decide +kernel
theorem dX8_areLinked_5 : decode cX8_areLinked 5 = .ok (.aload_n 0, 1) := by decide +kernel
theorem dX8_areLinked_6 : decode cX8_areLinked 6 = .ok (.iload_n 2, 1) := by decide +kernel
theorem dX8_areLinked_7 : decode cX8_areLinked 7 = .ok (.invokevirtual 96, 3) := by decide +kernel
theorem dX8_areLinked_10 : decode cX8_areLinked 10 = .ok (.aload_n 0, 1) := by decide +kernel
theorem dX8_areLinked_11 : decode cX8_areLinked 11 = .ok (.getfield 12, 3) := by decide +kernel
theorem dX8_areLinked_14 : decode cX8_areLinked 14 = .ok (.iload_n 1, 1) := by decide +kernel
theorem dX8_areLinked_15 : decode cX8_areLinked 15 = .ok (.iload_n 2, 1) := by decide +kernel
theorem dX8_areLinked_16 : decode cX8_areLinked 16 = .ok (.invokevirtual 114, 3) := by decide +kernel
theorem dX8_areLinked_19 : decode cX8_areLinked 19 = .ok (.ireturn, 1) := by decide +kernel
theorem dX8_trainIn_0 : decode cX8_trainIn 0 = .ok (.aload_n 0, 1) := by decide +kernel
theorem dX8_trainIn_1 : decode cX8_trainIn 1 = .ok (.iload_n 1, 1) := by decide +kernel
theorem dX8_trainIn_2 : decode cX8_trainIn 2 = .ok (.invokevirtual 96, 3) := by decide +kernel
theorem dX8_trainIn_5 : decode cX8_trainIn 5 = .ok (.aload_n 0, 1) := by decide +kernel
theorem dX8_trainIn_6 : decode cX8_trainIn 6 = .ok (.getfield 12, 3) := by decide +kernel
theorem dX8_trainIn_9 : decode cX8_trainIn 9 = .ok (.iload_n 1, 1) := by decide +kernel
theorem dX8_trainIn_10 : decode cX8_trainIn 10 = .ok (.invokevirtual 125, 3) := by decide +kernel
theorem dX8_trainIn_13 : decode cX8_trainIn 13 = .ok (.invokestatic 128, 3) := by decide +kernel
theorem dX8_trainIn_16 : decode cX8_trainIn 16 = .ok (.ireturn, 1) := by decide +kernel
theorem dX8_reservedBy_0 : decode cX8_reservedBy 0 = .ok (.aload_n 0, 1) := by decide +kernel
theorem dX8_reservedBy_1 : decode cX8_reservedBy 1 = .ok (.iload_n 1, 1) := by decide +kernel
theorem dX8_reservedBy_2 : decode cX8_reservedBy 2 = .ok (.invokevirtual 96, 3) := by decide +kernel
theorem dX8_reservedBy_5 : decode cX8_reservedBy 5 = .ok (.aload_n 0, 1) := by decide +kernel
theorem dX8_reservedBy_6 : decode cX8_reservedBy 6 = .ok (.getfield 12, 3) := by decide +kernel
theorem dX8_reservedBy_9 : decode cX8_reservedBy 9 = .ok (.iload_n 1, 1) := by decide +kernel
theorem dX8_reservedBy_10 : decode cX8_reservedBy 10 = .ok (.invokevirtual 131, 3) := by decide +kernel
theorem dX8_reservedBy_13 : decode cX8_reservedBy 13 = .ok (.invokestatic 128, 3) := by decide +kernel
theorem dX8_reservedBy_16 : decode cX8_reservedBy 16 = .ok (.ireturn, 1) := by decide +kernel
theorem dX8_signal_0 : decode cX8_signal 0 = .ok (.aload_n 0, 1) := by decide +kernel
theorem dX8_signal_1 : decode cX8_signal 1 = .ok (.iload_n 1, 1) := by decide +kernel
theorem dX8_signal_2 : decode cX8_signal 2 = .ok (.invokevirtual 96, 3) := by decide +kernel
theorem dX8_signal_5 : decode cX8_signal 5 = .ok (.aload_n 0, 1) := by decide +kernel
theorem dX8_signal_6 : decode cX8_signal 6 = .ok (.getfield 12, 3) := by decide +kernel
theorem dX8_signal_9 : decode cX8_signal 9 = .ok (.iload_n 1, 1) := by decide +kernel
theorem dX8_signal_10 : decode cX8_signal 10 = .ok (.invokevirtual 134, 3) := by decide +kernel
theorem dX8_signal_13 : decode cX8_signal 13 = .ok (.ireturn, 1) := by decide +kernel
theorem dX8_distance_0 : decode cX8_distance 0 = .ok (.aload_n 0, 1) := by decide +kernel
theorem dX8_distance_1 : decode cX8_distance 1 = .ok (.iload_n 1, 1) := by decide +kernel
theorem dX8_distance_2 : decode cX8_distance 2 = .ok (.invokevirtual 96, 3) := by decide +kernel
theorem dX8_distance_5 : decode cX8_distance 5 = .ok (.aload_n 0, 1) := by decide +kernel
theorem dX8_distance_6 : decode cX8_distance 6 = .ok (.iload_n 2, 1) := by decide +kernel
theorem dX8_distance_7 : decode cX8_distance 7 = .ok (.invokevirtual 96, 3) := by decide +kernel
theorem dX8_distance_10 : decode cX8_distance 10 = .ok (.aload_n 0, 1) := by decide +kernel
theorem dX8_distance_11 : decode cX8_distance 11 = .ok (.getfield 32, 3) := by decide +kernel
theorem dX8_distance_14 : decode cX8_distance 14 = .ok (.aload_n 0, 1) := by decide +kernel
theorem dX8_distance_15 : decode cX8_distance 15 = .ok (.getfield 12, 3) := by decide +kernel
theorem dX8_distance_18 : decode cX8_distance 18 = .ok (.iload_n 1, 1) := by decide +kernel
theorem dX8_distance_19 : decode cX8_distance 19 = .ok (.invokevirtual 138, 3) := by decide +kernel
theorem dX8_distance_22 : decode cX8_distance 22 = .ok (.aload_n 0, 1) := by decide +kernel
theorem dX8_distance_23 : decode cX8_distance 23 = .ok (.getfield 32, 3) := by decide +kernel
theorem dX8_distance_26 : decode cX8_distance 26 = .ok (.getfield 142, 3) := by decide +kernel
theorem dX8_distance_29 : decode cX8_distance 29 = .ok (.iload_n 2, 1) := by decide +kernel
theorem dX8_distance_30 : decode cX8_distance 30 = .ok (.iaload, 1) := by decide +kernel
theorem dX8_distance_31 : decode cX8_distance 31 = .ok (.sipush 1000, 3) := by decide +kernel
theorem dX8_distance_34 : decode cX8_distance 34 = .ok (.if_icmp .ge 15, 3) := by decide +kernel
theorem dX8_distance_37 : decode cX8_distance 37 = .ok (.aload_n 0, 1) := by decide +kernel
theorem dX8_distance_38 : decode cX8_distance 38 = .ok (.getfield 32, 3) := by decide +kernel
theorem dX8_distance_41 : decode cX8_distance 41 = .ok (.getfield 142, 3) := by decide +kernel
theorem dX8_distance_44 : decode cX8_distance 44 = .ok (.iload_n 2, 1) := by decide +kernel
theorem dX8_distance_45 : decode cX8_distance 45 = .ok (.iaload, 1) := by decide +kernel
theorem dX8_distance_46 : decode cX8_distance 46 = .ok (.goto 4, 3) := by decide +kernel
theorem dX8_distance_49 : decode cX8_distance 49 = .ok (.iconst (-1), 1) := by decide +kernel
theorem dX8_distance_50 : decode cX8_distance 50 = .ok (.invokestatic 128, 3) := by decide +kernel
theorem dX8_distance_53 : decode cX8_distance 53 = .ok (.ireturn, 1) := by decide +kernel
theorem dX8_distanceByRounds_0 : decode cX8_distanceByRounds 0 = .ok (.aload_n 0, 1) := by decide +kernel
theorem dX8_distanceByRounds_1 : decode cX8_distanceByRounds 1 = .ok (.iload_n 1, 1) := by decide +kernel
theorem dX8_distanceByRounds_2 : decode cX8_distanceByRounds 2 = .ok (.invokevirtual 96, 3) := by decide +kernel
theorem dX8_distanceByRounds_5 : decode cX8_distanceByRounds 5 = .ok (.aload_n 0, 1) := by decide +kernel
theorem dX8_distanceByRounds_6 : decode cX8_distanceByRounds 6 = .ok (.iload_n 2, 1) := by decide +kernel
theorem dX8_distanceByRounds_7 : decode cX8_distanceByRounds 7 = .ok (.invokevirtual 96, 3) := by decide +kernel
theorem dX8_distanceByRounds_10 : decode cX8_distanceByRounds 10 = .ok (.aload_n 0, 1) := by decide +kernel
theorem dX8_distanceByRounds_11 : decode cX8_distanceByRounds 11 = .ok (.getfield 32, 3) := by decide +kernel
theorem dX8_distanceByRounds_14 : decode cX8_distanceByRounds 14 = .ok (.aload_n 0, 1) := by decide +kernel
theorem dX8_distanceByRounds_15 : decode cX8_distanceByRounds 15 = .ok (.getfield 12, 3) := by decide +kernel
theorem dX8_distanceByRounds_18 : decode cX8_distanceByRounds 18 = .ok (.iload_n 1, 1) := by decide +kernel
theorem dX8_distanceByRounds_19 : decode cX8_distanceByRounds 19 = .ok (.invokevirtual 145, 3) := by decide +kernel
theorem dX8_distanceByRounds_22 : decode cX8_distanceByRounds 22 = .ok (.aload_n 0, 1) := by decide +kernel
theorem dX8_distanceByRounds_23 : decode cX8_distanceByRounds 23 = .ok (.getfield 32, 3) := by decide +kernel
theorem dX8_distanceByRounds_26 : decode cX8_distanceByRounds 26 = .ok (.getfield 148, 3) := by decide +kernel
theorem dX8_distanceByRounds_29 : decode cX8_distanceByRounds 29 = .ok (.iload_n 2, 1) := by decide +kernel
theorem dX8_distanceByRounds_30 : decode cX8_distanceByRounds 30 = .ok (.iaload, 1) := by decide +kernel
theorem dX8_distanceByRounds_31 : decode cX8_distanceByRounds 31 = .ok (.sipush 1000, 3) := by decide +kernel
theorem dX8_distanceByRounds_34 : decode cX8_distanceByRounds 34 = .ok (.if_icmp .ge 15, 3) := by decide +kernel
theorem dX8_distanceByRounds_37 : decode cX8_distanceByRounds 37 = .ok (.aload_n 0, 1) := by decide +kernel
theorem dX8_distanceByRounds_38 : decode cX8_distanceByRounds 38 = .ok (.getfield 32, 3) := by decide +kernel
theorem dX8_distanceByRounds_41 : decode cX8_distanceByRounds 41 = .ok (.getfield 148, 3) := by decide +kernel
theorem dX8_distanceByRounds_44 : decode cX8_distanceByRounds 44 = .ok (.iload_n 2, 1) := by decide +kernel
theorem dX8_distanceByRounds_45 : decode cX8_distanceByRounds 45 = .ok (.iaload, 1) := by decide +kernel
theorem dX8_distanceByRounds_46 : decode cX8_distanceByRounds 46 = .ok (.goto 4, 3) := by decide +kernel
theorem dX8_distanceByRounds_49 : decode cX8_distanceByRounds 49 = .ok (.iconst (-1), 1) := by decide +kernel
theorem dX8_distanceByRounds_50 : decode cX8_distanceByRounds 50 = .ok (.invokestatic 128, 3) := by decide +kernel
theorem dX8_distanceByRounds_53 : decode cX8_distanceByRounds 53 = .ok (.ireturn, 1) := by decide +kernel
theorem dX8_nextBlock_0 : decode cX8_nextBlock 0 = .ok (.aload_n 0, 1) := by decide +kernel
theorem dX8_nextBlock_1 : decode cX8_nextBlock 1 = .ok (.iload_n 1, 1) := by decide +kernel
theorem dX8_nextBlock_2 : decode cX8_nextBlock 2 = .ok (.invokevirtual 151, 3) := by decide +kernel
theorem dX8_nextBlock_5 : decode cX8_nextBlock 5 = .ok (.aload_n 0, 1) := by decide +kernel
theorem dX8_nextBlock_6 : decode cX8_nextBlock 6 = .ok (.getfield 32, 3) := by decide +kernel
theorem dX8_nextBlock_9 : decode cX8_nextBlock 9 = .ok (.aload_n 0, 1) := by decide +kernel
theorem dX8_nextBlock_10 : decode cX8_nextBlock 10 = .ok (.getfield 12, 3) := by decide +kernel
theorem dX8_nextBlock_13 : decode cX8_nextBlock 13 = .ok (.iload_n 1, 1) := by decide +kernel
theorem dX8_nextBlock_14 : decode cX8_nextBlock 14 = .ok (.invokevirtual 154, 3) := by decide +kernel
theorem dX8_nextBlock_17 : decode cX8_nextBlock 17 = .ok (.invokestatic 128, 3) := by decide +kernel
theorem dX8_nextBlock_20 : decode cX8_nextBlock 20 = .ok (.ireturn, 1) := by decide +kernel
theorem dX8_partCount_0 : decode cX8_partCount 0 = .ok (.aload_n 0, 1) := by decide +kernel
theorem dX8_partCount_1 : decode cX8_partCount 1 = .ok (.getfield 32, 3) := by decide +kernel
theorem dX8_partCount_4 : decode cX8_partCount 4 = .ok (.aload_n 0, 1) := by decide +kernel
theorem dX8_partCount_5 : decode cX8_partCount 5 = .ok (.getfield 12, 3) := by decide +kernel
theorem dX8_partCount_8 : decode cX8_partCount 8 = .ok (.invokevirtual 158, 3) := by decide +kernel
theorem dX8_partCount_11 : decode cX8_partCount 11 = .ok (.ireturn, 1) := by decide +kernel
theorem dX8_partCountByUnions_0 : decode cX8_partCountByUnions 0 = .ok (.aload_n 0, 1) := by decide +kernel
theorem dX8_partCountByUnions_1 : decode cX8_partCountByUnions 1 = .ok (.getfield 32, 3) := by decide +kernel
theorem dX8_partCountByUnions_4 : decode cX8_partCountByUnions 4 = .ok (.aload_n 0, 1) := by decide +kernel
theorem dX8_partCountByUnions_5 : decode cX8_partCountByUnions 5 = .ok (.getfield 12, 3) := by decide +kernel
theorem dX8_partCountByUnions_8 : decode cX8_partCountByUnions 8 = .ok (.invokevirtual 162, 3) := by decide +kernel
theorem dX8_partCountByUnions_11 : decode cX8_partCountByUnions 11 = .ok (.ireturn, 1) := by decide +kernel
theorem dX8_nearestCushion_0 : decode cX8_nearestCushion 0 = .ok (.aload_n 0, 1) := by decide +kernel
theorem dX8_nearestCushion_1 : decode cX8_nearestCushion 1 = .ok (.iload_n 1, 1) := by decide +kernel
theorem dX8_nearestCushion_2 : decode cX8_nearestCushion 2 = .ok (.invokevirtual 96, 3) := by decide +kernel
theorem dX8_nearestCushion_5 : decode cX8_nearestCushion 5 = .ok (.aload_n 0, 1) := by decide +kernel
theorem dX8_nearestCushion_6 : decode cX8_nearestCushion 6 = .ok (.getfield 32, 3) := by decide +kernel
theorem dX8_nearestCushion_9 : decode cX8_nearestCushion 9 = .ok (.aload_n 0, 1) := by decide +kernel
theorem dX8_nearestCushion_10 : decode cX8_nearestCushion 10 = .ok (.getfield 12, 3) := by decide +kernel
theorem dX8_nearestCushion_13 : decode cX8_nearestCushion 13 = .ok (.iload_n 1, 1) := by decide +kernel
theorem dX8_nearestCushion_14 : decode cX8_nearestCushion 14 = .ok (.invokevirtual 165, 3) := by decide +kernel
theorem dX8_nearestCushion_17 : decode cX8_nearestCushion 17 = .ok (.invokestatic 128, 3) := by decide +kernel
theorem dX8_nearestCushion_20 : decode cX8_nearestCushion 20 = .ok (.ireturn, 1) := by decide +kernel
theorem dX8_addTrain_0 : decode cX8_addTrain 0 = .ok (.aload_n 0, 1) := by decide +kernel
theorem dX8_addTrain_1 : decode cX8_addTrain 1 = .ok (.getfield 25, 3) := by decide +kernel
theorem dX8_addTrain_4 : decode cX8_addTrain 4 = .ok (.aload_n 0, 1) := by decide +kernel
theorem dX8_addTrain_5 : decode cX8_addTrain 5 = .ok (.getfield 12, 3) := by decide +kernel
theorem dX8_addTrain_8 : decode cX8_addTrain 8 = .ok (.invokevirtual 68, 3) := by decide +kernel
theorem dX8_addTrain_11 : decode cX8_addTrain 11 = .ok (.aload_n 0, 1) := by decide +kernel
theorem dX8_addTrain_12 : decode cX8_addTrain 12 = .ok (.aload_n 0, 1) := by decide +kernel
theorem dX8_addTrain_13 : decode cX8_addTrain 13 = .ok (.getfield 12, 3) := by decide +kernel
theorem dX8_addTrain_16 : decode cX8_addTrain 16 = .ok (.iload_n 1, 1) := by decide +kernel
theorem dX8_addTrain_17 : decode cX8_addTrain 17 = .ok (.iload_n 2, 1) := by decide +kernel
theorem dX8_addTrain_18 : decode cX8_addTrain 18 = .ok (.invokevirtual 168, 3) := by decide +kernel
theorem dX8_addTrain_21 : decode cX8_addTrain 21 = .ok (.invokevirtual 76, 3) := by decide +kernel
theorem dX8_addTrain_24 : decode cX8_addTrain 24 = .ok (.ireturn, 1) := by decide +kernel
theorem dX8_setGoal_0 : decode cX8_setGoal 0 = .ok (.aload_n 0, 1) := by decide +kernel
theorem dX8_setGoal_1 : decode cX8_setGoal 1 = .ok (.getfield 25, 3) := by decide +kernel
theorem dX8_setGoal_4 : decode cX8_setGoal 4 = .ok (.aload_n 0, 1) := by decide +kernel
theorem dX8_setGoal_5 : decode cX8_setGoal 5 = .ok (.getfield 12, 3) := by decide +kernel
theorem dX8_setGoal_8 : decode cX8_setGoal 8 = .ok (.invokevirtual 68, 3) := by decide +kernel
theorem dX8_setGoal_11 : decode cX8_setGoal 11 = .ok (.aload_n 0, 1) := by decide +kernel
theorem dX8_setGoal_12 : decode cX8_setGoal 12 = .ok (.aload_n 0, 1) := by decide +kernel
theorem dX8_setGoal_13 : decode cX8_setGoal 13 = .ok (.getfield 39, 3) := by decide +kernel
theorem dX8_setGoal_16 : decode cX8_setGoal 16 = .ok (.aload_n 0, 1) := by decide +kernel
theorem dX8_setGoal_17 : decode cX8_setGoal 17 = .ok (.getfield 12, 3) := by decide +kernel
theorem dX8_setGoal_20 : decode cX8_setGoal 20 = .ok (.iload_n 1, 1) := by decide +kernel
theorem dX8_setGoal_21 : decode cX8_setGoal 21 = .ok (.iload_n 2, 1) := by decide +kernel
theorem dX8_setGoal_22 : decode cX8_setGoal 22 = .ok (.invokevirtual 171, 3) := by decide +kernel
theorem dX8_setGoal_25 : decode cX8_setGoal 25 = .ok (.invokevirtual 76, 3) := by decide +kernel
theorem dX8_setGoal_28 : decode cX8_setGoal 28 = .ok (.ireturn, 1) := by decide +kernel
theorem dX8_clearGoal_0 : decode cX8_clearGoal 0 = .ok (.aload_n 0, 1) := by decide +kernel
theorem dX8_clearGoal_1 : decode cX8_clearGoal 1 = .ok (.getfield 25, 3) := by decide +kernel
theorem dX8_clearGoal_4 : decode cX8_clearGoal 4 = .ok (.aload_n 0, 1) := by decide +kernel
theorem dX8_clearGoal_5 : decode cX8_clearGoal 5 = .ok (.getfield 12, 3) := by decide +kernel
theorem dX8_clearGoal_8 : decode cX8_clearGoal 8 = .ok (.invokevirtual 68, 3) := by decide +kernel
theorem dX8_clearGoal_11 : decode cX8_clearGoal 11 = .ok (.aload_n 0, 1) := by decide +kernel
theorem dX8_clearGoal_12 : decode cX8_clearGoal 12 = .ok (.aload_n 0, 1) := by decide +kernel
theorem dX8_clearGoal_13 : decode cX8_clearGoal 13 = .ok (.getfield 12, 3) := by decide +kernel
theorem dX8_clearGoal_16 : decode cX8_clearGoal 16 = .ok (.iload_n 1, 1) := by decide +kernel
theorem dX8_clearGoal_17 : decode cX8_clearGoal 17 = .ok (.invokevirtual 175, 3) := by decide +kernel
theorem dX8_clearGoal_20 : decode cX8_clearGoal 20 = .ok (.invokevirtual 76, 3) := by decide +kernel
theorem dX8_clearGoal_23 : decode cX8_clearGoal 23 = .ok (.ireturn, 1) := by decide +kernel
theorem dX8_reserve_0 : decode cX8_reserve 0 = .ok (.aload_n 0, 1) := by decide +kernel
theorem dX8_reserve_1 : decode cX8_reserve 1 = .ok (.getfield 25, 3) := by decide +kernel
theorem dX8_reserve_4 : decode cX8_reserve 4 = .ok (.aload_n 0, 1) := by decide +kernel
theorem dX8_reserve_5 : decode cX8_reserve 5 = .ok (.getfield 12, 3) := by decide +kernel
theorem dX8_reserve_8 : decode cX8_reserve 8 = .ok (.invokevirtual 68, 3) := by decide +kernel
theorem dX8_reserve_11 : decode cX8_reserve 11 = .ok (.aload_n 0, 1) := by decide +kernel
theorem dX8_reserve_12 : decode cX8_reserve 12 = .ok (.aload_n 0, 1) := by decide +kernel
theorem dX8_reserve_13 : decode cX8_reserve 13 = .ok (.getfield 12, 3) := by decide +kernel
theorem dX8_reserve_16 : decode cX8_reserve 16 = .ok (.iload_n 1, 1) := by decide +kernel
theorem dX8_reserve_17 : decode cX8_reserve 17 = .ok (.iload_n 2, 1) := by decide +kernel
theorem dX8_reserve_18 : decode cX8_reserve 18 = .ok (.invokevirtual 178, 3) := by decide +kernel
theorem dX8_reserve_21 : decode cX8_reserve 21 = .ok (.invokevirtual 76, 3) := by decide +kernel
theorem dX8_reserve_24 : decode cX8_reserve 24 = .ok (.ireturn, 1) := by decide +kernel
theorem dX8_cancelReservation_0 : decode cX8_cancelReservation 0 = .ok (.aload_n 0, 1) := by decide +kernel
theorem dX8_cancelReservation_1 : decode cX8_cancelReservation 1 = .ok (.getfield 25, 3) := by decide +kernel
theorem dX8_cancelReservation_4 : decode cX8_cancelReservation 4 = .ok (.aload_n 0, 1) := by decide +kernel
theorem dX8_cancelReservation_5 : decode cX8_cancelReservation 5 = .ok (.getfield 12, 3) := by decide +kernel
theorem dX8_cancelReservation_8 : decode cX8_cancelReservation 8 = .ok (.invokevirtual 68, 3) := by decide +kernel
theorem dX8_cancelReservation_11 : decode cX8_cancelReservation 11 = .ok (.aload_n 0, 1) := by decide +kernel
theorem dX8_cancelReservation_12 : decode cX8_cancelReservation 12 = .ok (.aload_n 0, 1) := by decide +kernel
theorem dX8_cancelReservation_13 : decode cX8_cancelReservation 13 = .ok (.getfield 12, 3) := by decide +kernel
theorem dX8_cancelReservation_16 : decode cX8_cancelReservation 16 = .ok (.iload_n 1, 1) := by decide +kernel
theorem dX8_cancelReservation_17 : decode cX8_cancelReservation 17 = .ok (.invokevirtual 181, 3) := by decide +kernel
theorem dX8_cancelReservation_20 : decode cX8_cancelReservation 20 = .ok (.invokevirtual 76, 3) := by decide +kernel
theorem dX8_cancelReservation_23 : decode cX8_cancelReservation 23 = .ok (.ireturn, 1) := by decide +kernel
theorem dX8_rescue_0 : decode cX8_rescue 0 = .ok (.aload_n 0, 1) := by decide +kernel
theorem dX8_rescue_1 : decode cX8_rescue 1 = .ok (.getfield 25, 3) := by decide +kernel
theorem dX8_rescue_4 : decode cX8_rescue 4 = .ok (.aload_n 0, 1) := by decide +kernel
theorem dX8_rescue_5 : decode cX8_rescue 5 = .ok (.getfield 12, 3) := by decide +kernel
theorem dX8_rescue_8 : decode cX8_rescue 8 = .ok (.invokevirtual 68, 3) := by decide +kernel
theorem dX8_rescue_11 : decode cX8_rescue 11 = .ok (.aload_n 0, 1) := by decide +kernel
theorem dX8_rescue_12 : decode cX8_rescue 12 = .ok (.aload_n 0, 1) := by decide +kernel
theorem dX8_rescue_13 : decode cX8_rescue 13 = .ok (.getfield 12, 3) := by decide +kernel
theorem dX8_rescue_16 : decode cX8_rescue 16 = .ok (.iload_n 1, 1) := by decide +kernel
theorem dX8_rescue_17 : decode cX8_rescue 17 = .ok (.invokevirtual 184, 3) := by decide +kernel
theorem dX8_rescue_20 : decode cX8_rescue 20 = .ok (.invokevirtual 76, 3) := by decide +kernel
theorem dX8_rescue_23 : decode cX8_rescue 23 = .ok (.ireturn, 1) := by decide +kernel
theorem dX8_trainCount_0 : decode cX8_trainCount 0 = .ok (.aload_n 0, 1) := by decide +kernel
theorem dX8_trainCount_1 : decode cX8_trainCount 1 = .ok (.getfield 12, 3) := by decide +kernel
theorem dX8_trainCount_4 : decode cX8_trainCount 4 = .ok (.getfield 187, 3) := by decide +kernel
theorem dX8_trainCount_7 : decode cX8_trainCount 7 = .ok (.ireturn, 1) := by decide +kernel
theorem dX8_blockOf_0 : decode cX8_blockOf 0 = .ok (.aload_n 0, 1) := by decide +kernel
theorem dX8_blockOf_1 : decode cX8_blockOf 1 = .ok (.iload_n 1, 1) := by decide +kernel
theorem dX8_blockOf_2 : decode cX8_blockOf 2 = .ok (.invokevirtual 151, 3) := by decide +kernel
theorem dX8_blockOf_5 : decode cX8_blockOf 5 = .ok (.aload_n 0, 1) := by decide +kernel
theorem dX8_blockOf_6 : decode cX8_blockOf 6 = .ok (.getfield 12, 3) := by decide +kernel
theorem dX8_blockOf_9 : decode cX8_blockOf 9 = .ok (.getfield 190, 3) := by decide +kernel
theorem dX8_blockOf_12 : decode cX8_blockOf 12 = .ok (.iload_n 1, 1) := by decide +kernel
theorem dX8_blockOf_13 : decode cX8_blockOf 13 = .ok (.iaload, 1) := by decide +kernel
theorem dX8_blockOf_14 : decode cX8_blockOf 14 = .ok (.ireturn, 1) := by decide +kernel
theorem dX8_priority_0 : decode cX8_priority 0 = .ok (.aload_n 0, 1) := by decide +kernel
theorem dX8_priority_1 : decode cX8_priority 1 = .ok (.iload_n 1, 1) := by decide +kernel
theorem dX8_priority_2 : decode cX8_priority 2 = .ok (.invokevirtual 151, 3) := by decide +kernel
theorem dX8_priority_5 : decode cX8_priority 5 = .ok (.aload_n 0, 1) := by decide +kernel
theorem dX8_priority_6 : decode cX8_priority 6 = .ok (.getfield 12, 3) := by decide +kernel
theorem dX8_priority_9 : decode cX8_priority 9 = .ok (.getfield 193, 3) := by decide +kernel
theorem dX8_priority_12 : decode cX8_priority 12 = .ok (.iload_n 1, 1) := by decide +kernel
theorem dX8_priority_13 : decode cX8_priority 13 = .ok (.iaload, 1) := by decide +kernel
theorem dX8_priority_14 : decode cX8_priority 14 = .ok (.ireturn, 1) := by decide +kernel
theorem dX8_remainingTicks_0 : decode cX8_remainingTicks 0 = .ok (.aload_n 0, 1) := by decide +kernel
theorem dX8_remainingTicks_1 : decode cX8_remainingTicks 1 = .ok (.iload_n 1, 1) := by decide +kernel
theorem dX8_remainingTicks_2 : decode cX8_remainingTicks 2 = .ok (.invokevirtual 151, 3) := by decide +kernel
theorem dX8_remainingTicks_5 : decode cX8_remainingTicks 5 = .ok (.aload_n 0, 1) := by decide +kernel
theorem dX8_remainingTicks_6 : decode cX8_remainingTicks 6 = .ok (.getfield 12, 3) := by decide +kernel
theorem dX8_remainingTicks_9 : decode cX8_remainingTicks 9 = .ok (.getfield 196, 3) := by decide +kernel
theorem dX8_remainingTicks_12 : decode cX8_remainingTicks 12 = .ok (.iload_n 1, 1) := by decide +kernel
theorem dX8_remainingTicks_13 : decode cX8_remainingTicks 13 = .ok (.iaload, 1) := by decide +kernel
theorem dX8_remainingTicks_14 : decode cX8_remainingTicks 14 = .ok (.ireturn, 1) := by decide +kernel
theorem dX8_goal_0 : decode cX8_goal 0 = .ok (.aload_n 0, 1) := by decide +kernel
theorem dX8_goal_1 : decode cX8_goal 1 = .ok (.iload_n 1, 1) := by decide +kernel
theorem dX8_goal_2 : decode cX8_goal 2 = .ok (.invokevirtual 151, 3) := by decide +kernel
theorem dX8_goal_5 : decode cX8_goal 5 = .ok (.aload_n 0, 1) := by decide +kernel
theorem dX8_goal_6 : decode cX8_goal 6 = .ok (.getfield 12, 3) := by decide +kernel
theorem dX8_goal_9 : decode cX8_goal 9 = .ok (.getfield 199, 3) := by decide +kernel
theorem dX8_goal_12 : decode cX8_goal 12 = .ok (.iload_n 1, 1) := by decide +kernel
theorem dX8_goal_13 : decode cX8_goal 13 = .ok (.iaload, 1) := by decide +kernel
theorem dX8_goal_14 : decode cX8_goal 14 = .ok (.invokestatic 128, 3) := by decide +kernel
theorem dX8_goal_17 : decode cX8_goal 17 = .ok (.ireturn, 1) := by decide +kernel
theorem dX8_isDerailed_0 : decode cX8_isDerailed 0 = .ok (.aload_n 0, 1) := by decide +kernel
theorem dX8_isDerailed_1 : decode cX8_isDerailed 1 = .ok (.iload_n 1, 1) := by decide +kernel
theorem dX8_isDerailed_2 : decode cX8_isDerailed 2 = .ok (.invokevirtual 151, 3) := by decide +kernel
theorem dX8_isDerailed_5 : decode cX8_isDerailed 5 = .ok (.aload_n 0, 1) := by decide +kernel
theorem dX8_isDerailed_6 : decode cX8_isDerailed 6 = .ok (.getfield 12, 3) := by decide +kernel
theorem dX8_isDerailed_9 : decode cX8_isDerailed 9 = .ok (.getfield 202, 3) := by decide +kernel
theorem dX8_isDerailed_12 : decode cX8_isDerailed 12 = .ok (.iload_n 1, 1) := by decide +kernel
theorem dX8_isDerailed_13 : decode cX8_isDerailed 13 = .ok (.invokestatic 107, 3) := by decide +kernel
theorem dX8_isDerailed_16 : decode cX8_isDerailed 16 = .ok (.ireturn, 1) := by decide +kernel
theorem dX8_waits_0 : decode cX8_waits 0 = .ok (.aload_n 0, 1) := by decide +kernel
theorem dX8_waits_1 : decode cX8_waits 1 = .ok (.iload_n 1, 1) := by decide +kernel
theorem dX8_waits_2 : decode cX8_waits 2 = .ok (.invokevirtual 151, 3) := by decide +kernel
theorem dX8_waits_5 : decode cX8_waits 5 = .ok (.aload_n 0, 1) := by decide +kernel
theorem dX8_waits_6 : decode cX8_waits 6 = .ok (.getfield 12, 3) := by decide +kernel
theorem dX8_waits_9 : decode cX8_waits 9 = .ok (.getfield 205, 3) := by decide +kernel
theorem dX8_waits_12 : decode cX8_waits 12 = .ok (.iload_n 1, 1) := by decide +kernel
theorem dX8_waits_13 : decode cX8_waits 13 = .ok (.iaload, 1) := by decide +kernel
theorem dX8_waits_14 : decode cX8_waits 14 = .ok (.ireturn, 1) := by decide +kernel
theorem dX8_trainByPriority_0 : decode cX8_trainByPriority 0 = .ok (.aload_n 0, 1) := by decide +kernel
theorem dX8_trainByPriority_1 : decode cX8_trainByPriority 1 = .ok (.getfield 12, 3) := by decide +kernel
theorem dX8_trainByPriority_4 : decode cX8_trainByPriority 4 = .ok (.iload_n 1, 1) := by decide +kernel
theorem dX8_trainByPriority_5 : decode cX8_trainByPriority 5 = .ok (.invokevirtual 208, 3) := by decide +kernel
theorem dX8_trainByPriority_8 : decode cX8_trainByPriority 8 = .ok (.invokestatic 128, 3) := by decide +kernel
theorem dX8_trainByPriority_11 : decode cX8_trainByPriority 11 = .ok (.ireturn, 1) := by decide +kernel
theorem dX8_blockedBy_0 : decode cX8_blockedBy 0 = .ok (.aload_n 0, 1) := by decide +kernel
theorem dX8_blockedBy_1 : decode cX8_blockedBy 1 = .ok (.iload_n 1, 1) := by decide +kernel
theorem dX8_blockedBy_2 : decode cX8_blockedBy 2 = .ok (.invokevirtual 151, 3) := by decide +kernel
theorem dX8_blockedBy_5 : decode cX8_blockedBy 5 = .ok (.aload_n 0, 1) := by decide +kernel
theorem dX8_blockedBy_6 : decode cX8_blockedBy 6 = .ok (.getfield 39, 3) := by decide +kernel
theorem dX8_blockedBy_9 : decode cX8_blockedBy 9 = .ok (.aload_n 0, 1) := by decide +kernel
theorem dX8_blockedBy_10 : decode cX8_blockedBy 10 = .ok (.getfield 12, 3) := by decide +kernel
theorem dX8_blockedBy_13 : decode cX8_blockedBy 13 = .ok (.iload_n 1, 1) := by decide +kernel
theorem dX8_blockedBy_14 : decode cX8_blockedBy 14 = .ok (.invokevirtual 211, 3) := by decide +kernel
theorem dX8_blockedBy_17 : decode cX8_blockedBy 17 = .ok (.invokestatic 128, 3) := by decide +kernel
theorem dX8_blockedBy_20 : decode cX8_blockedBy 20 = .ok (.ireturn, 1) := by decide +kernel
theorem dX8_deadlocked_0 : decode cX8_deadlocked 0 = .ok (.aload_n 0, 1) := by decide +kernel
theorem dX8_deadlocked_1 : decode cX8_deadlocked 1 = .ok (.getfield 39, 3) := by decide +kernel
theorem dX8_deadlocked_4 : decode cX8_deadlocked 4 = .ok (.aload_n 0, 1) := by decide +kernel
theorem dX8_deadlocked_5 : decode cX8_deadlocked 5 = .ok (.getfield 12, 3) := by decide +kernel
theorem dX8_deadlocked_8 : decode cX8_deadlocked 8 = .ok (.invokevirtual 214, 3) := by decide +kernel
theorem dX8_deadlocked_11 : decode cX8_deadlocked 11 = .ok (.ireturn, 1) := by decide +kernel
theorem dX8_deadlockedByTable_0 : decode cX8_deadlockedByTable 0 = .ok (.aload_n 0, 1) := by decide +kernel
theorem dX8_deadlockedByTable_1 : decode cX8_deadlockedByTable 1 = .ok (.getfield 39, 3) := by decide +kernel
theorem dX8_deadlockedByTable_4 : decode cX8_deadlockedByTable 4 = .ok (.aload_n 0, 1) := by decide +kernel
theorem dX8_deadlockedByTable_5 : decode cX8_deadlockedByTable 5 = .ok (.getfield 12, 3) := by decide +kernel
theorem dX8_deadlockedByTable_8 : decode cX8_deadlockedByTable 8 = .ok (.invokevirtual 217, 3) := by decide +kernel
theorem dX8_deadlockedByTable_11 : decode cX8_deadlockedByTable 11 = .ok (.ireturn, 1) := by decide +kernel
theorem dX8_passTicks_0 : decode cX8_passTicks 0 = .ok (.aload_n 0, 1) := by decide +kernel
theorem dX8_passTicks_1 : decode cX8_passTicks 1 = .ok (.getfield 25, 3) := by decide +kernel
theorem dX8_passTicks_4 : decode cX8_passTicks 4 = .ok (.aload_n 0, 1) := by decide +kernel
theorem dX8_passTicks_5 : decode cX8_passTicks 5 = .ok (.getfield 12, 3) := by decide +kernel
theorem dX8_passTicks_8 : decode cX8_passTicks 8 = .ok (.invokevirtual 68, 3) := by decide +kernel
theorem dX8_passTicks_11 : decode cX8_passTicks 11 = .ok (.aload_n 0, 1) := by decide +kernel
theorem dX8_passTicks_12 : decode cX8_passTicks 12 = .ok (.aload_n 0, 1) := by decide +kernel
theorem dX8_passTicks_13 : decode cX8_passTicks 13 = .ok (.getfield 39, 3) := by decide +kernel
theorem dX8_passTicks_16 : decode cX8_passTicks 16 = .ok (.aload_n 0, 1) := by decide +kernel
theorem dX8_passTicks_17 : decode cX8_passTicks 17 = .ok (.getfield 12, 3) := by decide +kernel
theorem dX8_passTicks_20 : decode cX8_passTicks 20 = .ok (.iload_n 1, 1) := by decide +kernel
theorem dX8_passTicks_21 : decode cX8_passTicks 21 = .ok (.invokevirtual 220, 3) := by decide +kernel
theorem dX8_passTicks_24 : decode cX8_passTicks 24 = .ok (.invokevirtual 76, 3) := by decide +kernel
theorem dX8_passTicks_27 : decode cX8_passTicks 27 = .ok (.ireturn, 1) := by decide +kernel
theorem dX8_ticks_0 : decode cX8_ticks 0 = .ok (.aload_n 0, 1) := by decide +kernel
theorem dX8_ticks_1 : decode cX8_ticks 1 = .ok (.getfield 12, 3) := by decide +kernel
theorem dX8_ticks_4 : decode cX8_ticks 4 = .ok (.getfield 223, 3) := by decide +kernel
theorem dX8_ticks_7 : decode cX8_ticks 7 = .ok (.ireturn, 1) := by decide +kernel
theorem dX8_arrivals_0 : decode cX8_arrivals 0 = .ok (.aload_n 0, 1) := by decide +kernel
theorem dX8_arrivals_1 : decode cX8_arrivals 1 = .ok (.getfield 12, 3) := by decide +kernel
theorem dX8_arrivals_4 : decode cX8_arrivals 4 = .ok (.getfield 226, 3) := by decide +kernel
theorem dX8_arrivals_7 : decode cX8_arrivals 7 = .ok (.ireturn, 1) := by decide +kernel
theorem dX8_ticksUntilArrival_0 : decode cX8_ticksUntilArrival 0 = .ok (.aload_n 0, 1) := by decide +kernel
theorem dX8_ticksUntilArrival_1 : decode cX8_ticksUntilArrival 1 = .ok (.iload_n 1, 1) := by decide +kernel
theorem dX8_ticksUntilArrival_2 : decode cX8_ticksUntilArrival 2 = .ok (.invokevirtual 151, 3) := by decide +kernel
theorem dX8_ticksUntilArrival_5 : decode cX8_ticksUntilArrival 5 = .ok (.aload_n 0, 1) := by decide +kernel
theorem dX8_ticksUntilArrival_6 : decode cX8_ticksUntilArrival 6 = .ok (.getfield 12, 3) := by decide +kernel
theorem dX8_ticksUntilArrival_9 : decode cX8_ticksUntilArrival 9 = .ok (.getfield 199, 3) := by decide +kernel
theorem dX8_ticksUntilArrival_12 : decode cX8_ticksUntilArrival 12 = .ok (.iload_n 1, 1) := by decide +kernel
theorem dX8_ticksUntilArrival_13 : decode cX8_ticksUntilArrival 13 = .ok (.iaload, 1) := by decide +kernel
theorem dX8_ticksUntilArrival_14 : decode cX8_ticksUntilArrival 14 = .ok (.iconst (-1), 1) := by decide +kernel
theorem dX8_ticksUntilArrival_15 : decode cX8_ticksUntilArrival 15 = .ok (.if_icmp .ne 13, 3) := by decide +kernel
theorem dX8_ticksUntilArrival_18 : decode cX8_ticksUntilArrival 18 = .ok (.new 229, 3) := by decide +kernel
theorem dX8_ticksUntilArrival_21 : decode cX8_ticksUntilArrival 21 = .ok (.dup, 1) := by decide +kernel
theorem dX8_ticksUntilArrival_22 : decode cX8_ticksUntilArrival 22 = .ok (.ldc 231, 2) := by decide +kernel
theorem dX8_ticksUntilArrival_24 : decode cX8_ticksUntilArrival 24 = .ok (.invokespecial 233, 3) := by decide +kernel
theorem dX8_ticksUntilArrival_27 : decode cX8_ticksUntilArrival 27 = .ok (.athrow, 1) := by decide +kernel
theorem dX8_ticksUntilArrival_28 : decode cX8_ticksUntilArrival 28 = .ok (.aload_n 0, 1) := by decide +kernel
theorem dX8_ticksUntilArrival_29 : decode cX8_ticksUntilArrival 29 = .ok (.getfield 19, 3) := by decide +kernel
theorem dX8_ticksUntilArrival_32 : decode cX8_ticksUntilArrival 32 = .ok (.aload_n 0, 1) := by decide +kernel
theorem dX8_ticksUntilArrival_33 : decode cX8_ticksUntilArrival 33 = .ok (.getfield 12, 3) := by decide +kernel
theorem dX8_ticksUntilArrival_36 : decode cX8_ticksUntilArrival 36 = .ok (.invokevirtual 236, 3) := by decide +kernel
theorem dX8_ticksUntilArrival_39 : decode cX8_ticksUntilArrival 39 = .ok (.aload_n 0, 1) := by decide +kernel
theorem dX8_ticksUntilArrival_40 : decode cX8_ticksUntilArrival 40 = .ok (.getfield 39, 3) := by decide +kernel
theorem dX8_ticksUntilArrival_43 : decode cX8_ticksUntilArrival 43 = .ok (.aload_n 0, 1) := by decide +kernel
theorem dX8_ticksUntilArrival_44 : decode cX8_ticksUntilArrival 44 = .ok (.getfield 19, 3) := by decide +kernel
theorem dX8_ticksUntilArrival_47 : decode cX8_ticksUntilArrival 47 = .ok (.iload_n 1, 1) := by decide +kernel
theorem dX8_ticksUntilArrival_48 : decode cX8_ticksUntilArrival 48 = .ok (.invokevirtual 239, 3) := by decide +kernel
theorem dX8_ticksUntilArrival_51 : decode cX8_ticksUntilArrival 51 = .ok (.invokestatic 128, 3) := by decide +kernel
theorem dX8_ticksUntilArrival_54 : decode cX8_ticksUntilArrival 54 = .ok (.ireturn, 1) := by decide +kernel
theorem dX8_meanWaits_0 : decode cX8_meanWaits 0 = .ok (.aload_n 0, 1) := by decide +kernel
theorem dX8_meanWaits_1 : decode cX8_meanWaits 1 = .ok (.getfield 12, 3) := by decide +kernel
theorem dX8_meanWaits_4 : decode cX8_meanWaits 4 = .ok (.getfield 187, 3) := by decide +kernel
theorem dX8_meanWaits_7 : decode cX8_meanWaits 7 = .ok (.ifCond .ne 13, 3) := by decide +kernel
theorem dX8_meanWaits_10 : decode cX8_meanWaits 10 = .ok (.new 242, 3) := by decide +kernel
theorem dX8_meanWaits_13 : decode cX8_meanWaits 13 = .ok (.dup, 1) := by decide +kernel
theorem dX8_meanWaits_14 : decode cX8_meanWaits 14 = .ok (.ldc 244, 2) := by decide +kernel
theorem dX8_meanWaits_16 : decode cX8_meanWaits 16 = .ok (.invokespecial 246, 3) := by decide +kernel
theorem dX8_meanWaits_19 : decode cX8_meanWaits 19 = .ok (.athrow, 1) := by decide +kernel
theorem dX8_meanWaits_20 : decode cX8_meanWaits 20 = .ok (.aload_n 0, 1) := by decide +kernel
theorem dX8_meanWaits_21 : decode cX8_meanWaits 21 = .ok (.getfield 12, 3) := by decide +kernel
theorem dX8_meanWaits_24 : decode cX8_meanWaits 24 = .ok (.invokevirtual 247, 3) := by decide +kernel
theorem dX8_meanWaits_27 : decode cX8_meanWaits 27 = .ok (.i2d, 1) := by decide +kernel
theorem dX8_meanWaits_28 : decode cX8_meanWaits 28 = .ok (.aload_n 0, 1) := by decide +kernel
theorem dX8_meanWaits_29 : decode cX8_meanWaits 29 = .ok (.getfield 12, 3) := by decide +kernel
theorem dX8_meanWaits_32 : decode cX8_meanWaits 32 = .ok (.getfield 187, 3) := by decide +kernel
theorem dX8_meanWaits_35 : decode cX8_meanWaits 35 = .ok (.i2d, 1) := by decide +kernel
theorem dX8_meanWaits_36 : decode cX8_meanWaits 36 = .ok (.ddiv, 1) := by decide +kernel
theorem dX8_meanWaits_37 : decode cX8_meanWaits 37 = .ok (.dreturn, 1) := by decide +kernel
theorem dX8_occupiedFraction_0 : decode cX8_occupiedFraction 0 = .ok (.aload_n 0, 1) := by decide +kernel
theorem dX8_occupiedFraction_1 : decode cX8_occupiedFraction 1 = .ok (.getfield 12, 3) := by decide +kernel
theorem dX8_occupiedFraction_4 : decode cX8_occupiedFraction 4 = .ok (.getfield 93, 3) := by decide +kernel
theorem dX8_occupiedFraction_7 : decode cX8_occupiedFraction 7 = .ok (.ifCond .ne 13, 3) := by decide +kernel
theorem dX8_occupiedFraction_10 : decode cX8_occupiedFraction 10 = .ok (.new 242, 3) := by decide +kernel
theorem dX8_occupiedFraction_13 : decode cX8_occupiedFraction 13 = .ok (.dup, 1) := by decide +kernel
theorem dX8_occupiedFraction_14 : decode cX8_occupiedFraction 14 = .ok (.ldc 251, 2) := by decide +kernel
theorem dX8_occupiedFraction_16 : decode cX8_occupiedFraction 16 = .ok (.invokespecial 246, 3) := by decide +kernel
theorem dX8_occupiedFraction_19 : decode cX8_occupiedFraction 19 = .ok (.athrow, 1) := by decide +kernel
theorem dX8_occupiedFraction_20 : decode cX8_occupiedFraction 20 = .ok (.aload_n 0, 1) := by decide +kernel
theorem dX8_occupiedFraction_21 : decode cX8_occupiedFraction 21 = .ok (.getfield 12, 3) := by decide +kernel
theorem dX8_occupiedFraction_24 : decode cX8_occupiedFraction 24 = .ok (.getfield 187, 3) := by decide +kernel
theorem dX8_occupiedFraction_27 : decode cX8_occupiedFraction 27 = .ok (.i2f, 1) := by decide +kernel
theorem dX8_occupiedFraction_28 : decode cX8_occupiedFraction 28 = .ok (.aload_n 0, 1) := by decide +kernel
theorem dX8_occupiedFraction_29 : decode cX8_occupiedFraction 29 = .ok (.getfield 12, 3) := by decide +kernel
theorem dX8_occupiedFraction_32 : decode cX8_occupiedFraction 32 = .ok (.getfield 93, 3) := by decide +kernel
theorem dX8_occupiedFraction_35 : decode cX8_occupiedFraction 35 = .ok (.i2f, 1) := by decide +kernel
theorem dX8_occupiedFraction_36 : decode cX8_occupiedFraction 36 = .ok (.fdiv, 1) := by decide +kernel
theorem dX8_occupiedFraction_37 : decode cX8_occupiedFraction 37 = .ok (.freturn, 1) := by decide +kernel
theorem dX8_isConsistent_0 : decode cX8_isConsistent 0 = .ok (.aload_n 0, 1) := by decide +kernel
theorem dX8_isConsistent_1 : decode cX8_isConsistent 1 = .ok (.getfield 32, 3) := by decide +kernel
theorem dX8_isConsistent_4 : decode cX8_isConsistent 4 = .ok (.aload_n 0, 1) := by decide +kernel
theorem dX8_isConsistent_5 : decode cX8_isConsistent 5 = .ok (.getfield 12, 3) := by decide +kernel
theorem dX8_isConsistent_8 : decode cX8_isConsistent 8 = .ok (.invokevirtual 276, 3) := by decide +kernel
theorem dX8_isConsistent_11 : decode cX8_isConsistent 11 = .ok (.ifCond .eq 57, 3) := by decide +kernel
theorem dX8_isConsistent_14 : decode cX8_isConsistent 14 = .ok (.aload_n 0, 1) := by decide +kernel
theorem dX8_isConsistent_15 : decode cX8_isConsistent 15 = .ok (.getfield 32, 3) := by decide +kernel
theorem dX8_isConsistent_18 : decode cX8_isConsistent 18 = .ok (.aload_n 0, 1) := by decide +kernel
theorem dX8_isConsistent_19 : decode cX8_isConsistent 19 = .ok (.getfield 12, 3) := by decide +kernel
theorem dX8_isConsistent_22 : decode cX8_isConsistent 22 = .ok (.invokevirtual 158, 3) := by decide +kernel
theorem dX8_isConsistent_25 : decode cX8_isConsistent 25 = .ok (.aload_n 0, 1) := by decide +kernel
theorem dX8_isConsistent_26 : decode cX8_isConsistent 26 = .ok (.getfield 32, 3) := by decide +kernel
theorem dX8_isConsistent_29 : decode cX8_isConsistent 29 = .ok (.aload_n 0, 1) := by decide +kernel
theorem dX8_isConsistent_30 : decode cX8_isConsistent 30 = .ok (.getfield 12, 3) := by decide +kernel
theorem dX8_isConsistent_33 : decode cX8_isConsistent 33 = .ok (.invokevirtual 162, 3) := by decide +kernel
theorem dX8_isConsistent_36 : decode cX8_isConsistent 36 = .ok (.if_icmp .ne 32, 3) := by decide +kernel
theorem dX8_isConsistent_39 : decode cX8_isConsistent 39 = .ok (.aload_n 0, 1) := by decide +kernel
theorem dX8_isConsistent_40 : decode cX8_isConsistent 40 = .ok (.getfield 39, 3) := by decide +kernel
theorem dX8_isConsistent_43 : decode cX8_isConsistent 43 = .ok (.aload_n 0, 1) := by decide +kernel
theorem dX8_isConsistent_44 : decode cX8_isConsistent 44 = .ok (.getfield 12, 3) := by decide +kernel
theorem dX8_isConsistent_47 : decode cX8_isConsistent 47 = .ok (.invokevirtual 214, 3) := by decide +kernel
theorem dX8_isConsistent_50 : decode cX8_isConsistent 50 = .ok (.aload_n 0, 1) := by decide +kernel
theorem dX8_isConsistent_51 : decode cX8_isConsistent 51 = .ok (.getfield 39, 3) := by decide +kernel
theorem dX8_isConsistent_54 : decode cX8_isConsistent 54 = .ok (.aload_n 0, 1) := by decide +kernel
theorem dX8_isConsistent_55 : decode cX8_isConsistent 55 = .ok (.getfield 12, 3) := by decide +kernel
theorem dX8_isConsistent_58 : decode cX8_isConsistent 58 = .ok (.invokevirtual 217, 3) := by decide +kernel
theorem dX8_isConsistent_61 : decode cX8_isConsistent 61 = .ok (.if_icmp .ne 7, 3) := by decide +kernel
theorem dX8_isConsistent_64 : decode cX8_isConsistent 64 = .ok (.iconst 1, 1) := by decide +kernel
theorem dX8_isConsistent_65 : decode cX8_isConsistent 65 = .ok (.goto 4, 3) := by decide +kernel
theorem dX8_isConsistent_68 : decode cX8_isConsistent 68 = .ok (.iconst 0, 1) := by decide +kernel
theorem dX8_isConsistent_69 : decode cX8_isConsistent 69 = .ok (.ireturn, 1) := by decide +kernel
theorem dX8_feed_0 : decode cX8_feed 0 = .ok (.aload_n 0, 1) := by decide +kernel
theorem dX8_feed_1 : decode cX8_feed 1 = .ok (.getfield 46, 3) := by decide +kernel
theorem dX8_feed_4 : decode cX8_feed 4 = .ok (.iload_n 1, 1) := by decide +kernel
theorem dX8_feed_5 : decode cX8_feed 5 = .ok (.invokevirtual 280, 3) := by decide +kernel
theorem dX8_feed_8 : decode cX8_feed 8 = .ok (.ifCond .ne 14, 3) := by decide +kernel
theorem dX8_feed_11 : decode cX8_feed 11 = .ok (.new 284, 3) := by decide +kernel
theorem dX8_feed_14 : decode cX8_feed 14 = .ok (.dup, 1) := by decide +kernel
theorem dX8_feed_15 : decode cX8_feed 15 = .ok (.ldc_w 286, 3) := by decide +kernel
theorem dX8_feed_18 : decode cX8_feed 18 = .ok (.invokespecial 288, 3) := by decide +kernel
theorem dX8_feed_21 : decode cX8_feed 21 = .ok (.athrow, 1) := by decide +kernel
theorem dX8_feed_22 : decode cX8_feed 22 = .ok (.aload_n 0, 1) := by decide +kernel
theorem dX8_feed_23 : decode cX8_feed 23 = .ok (.getfield 46, 3) := by decide +kernel
theorem dX8_feed_26 : decode cX8_feed 26 = .ok (.getfield 289, 3) := by decide +kernel
theorem dX8_feed_29 : decode cX8_feed 29 = .ok (.ireturn, 1) := by decide +kernel
theorem dX8_execute_0 : decode cX8_execute 0 = .ok (.aload_n 0, 1) := by decide +kernel
theorem dX8_execute_1 : decode cX8_execute 1 = .ok (.getfield 46, 3) := by decide +kernel
theorem dX8_execute_4 : decode cX8_execute 4 = .ok (.invokevirtual 290, 3) := by decide +kernel
theorem dX8_execute_7 : decode cX8_execute 7 = .ok (.istore_n 1, 1) := by decide +kernel
theorem dX8_execute_8 : decode cX8_execute 8 = .ok (.iload_n 1, 1) := by decide +kernel
theorem dX8_execute_9 : decode cX8_execute 9 = .ok (.iconst (-1), 1) := by decide +kernel
theorem dX8_execute_10 : decode cX8_execute 10 = .ok (.if_icmp .eq 26, 3) := by decide +kernel
theorem dX8_execute_13 : decode cX8_execute 13 = .ok (.aload_n 0, 1) := by decide +kernel
theorem dX8_execute_14 : decode cX8_execute 14 = .ok (.iload_n 1, 1) := by decide +kernel
theorem dX8_execute_15 : decode cX8_execute 15 = .ok (.putfield 61, 3) := by decide +kernel
theorem dX8_execute_18 : decode cX8_execute 18 = .ok (.aload_n 0, 1) := by decide +kernel
theorem dX8_execute_19 : decode cX8_execute 19 = .ok (.getfield 46, 3) := by decide +kernel
theorem dX8_execute_22 : decode cX8_execute 22 = .ok (.invokevirtual 293, 3) := by decide +kernel
theorem dX8_execute_25 : decode cX8_execute 25 = .ok (.new 294, 3) := by decide +kernel
theorem dX8_execute_28 : decode cX8_execute 28 = .ok (.dup, 1) := by decide +kernel
theorem dX8_execute_29 : decode cX8_execute 29 = .ok (.ldc_w 296, 3) := by decide +kernel
theorem dX8_execute_32 : decode cX8_execute 32 = .ok (.invokespecial 298, 3) := by decide +kernel
theorem dX8_execute_35 : decode cX8_execute 35 = .ok (.athrow, 1) := by decide +kernel
theorem dX8_execute_36 : decode cX8_execute 36 = .ok (.aload_n 0, 1) := by decide +kernel
theorem dX8_execute_37 : decode cX8_execute 37 = .ok (.getfield 25, 3) := by decide +kernel
theorem dX8_execute_40 : decode cX8_execute 40 = .ok (.aload_n 0, 1) := by decide +kernel
theorem dX8_execute_41 : decode cX8_execute 41 = .ok (.getfield 12, 3) := by decide +kernel
theorem dX8_execute_44 : decode cX8_execute 44 = .ok (.invokevirtual 68, 3) := by decide +kernel
theorem dX8_execute_47 : decode cX8_execute 47 = .ok (.iconst 0, 1) := by decide +kernel
theorem dX8_execute_48 : decode cX8_execute 48 = .ok (.istore_n 2, 1) := by decide +kernel
theorem dX8_execute_49 : decode cX8_execute 49 = .ok (.iconst 0, 1) := by decide +kernel
theorem dX8_execute_50 : decode cX8_execute 50 = .ok (.istore_n 3, 1) := by decide +kernel
theorem dX8_execute_51 : decode cX8_execute 51 = .ok (.aload_n 0, 1) := by decide +kernel
theorem dX8_execute_52 : decode cX8_execute 52 = .ok (.getfield 46, 3) := by decide +kernel
theorem dX8_execute_55 : decode cX8_execute 55 = .ok (.invokevirtual 299, 3) := by decide +kernel
theorem dX8_execute_58 : decode cX8_execute 58 = .ok (.iload_n 2, 1) := by decide +kernel
theorem dX8_execute_59 : decode cX8_execute 59 = .ok (.ifCond .ne 63, 3) := by decide +kernel
theorem dX8_execute_62 : decode cX8_execute 62 = .ok (.iload_n 3, 1) := by decide +kernel
theorem dX8_execute_63 : decode cX8_execute 63 = .ok (.bipush 60, 2) := by decide +kernel
theorem dX8_execute_65 : decode cX8_execute 65 = .ok (.if_icmp .ge 57, 3) := by decide +kernel
theorem dX8_execute_68 : decode cX8_execute 68 = .ok (.aload_n 0, 1) := by decide +kernel
theorem dX8_execute_69 : decode cX8_execute 69 = .ok (.getfield 46, 3) := by decide +kernel
theorem dX8_execute_72 : decode cX8_execute 72 = .ok (.invokevirtual 302, 3) := by decide +kernel
theorem dX8_execute_75 : decode cX8_execute 75 = .ok (.ifCond .eq 47, 3) := by decide +kernel
theorem dX8_execute_78 : decode cX8_execute 78 = .ok (.aload_n 0, 1) := by decide +kernel
