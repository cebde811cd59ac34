theorem dX8_execute_138 : decode cX8_execute 138 = .ok (.getfield 12, 3) := by decide +kernel
theorem dX8_execute_141 : decode cX8_execute 141 = .ok (.invokevirtual 320, 3) := by decide +kernel
theorem dX8_execute_144 : decode cX8_execute 144 = .ok (.aload_n 0, 1) := by decide +kernel
theorem dX8_execute_145 : decode cX8_execute 145 = .ok (.iload_n 3, 1) := by decide +kernel
theorem dX8_execute_146 : decode cX8_execute 146 = .ok (.putfield 65, 3) := by decide +kernel
theorem dX8_execute_149 : decode cX8_execute 149 = .ok (.new 323, 3) := by decide +kernel
theorem dX8_execute_152 : decode cX8_execute 152 = .ok (.dup, 1) := by decide +kernel
theorem dX8_execute_153 : decode cX8_execute 153 = .ok (.ldc_w 325, 3) := by decide +kernel
theorem dX8_execute_156 : decode cX8_execute 156 = .ok (.invokespecial 327, 3) := by decide +kernel
theorem dX8_execute_159 : decode cX8_execute 159 = .ok (.athrow, 1) := by decide +kernel
theorem dX8_execute_160 : decode cX8_execute 160 = .ok (.aload_n 0, 1) := by decide +kernel
theorem dX8_execute_161 : decode cX8_execute 161 = .ok (.iload_n 3, 1) := by decide +kernel
theorem dX8_execute_162 : decode cX8_execute 162 = .ok (.invokevirtual 76, 3) := by decide +kernel
theorem dX8_execute_165 : decode cX8_execute 165 = .ok (.ireturn, 1) := by decide +kernel
theorem dX8_errorPosition_0 : decode cX8_errorPosition 0 = .ok (.aload_n 0, 1) := by decide +kernel
theorem dX8_errorPosition_1 : decode cX8_errorPosition 1 = .ok (.getfield 61, 3) := by decide +kernel
theorem dX8_errorPosition_4 : decode cX8_errorPosition 4 = .ok (.invokestatic 128, 3) := by decide +kernel
theorem dX8_errorPosition_7 : decode cX8_errorPosition 7 = .ok (.ireturn, 1) := by decide +kernel
theorem dX8_failedCommand_0 : decode cX8_failedCommand 0 = .ok (.aload_n 0, 1) := by decide +kernel
theorem dX8_failedCommand_1 : decode cX8_failedCommand 1 = .ok (.getfield 65, 3) := by decide +kernel
theorem dX8_failedCommand_4 : decode cX8_failedCommand 4 = .ok (.invokestatic 128, 3) := by decide +kernel
theorem dX8_failedCommand_7 : decode cX8_failedCommand 7 = .ok (.ireturn, 1) := by decide +kernel
theorem dX8_undo_0 : decode cX8_undo 0 = .ok (.aload_n 0, 1) := by decide +kernel
theorem dX8_undo_1 : decode cX8_undo 1 = .ok (.getfield 25, 3) := by decide +kernel
theorem dX8_undo_4 : decode cX8_undo 4 = .ok (.getfield 328, 3) := by decide +kernel
theorem dX8_undo_7 : decode cX8_undo 7 = .ok (.ifCond .ne 14, 3) := by decide +kernel
theorem dX8_undo_10 : decode cX8_undo 10 = .ok (.new 284, 3) := by decide +kernel
theorem dX8_undo_13 : decode cX8_undo 13 = .ok (.dup, 1) := by decide +kernel
theorem dX8_undo_14 : decode cX8_undo 14 = .ok (.ldc_w 331, 3) := by decide +kernel
theorem dX8_undo_17 : decode cX8_undo 17 = .ok (.invokespecial 288, 3) := by decide +kernel
theorem dX8_undo_20 : decode cX8_undo 20 = .ok (.athrow, 1) := by decide +kernel
theorem dX8_undo_21 : decode cX8_undo 21 = .ok (.aload_n 0, 1) := by decide +kernel
theorem dX8_undo_22 : decode cX8_undo 22 = .ok (.getfield 25, 3) := by decide +kernel
theorem dX8_undo_25 : decode cX8_undo 25 = .ok (.aload_n 0, 1) := by decide +kernel
theorem dX8_undo_26 : decode cX8_undo 26 = .ok (.getfield 12, 3) := by decide +kernel
theorem dX8_undo_29 : decode cX8_undo 29 = .ok (.invokevirtual 333, 3) := by decide +kernel
theorem dX8_undo_32 : decode cX8_undo 32 = .ok (.ireturn, 1) := by decide +kernel
theorem dX8_undoCount_0 : decode cX8_undoCount 0 = .ok (.aload_n 0, 1) := by decide +kernel
theorem dX8_undoCount_1 : decode cX8_undoCount 1 = .ok (.getfield 25, 3) := by decide +kernel
theorem dX8_undoCount_4 : decode cX8_undoCount 4 = .ok (.getfield 328, 3) := by decide +kernel
theorem dX8_undoCount_7 : decode cX8_undoCount 7 = .ok (.ireturn, 1) := by decide +kernel
theorem dX8_save_0 : decode cX8_save 0 = .ok (.aload_n 0, 1) := by decide +kernel
theorem dX8_save_1 : decode cX8_save 1 = .ok (.getfield 16, 3) := by decide +kernel
theorem dX8_save_4 : decode cX8_save 4 = .ok (.aload_n 0, 1) := by decide +kernel
theorem dX8_save_5 : decode cX8_save 5 = .ok (.getfield 12, 3) := by decide +kernel
theorem dX8_save_8 : decode cX8_save 8 = .ok (.invokevirtual 236, 3) := by decide +kernel
theorem dX8_save_11 : decode cX8_save 11 = .ok (.aload_n 0, 1) := by decide +kernel
theorem dX8_save_12 : decode cX8_save 12 = .ok (.iconst 1, 1) := by decide +kernel
theorem dX8_save_13 : decode cX8_save 13 = .ok (.putfield 57, 3) := by decide +kernel
theorem dX8_save_16 : decode cX8_save 16 = .ok (.aload_n 0, 1) := by decide +kernel
theorem dX8_save_17 : decode cX8_save 17 = .ok (.getfield 12, 3) := by decide +kernel
theorem dX8_save_20 : decode cX8_save 20 = .ok (.getfield 93, 3) := by decide +kernel
theorem dX8_save_23 : decode cX8_save 23 = .ok (.ireturn, 1) := by decide +kernel
theorem dX8_restore_0 : decode cX8_restore 0 = .ok (.aload_n 0, 1) := by decide +kernel
theorem dX8_restore_1 : decode cX8_restore 1 = .ok (.getfield 57, 3) := by decide +kernel
theorem dX8_restore_4 : decode cX8_restore 4 = .ok (.ifCond .ne 14, 3) := by decide +kernel
theorem dX8_restore_7 : decode cX8_restore 7 = .ok (.new 284, 3) := by decide +kernel
theorem dX8_restore_10 : decode cX8_restore 10 = .ok (.dup, 1) := by decide +kernel
theorem dX8_restore_11 : decode cX8_restore 11 = .ok (.ldc_w 336, 3) := by decide +kernel
theorem dX8_restore_14 : decode cX8_restore 14 = .ok (.invokespecial 288, 3) := by decide +kernel
theorem dX8_restore_17 : decode cX8_restore 17 = .ok (.athrow, 1) := by decide +kernel
theorem dX8_restore_18 : decode cX8_restore 18 = .ok (.aload_n 0, 1) := by decide +kernel
theorem dX8_restore_19 : decode cX8_restore 19 = .ok (.getfield 12, 3) := by decide +kernel
theorem dX8_restore_22 : decode cX8_restore 22 = .ok (.aload_n 0, 1) := by decide +kernel
theorem dX8_restore_23 : decode cX8_restore 23 = .ok (.getfield 16, 3) := by decide +kernel
theorem dX8_restore_26 : decode cX8_restore 26 = .ok (.invokevirtual 236, 3) := by decide +kernel
theorem dX8_restore_29 : decode cX8_restore 29 = .ok (.aload_n 0, 1) := by decide +kernel
theorem dX8_restore_30 : decode cX8_restore 30 = .ok (.getfield 25, 3) := by decide +kernel
theorem dX8_restore_33 : decode cX8_restore 33 = .ok (.invokevirtual 338, 3) := by decide +kernel
theorem dX8_restore_36 : decode cX8_restore 36 = .ok (.aload_n 0, 1) := by decide +kernel
theorem dX8_restore_37 : decode cX8_restore 37 = .ok (.getfield 12, 3) := by decide +kernel
theorem dX8_restore_40 : decode cX8_restore 40 = .ok (.getfield 93, 3) := by decide +kernel
theorem dX8_restore_43 : decode cX8_restore 43 = .ok (.ireturn, 1) := by decide +kernel
theorem dX8_needBlock_0 : decode cX8_needBlock 0 = .ok (.aload_n 0, 1) := by decide +kernel
theorem dX8_needBlock_1 : decode cX8_needBlock 1 = .ok (.getfield 12, 3) := by decide +kernel
theorem dX8_needBlock_4 : decode cX8_needBlock 4 = .ok (.iload_n 1, 1) := by decide +kernel
theorem dX8_needBlock_5 : decode cX8_needBlock 5 = .ok (.invokevirtual 341, 3) := by decide +kernel
theorem dX8_needBlock_8 : decode cX8_needBlock 8 = .ok (.ifCond .ne 14, 3) := by decide +kernel
theorem dX8_needBlock_11 : decode cX8_needBlock 11 = .ok (.new 267, 3) := by decide +kernel
theorem dX8_needBlock_14 : decode cX8_needBlock 14 = .ok (.dup, 1) := by decide +kernel
theorem dX8_needBlock_15 : decode cX8_needBlock 15 = .ok (.ldc_w 345, 3) := by decide +kernel
theorem dX8_needBlock_18 : decode cX8_needBlock 18 = .ok (.invokespecial 271, 3) := by decide +kernel
theorem dX8_needBlock_21 : decode cX8_needBlock 21 = .ok (.athrow, 1) := by decide +kernel
theorem dX8_needBlock_22 : decode cX8_needBlock 22 = .ok (.return_, 1) := by decide +kernel
theorem dX8_needTrain_0 : decode cX8_needTrain 0 = .ok (.aload_n 0, 1) := by decide +kernel
theorem dX8_needTrain_1 : decode cX8_needTrain 1 = .ok (.getfield 12, 3) := by decide +kernel
theorem dX8_needTrain_4 : decode cX8_needTrain 4 = .ok (.iload_n 1, 1) := by decide +kernel
theorem dX8_needTrain_5 : decode cX8_needTrain 5 = .ok (.invokevirtual 347, 3) := by decide +kernel
theorem dX8_needTrain_8 : decode cX8_needTrain 8 = .ok (.ifCond .ne 14, 3) := by decide +kernel
theorem dX8_needTrain_11 : decode cX8_needTrain 11 = .ok (.new 267, 3) := by decide +kernel
theorem dX8_needTrain_14 : decode cX8_needTrain 14 = .ok (.dup, 1) := by decide +kernel
theorem dX8_needTrain_15 : decode cX8_needTrain 15 = .ok (.ldc_w 350, 3) := by decide +kernel
theorem dX8_needTrain_18 : decode cX8_needTrain 18 = .ok (.invokespecial 271, 3) := by decide +kernel
theorem dX8_needTrain_21 : decode cX8_needTrain 21 = .ok (.athrow, 1) := by decide +kernel
theorem dX8_needTrain_22 : decode cX8_needTrain 22 = .ok (.return_, 1) := by decide +kernel
theorem dX8_has_0 : decode cX8_has 0 = .ok (.iload_n 0, 1) := by decide +kernel
theorem dX8_has_1 : decode cX8_has 1 = .ok (.iload_n 1, 1) := by decide +kernel
theorem dX8_has_2 : decode cX8_has 2 = .ok (.ishr, 1) := by decide +kernel
theorem dX8_has_3 : decode cX8_has 3 = .ok (.iconst 1, 1) := by decide +kernel
theorem dX8_has_4 : decode cX8_has 4 = .ok (.iand, 1) := by decide +kernel
theorem dX8_has_5 : decode cX8_has 5 = .ok (.ifCond .eq 7, 3) := by decide +kernel
theorem dX8_has_8 : decode cX8_has 8 = .ok (.iconst 1, 1) := by decide +kernel
theorem dX8_has_9 : decode cX8_has 9 = .ok (.goto 4, 3) := by decide +kernel
theorem dX8_has_12 : decode cX8_has 12 = .ok (.iconst 0, 1) := by decide +kernel
theorem dX8_has_13 : decode cX8_has 13 = .ok (.ireturn, 1) := by decide +kernel
theorem dX8_found_0 : decode cX8_found 0 = .ok (.iload_n 0, 1) := by decide +kernel
theorem dX8_found_1 : decode cX8_found 1 = .ok (.iconst (-1), 1) := by decide +kernel
theorem dX8_found_2 : decode cX8_found 2 = .ok (.if_icmp .ne 14, 3) := by decide +kernel
theorem dX8_found_5 : decode cX8_found 5 = .ok (.new 229, 3) := by decide +kernel
theorem dX8_found_8 : decode cX8_found 8 = .ok (.dup, 1) := by decide +kernel
theorem dX8_found_9 : decode cX8_found 9 = .ok (.ldc_w 352, 3) := by decide +kernel
theorem dX8_found_12 : decode cX8_found 12 = .ok (.invokespecial 233, 3) := by decide +kernel
theorem dX8_found_15 : decode cX8_found 15 = .ok (.athrow, 1) := by decide +kernel
theorem dX8_found_16 : decode cX8_found 16 = .ok (.iload_n 0, 1) := by decide +kernel
theorem dX8_found_17 : decode cX8_found 17 = .ok (.ireturn, 1) := by decide +kernel
theorem dX8_changed_0 : decode cX8_changed 0 = .ok (.iload_n 1, 1) := by decide +kernel
theorem dX8_changed_1 : decode cX8_changed 1 = .ok (.bipush (-11), 2) := by decide +kernel
theorem dX8_changed_3 : decode cX8_changed 3 = .ok (.if_icmp .ne 14, 3) := by decide +kernel
theorem dX8_changed_6 : decode cX8_changed 6 = .ok (.new 267, 3) := by decide +kernel
theorem dX8_changed_9 : decode cX8_changed 9 = .ok (.dup, 1) := by decide +kernel
theorem dX8_changed_10 : decode cX8_changed 10 = .ok (.ldc_w 354, 3) := by decide +kernel
theorem dX8_changed_13 : decode cX8_changed 13 = .ok (.invokespecial 271, 3) := by decide +kernel
theorem dX8_changed_16 : decode cX8_changed 16 = .ok (.athrow, 1) := by decide +kernel
theorem dX8_changed_17 : decode cX8_changed 17 = .ok (.iload_n 1, 1) := by decide +kernel
theorem dX8_changed_18 : decode cX8_changed 18 = .ok (.bipush (-12), 2) := by decide +kernel
theorem dX8_changed_20 : decode cX8_changed 20 = .ok (.if_icmp .ne 14, 3) := by decide +kernel
theorem dX8_changed_23 : decode cX8_changed 23 = .ok (.new 294, 3) := by decide +kernel
theorem dX8_changed_26 : decode cX8_changed 26 = .ok (.dup, 1) := by decide +kernel
theorem dX8_changed_27 : decode cX8_changed 27 = .ok (.ldc_w 356, 3) := by decide +kernel
theorem dX8_changed_30 : decode cX8_changed 30 = .ok (.invokespecial 298, 3) := by decide +kernel
theorem dX8_changed_33 : decode cX8_changed 33 = .ok (.athrow, 1) := by decide +kernel
theorem dX8_changed_34 : decode cX8_changed 34 = .ok (.iload_n 1, 1) := by decide +kernel
theorem dX8_changed_35 : decode cX8_changed 35 = .ok (.bipush (-13), 2) := by decide +kernel
theorem dX8_changed_37 : decode cX8_changed 37 = .ok (.if_icmp .ne 14, 3) := by decide +kernel
theorem dX8_changed_40 : decode cX8_changed 40 = .ok (.new 284, 3) := by decide +kernel
theorem dX8_changed_43 : decode cX8_changed 43 = .ok (.dup, 1) := by decide +kernel
theorem dX8_changed_44 : decode cX8_changed 44 = .ok (.ldc_w 358, 3) := by decide +kernel
theorem dX8_changed_47 : decode cX8_changed 47 = .ok (.invokespecial 288, 3) := by decide +kernel
theorem dX8_changed_50 : decode cX8_changed 50 = .ok (.athrow, 1) := by decide +kernel
theorem dX8_changed_51 : decode cX8_changed 51 = .ok (.iload_n 1, 1) := by decide +kernel
theorem dX8_changed_52 : decode cX8_changed 52 = .ok (.bipush (-14), 2) := by decide +kernel
theorem dX8_changed_54 : decode cX8_changed 54 = .ok (.if_icmp .ne 14, 3) := by decide +kernel
theorem dX8_changed_57 : decode cX8_changed 57 = .ok (.new 323, 3) := by decide +kernel
theorem dX8_changed_60 : decode cX8_changed 60 = .ok (.dup, 1) := by decide +kernel
theorem dX8_changed_61 : decode cX8_changed 61 = .ok (.ldc_w 360, 3) := by decide +kernel
theorem dX8_changed_64 : decode cX8_changed 64 = .ok (.invokespecial 327, 3) := by decide +kernel
theorem dX8_changed_67 : decode cX8_changed 67 = .ok (.athrow, 1) := by decide +kernel
theorem dX8_changed_68 : decode cX8_changed 68 = .ok (.iload_n 1, 1) := by decide +kernel
theorem dX8_changed_69 : decode cX8_changed 69 = .ok (.bipush (-15), 2) := by decide +kernel
theorem dX8_changed_71 : decode cX8_changed 71 = .ok (.if_icmp .ne 14, 3) := by decide +kernel
theorem dX8_changed_74 : decode cX8_changed 74 = .ok (.new 229, 3) := by decide +kernel
theorem dX8_changed_77 : decode cX8_changed 77 = .ok (.dup, 1) := by decide +kernel
theorem dX8_changed_78 : decode cX8_changed 78 = .ok (.ldc_w 352, 3) := by decide +kernel
theorem dX8_changed_81 : decode cX8_changed 81 = .ok (.invokespecial 233, 3) := by decide +kernel
theorem dX8_changed_84 : decode cX8_changed 84 = .ok (.athrow, 1) := by decide +kernel
theorem dX8_changed_85 : decode cX8_changed 85 = .ok (.aload_n 0, 1) := by decide +kernel
theorem dX8_changed_86 : decode cX8_changed 86 = .ok (.getfield 25, 3) := by decide +kernel
theorem dX8_changed_89 : decode cX8_changed 89 = .ok (.invokevirtual 362, 3) := by decide +kernel
theorem dX8_changed_92 : decode cX8_changed 92 = .ok (.iload_n 1, 1) := by decide +kernel
theorem dX8_changed_93 : decode cX8_changed 93 = .ok (.ireturn, 1) := by decide +kernel
theorem dX8_perform_0 : decode cX8_perform 0 = .ok (.getstatic 365, 3) := by decide +kernel
theorem dX8_perform_3 : decode cX8_perform 3 = .ok (.aload_n 1, 1) := by decide +kernel
theorem dX8_perform_4 : decode cX8_perform 4 = .ok (.invokevirtual 370, 3) := by decide +kernel
theorem dX8_perform_7 : decode cX8_perform 7 = .ok (.iaload, 1) := by decide +kernel
theorem dX8_perform_8 : decode cX8_perform 8 = .ok (.tableswitch 147 1 9 #[52, 62, 72, 82, 92, 106, 115, 125, 134], 52) := by decide +kernel
theorem dX8_perform_60 : decode cX8_perform 60 = .ok (.aload_n 0, 1) := by decide +kernel
theorem dX8_perform_61 : decode cX8_perform 61 = .ok (.getfield 12, 3) := by decide +kernel
theorem dX8_perform_64 : decode cX8_perform 64 = .ok (.iload_n 2, 1) := by decide +kernel
theorem dX8_perform_65 : decode cX8_perform 65 = .ok (.iconst 0, 1) := by decide +kernel
theorem dX8_perform_66 : decode cX8_perform 66 = .ok (.invokevirtual 72, 3) := by decide +kernel
theorem dX8_perform_69 : decode cX8_perform 69 = .ok (.ireturn, 1) := by decide +kernel
theorem dX8_perform_70 : decode cX8_perform 70 = .ok (.aload_n 0, 1) := by decide +kernel
theorem dX8_perform_71 : decode cX8_perform 71 = .ok (.getfield 12, 3) := by decide +kernel
theorem dX8_perform_74 : decode cX8_perform 74 = .ok (.iload_n 2, 1) := by decide +kernel
theorem dX8_perform_75 : decode cX8_perform 75 = .ok (.iconst 1, 1) := by decide +kernel
theorem dX8_perform_76 : decode cX8_perform 76 = .ok (.invokevirtual 72, 3) := by decide +kernel
theorem dX8_perform_79 : decode cX8_perform 79 = .ok (.ireturn, 1) := by decide +kernel
theorem dX8_perform_80 : decode cX8_perform 80 = .ok (.aload_n 0, 1) := by decide +kernel
theorem dX8_perform_81 : decode cX8_perform 81 = .ok (.getfield 12, 3) := by decide +kernel
theorem dX8_perform_84 : decode cX8_perform 84 = .ok (.iload_n 2, 1) := by decide +kernel
theorem dX8_perform_85 : decode cX8_perform 85 = .ok (.iload_n 3, 1) := by decide +kernel
theorem dX8_perform_86 : decode cX8_perform 86 = .ok (.invokevirtual 80, 3) := by decide +kernel
theorem dX8_perform_89 : decode cX8_perform 89 = .ok (.ireturn, 1) := by decide +kernel
theorem dX8_perform_90 : decode cX8_perform 90 = .ok (.aload_n 0, 1) := by decide +kernel
theorem dX8_perform_91 : decode cX8_perform 91 = .ok (.getfield 12, 3) := by decide +kernel
theorem dX8_perform_94 : decode cX8_perform 94 = .ok (.iload_n 2, 1) := by decide +kernel
theorem dX8_perform_95 : decode cX8_perform 95 = .ok (.iload_n 3, 1) := by decide +kernel
theorem dX8_perform_96 : decode cX8_perform 96 = .ok (.invokevirtual 168, 3) := by decide +kernel
theorem dX8_perform_99 : decode cX8_perform 99 = .ok (.ireturn, 1) := by decide +kernel
theorem dX8_perform_100 : decode cX8_perform 100 = .ok (.aload_n 0, 1) := by decide +kernel
theorem dX8_perform_101 : decode cX8_perform 101 = .ok (.getfield 39, 3) := by decide +kernel
theorem dX8_perform_104 : decode cX8_perform 104 = .ok (.aload_n 0, 1) := by decide +kernel
theorem dX8_perform_105 : decode cX8_perform 105 = .ok (.getfield 12, 3) := by decide +kernel
theorem dX8_perform_108 : decode cX8_perform 108 = .ok (.iload_n 2, 1) := by decide +kernel
theorem dX8_perform_109 : decode cX8_perform 109 = .ok (.iload_n 3, 1) := by decide +kernel
theorem dX8_perform_110 : decode cX8_perform 110 = .ok (.invokevirtual 171, 3) := by decide +kernel
theorem dX8_perform_113 : decode cX8_perform 113 = .ok (.ireturn, 1) := by decide +kernel
theorem dX8_perform_114 : decode cX8_perform 114 = .ok (.aload_n 0, 1) := by decide +kernel
theorem dX8_perform_115 : decode cX8_perform 115 = .ok (.getfield 12, 3) := by decide +kernel
theorem dX8_perform_118 : decode cX8_perform 118 = .ok (.iload_n 2, 1) := by decide +kernel
theorem dX8_perform_119 : decode cX8_perform 119 = .ok (.invokevirtual 87, 3) := by decide +kernel
theorem dX8_perform_122 : decode cX8_perform 122 = .ok (.ireturn, 1) := by decide +kernel
theorem dX8_perform_123 : decode cX8_perform 123 = .ok (.aload_n 0, 1) := by decide +kernel
theorem dX8_perform_124 : decode cX8_perform 124 = .ok (.getfield 12, 3) := by decide +kernel
theorem dX8_perform_127 : decode cX8_perform 127 = .ok (.iload_n 2, 1) := by decide +kernel
theorem dX8_perform_128 : decode cX8_perform 128 = .ok (.iload_n 3, 1) := by decide +kernel
theorem dX8_perform_129 : decode cX8_perform 129 = .ok (.invokevirtual 178, 3) := by decide +kernel
theorem dX8_perform_132 : decode cX8_perform 132 = .ok (.ireturn, 1) := by decide +kernel
theorem dX8_perform_133 : decode cX8_perform 133 = .ok (.aload_n 0, 1) := by decide +kernel
theorem dX8_perform_134 : decode cX8_perform 134 = .ok (.getfield 12, 3) := by decide +kernel
theorem dX8_perform_137 : decode cX8_perform 137 = .ok (.iload_n 2, 1) := by decide +kernel
theorem dX8_perform_138 : decode cX8_perform 138 = .ok (.invokevirtual 184, 3) := by decide +kernel
theorem dX8_perform_141 : decode cX8_perform 141 = .ok (.ireturn, 1) := by decide +kernel
theorem dX8_perform_142 : decode cX8_perform 142 = .ok (.aload_n 0, 1) := by decide +kernel
theorem dX8_perform_143 : decode cX8_perform 143 = .ok (.getfield 39, 3) := by decide +kernel
theorem dX8_perform_146 : decode cX8_perform 146 = .ok (.aload_n 0, 1) := by decide +kernel
theorem dX8_perform_147 : decode cX8_perform 147 = .ok (.getfield 12, 3) := by decide +kernel
theorem dX8_perform_150 : decode cX8_perform 150 = .ok (.iload_n 2, 1) := by decide +kernel
theorem dX8_perform_151 : decode cX8_perform 151 = .ok (.invokevirtual 220, 3) := by decide +kernel
theorem dX8_perform_154 : decode cX8_perform 154 = .ok (.ireturn, 1) := by decide +kernel
theorem dX8_perform_155 : decode cX8_perform 155 = .ok (.bipush (-14), 2) := by decide +kernel
theorem dX8_perform_157 : decode cX8_perform 157 = .ok (.ireturn, 1) := by decide +kernel
theorem dX9_init_0 : decode cX9_init 0 = .ok (.aload_n 0, 1) := by decide +kernel
theorem dX9_init_1 : decode cX9_init 1 = .ok (.invokespecial 1, 3) := by decide +kernel
theorem dX9_init_4 : decode cX9_init 4 = .ok (.aload_n 0, 1) := by decide +kernel
theorem dX9_init_5 : decode cX9_init 5 = .ok (.bipush 116, 2) := by decide +kernel
theorem dX9_init_7 : decode cX9_init 7 = .ok (.newarray .int, 2) := by decide +kernel
theorem dX9_init_9 : decode cX9_init 9 = .ok (.putfield 7, 3) := by decide +kernel
theorem dX9_init_12 : decode cX9_init 12 = .ok (.aload_n 0, 1) := by decide +kernel
theorem dX9_init_13 : decode cX9_init 13 = .ok (.bipush 116, 2) := by decide +kernel
theorem dX9_init_15 : decode cX9_init 15 = .ok (.newarray .int, 2) := by decide +kernel
theorem dX9_init_17 : decode cX9_init 17 = .ok (.putfield 13, 3) := by decide +kernel
theorem dX9_init_20 : decode cX9_init 20 = .ok (.aload_n 0, 1) := by decide +kernel
theorem dX9_init_21 : decode cX9_init 21 = .ok (.bipush 116, 2) := by decide +kernel
theorem dX9_init_23 : decode cX9_init 23 = .ok (.newarray .int, 2) := by decide +kernel
theorem dX9_init_25 : decode cX9_init 25 = .ok (.putfield 16, 3) := by decide +kernel
theorem dX9_init_28 : decode cX9_init 28 = .ok (.aload_n 0, 1) := by decide +kernel
theorem dX9_init_29 : decode cX9_init 29 = .ok (.sipush 928, 3) := by decide +kernel
theorem dX9_init_32 : decode cX9_init 32 = .ok (.newarray .int, 2) := by decide +kernel
theorem dX9_init_34 : decode cX9_init 34 = .ok (.putfield 19, 3) := by decide +kernel
theorem dX9_init_37 : decode cX9_init 37 = .ok (.aload_n 0, 1) := by decide +kernel
theorem dX9_init_38 : decode cX9_init 38 = .ok (.bipush 116, 2) := by decide +kernel
theorem dX9_init_40 : decode cX9_init 40 = .ok (.newarray .int, 2) := by decide +kernel
theorem dX9_init_42 : decode cX9_init 42 = .ok (.putfield 22, 3) := by decide +kernel
theorem dX9_init_45 : decode cX9_init 45 = .ok (.aload_n 0, 1) := by decide +kernel
theorem dX9_init_46 : decode cX9_init 46 = .ok (.bipush 60, 2) := by decide +kernel
theorem dX9_init_48 : decode cX9_init 48 = .ok (.newarray .int, 2) := by decide +kernel
theorem dX9_init_50 : decode cX9_init 50 = .ok (.putfield 25, 3) := by decide +kernel
theorem dX9_init_53 : decode cX9_init 53 = .ok (.aload_n 0, 1) := by decide +kernel
theorem dX9_init_54 : decode cX9_init 54 = .ok (.sipush 180, 3) := by decide +kernel
theorem dX9_init_57 : decode cX9_init 57 = .ok (.newarray .int, 2) := by decide +kernel
theorem dX9_init_59 : decode cX9_init 59 = .ok (.putfield 28, 3) := by decide +kernel
theorem dX9_init_62 : decode cX9_init 62 = .ok (.aload_n 0, 1) := by decide +kernel
theorem dX9_init_63 : decode cX9_init 63 = .ok (.bipush 40, 2) := by decide +kernel
theorem dX9_init_65 : decode cX9_init 65 = .ok (.newarray .int, 2) := by decide +kernel
theorem dX9_init_67 : decode cX9_init 67 = .ok (.putfield 31, 3) := by decide +kernel
theorem dX9_init_70 : decode cX9_init 70 = .ok (.aload_n 0, 1) := by decide +kernel
theorem dX9_init_71 : decode cX9_init 71 = .ok (.bipush 14, 2) := by decide +kernel
theorem dX9_init_73 : decode cX9_init 73 = .ok (.newarray .int, 2) := by decide +kernel
theorem dX9_init_75 : decode cX9_init 75 = .ok (.putfield 34, 3) := by decide +kernel
theorem dX9_init_78 : decode cX9_init 78 = .ok (.aload_n 0, 1) := by decide +kernel
theorem dX9_init_79 : decode cX9_init 79 = .ok (.bipush 14, 2) := by decide +kernel
theorem dX9_init_81 : decode cX9_init 81 = .ok (.newarray .int, 2) := by decide +kernel
theorem dX9_init_83 : decode cX9_init 83 = .ok (.putfield 37, 3) := by decide +kernel
theorem dX9_init_86 : decode cX9_init 86 = .ok (.aload_n 0, 1) := by decide +kernel
theorem dX9_init_87 : decode cX9_init 87 = .ok (.iconst (-1), 1) := by decide +kernel
theorem dX9_init_88 : decode cX9_init 88 = .ok (.putfield 40, 3) := by decide +kernel
theorem dX9_init_91 : decode cX9_init 91 = .ok (.aload_n 0, 1) := by decide +kernel
theorem dX9_init_92 : decode cX9_init 92 = .ok (.iconst (-1), 1) := by decide +kernel
theorem dX9_init_93 : decode cX9_init 93 = .ok (.putfield 44, 3) := by decide +kernel
theorem dX9_init_96 : decode cX9_init 96 = .ok (.return_, 1) := by decide +kernel
theorem dX9_thrown_0 : decode cX9_thrown 0 = .ok (.aload_n 0, 1) := by decide +kernel
theorem dX9_thrown_1 : decode cX9_thrown 1 = .ok (.getfield 47, 3) := by decide +kernel
theorem dX9_thrown_4 : decode cX9_thrown 4 = .ok (.ireturn, 1) := by decide +kernel
theorem dX9_fails_0 : decode cX9_fails 0 = .ok (.aload_n 0, 1) := by decide +kernel
theorem dX9_fails_1 : decode cX9_fails 1 = .ok (.iload_n 1, 1) := by decide +kernel
theorem dX9_fails_2 : decode cX9_fails 2 = .ok (.putfield 47, 3) := by decide +kernel
theorem dX9_fails_5 : decode cX9_fails 5 = .ok (.iconst 0, 1) := by decide +kernel
theorem dX9_fails_6 : decode cX9_fails 6 = .ok (.ireturn, 1) := by decide +kernel
theorem dX9_in_0 : decode cX9_in 0 = .ok (.iload_n 0, 1) := by decide +kernel
theorem dX9_in_1 : decode cX9_in 1 = .ok (.iload_n 1, 1) := by decide +kernel
theorem dX9_in_2 : decode cX9_in 2 = .ok (.if_icmp .lt 12, 3) := by decide +kernel
theorem dX9_in_5 : decode cX9_in 5 = .ok (.iload_n 0, 1) := by decide +kernel
theorem dX9_in_6 : decode cX9_in 6 = .ok (.iload_n 2, 1) := by decide +kernel
theorem dX9_in_7 : decode cX9_in 7 = .ok (.if_icmp .gt 7, 3) := by decide +kernel
theorem dX9_in_10 : decode cX9_in 10 = .ok (.iconst 1, 1) := by decide +kernel
theorem dX9_in_11 : decode cX9_in 11 = .ok (.goto 4, 3) := by decide +kernel
theorem dX9_in_14 : decode cX9_in 14 = .ok (.iconst 0, 1) := by decide +kernel
theorem dX9_in_15 : decode cX9_in 15 = .ok (.ireturn, 1) := by decide +kernel
theorem dX9_remembers_0 : decode cX9_remembers 0 = .ok (.aload_n 0, 1) := by decide +kernel
theorem dX9_remembers_1 : decode cX9_remembers 1 = .ok (.iconst 0, 1) := by decide +kernel
theorem dX9_remembers_2 : decode cX9_remembers 2 = .ok (.putfield 47, 3) := by decide +kernel
theorem dX9_remembers_5 : decode cX9_remembers 5 = .ok (.iconst 0, 1) := by decide +kernel
theorem dX9_remembers_6 : decode cX9_remembers 6 = .ok (.istore_n 1, 1) := by decide +kernel
theorem dX9_remembers_7 : decode cX9_remembers 7 = .ok (.iload_n 1, 1) := by decide +kernel
theorem dX9_remembers_8 : decode cX9_remembers 8 = .ok (.bipush 116, 2) := by decide +kernel
theorem dX9_remembers_10 : decode cX9_remembers 10 = .ok (.if_icmp .ge 21, 3) := by decide +kernel
theorem dX9_remembers_13 : decode cX9_remembers 13 = .ok (.aload_n 0, 1) := by decide +kernel
theorem dX9_remembers_14 : decode cX9_remembers 14 = .ok (.getfield 13, 3) := by decide +kernel
theorem dX9_remembers_17 : decode cX9_remembers 17 = .ok (.iload_n 1, 1) := by decide +kernel
theorem dX9_remembers_18 : decode cX9_remembers 18 = .ok (.aload_n 0, 1) := by decide +kernel
theorem dX9_remembers_19 : decode cX9_remembers 19 = .ok (.getfield 7, 3) := by decide +kernel
theorem dX9_remembers_22 : decode cX9_remembers 22 = .ok (.iload_n 1, 1) := by decide +kernel
theorem dX9_remembers_23 : decode cX9_remembers 23 = .ok (.iaload, 1) := by decide +kernel
theorem dX9_remembers_24 : decode cX9_remembers 24 = .ok (.iastore, 1) := by decide +kernel
theorem dX9_remembers_25 : decode cX9_remembers 25 = .ok (.iinc 1 1, 3) := by decide +kernel
theorem dX9_remembers_28 : decode cX9_remembers 28 = .ok (.goto (-21), 3) := by decide +kernel
theorem dX9_remembers_31 : decode cX9_remembers 31 = .ok (.return_, 1) := by decide +kernel
theorem dX9_changed_0 : decode cX9_changed 0 = .ok (.aload_n 0, 1) := by decide +kernel
theorem dX9_changed_1 : decode cX9_changed 1 = .ok (.getfield 50, 3) := by decide +kernel
theorem dX9_changed_4 : decode cX9_changed 4 = .ok (.bipush 8, 2) := by decide +kernel
theorem dX9_changed_6 : decode cX9_changed 6 = .ok (.if_icmp .ne 36, 3) := by decide +kernel
theorem dX9_changed_9 : decode cX9_changed 9 = .ok (.iconst 0, 1) := by decide +kernel
theorem dX9_changed_10 : decode cX9_changed 10 = .ok (.istore_n 2, 1) := by decide +kernel
theorem dX9_changed_11 : decode cX9_changed 11 = .ok (.iload_n 2, 1) := by decide +kernel
theorem dX9_changed_12 : decode cX9_changed 12 = .ok (.sipush 812, 3) := by decide +kernel
theorem dX9_changed_15 : decode cX9_changed 15 = .ok (.if_icmp .ge 24, 3) := by decide +kernel
theorem dX9_changed_18 : decode cX9_changed 18 = .ok (.aload_n 0, 1) := by decide +kernel
theorem dX9_changed_19 : decode cX9_changed 19 = .ok (.getfield 19, 3) := by decide +kernel
theorem dX9_changed_22 : decode cX9_changed 22 = .ok (.iload_n 2, 1) := by decide +kernel
theorem dX9_changed_23 : decode cX9_changed 23 = .ok (.aload_n 0, 1) := by decide +kernel
theorem dX9_changed_24 : decode cX9_changed 24 = .ok (.getfield 19, 3) := by decide +kernel
theorem dX9_changed_27 : decode cX9_changed 27 = .ok (.iload_n 2, 1) := by decide +kernel
theorem dX9_changed_28 : decode cX9_changed 28 = .ok (.bipush 116, 2) := by decide +kernel
theorem dX9_changed_30 : decode cX9_changed 30 = .ok (.iadd, 1) := by decide +kernel
theorem dX9_changed_31 : decode cX9_changed 31 = .ok (.iaload, 1) := by decide +kernel
theorem dX9_changed_32 : decode cX9_changed 32 = .ok (.iastore, 1) := by decide +kernel
theorem dX9_changed_33 : decode cX9_changed 33 = .ok (.iinc 2 1, 3) := by decide +kernel
theorem dX9_changed_36 : decode cX9_changed 36 = .ok (.goto (-25), 3) := by decide +kernel
theorem dX9_changed_39 : decode cX9_changed 39 = .ok (.goto 13, 3) := by decide +kernel
theorem dX9_changed_42 : decode cX9_changed 42 = .ok (.aload_n 0, 1) := by decide +kernel
theorem dX9_changed_43 : decode cX9_changed 43 = .ok (.dup, 1) := by decide +kernel
theorem dX9_changed_44 : decode cX9_changed 44 = .ok (.getfield 50, 3) := by decide +kernel
theorem dX9_changed_47 : decode cX9_changed 47 = .ok (.iconst 1, 1) := by decide +kernel
theorem dX9_changed_48 : decode cX9_changed 48 = .ok (.iadd, 1) := by decide +kernel
theorem dX9_changed_49 : decode cX9_changed 49 = .ok (.putfield 50, 3) := by decide +kernel
theorem dX9_changed_52 : decode cX9_changed 52 = .ok (.iconst 0, 1) := by decide +kernel
theorem dX9_changed_53 : decode cX9_changed 53 = .ok (.istore_n 2, 1) := by decide +kernel
theorem dX9_changed_54 : decode cX9_changed 54 = .ok (.iload_n 2, 1) := by decide +kernel
theorem dX9_changed_55 : decode cX9_changed 55 = .ok (.bipush 116, 2) := by decide +kernel
theorem dX9_changed_57 : decode cX9_changed 57 = .ok (.if_icmp .ge 31, 3) := by decide +kernel
theorem dX9_changed_60 : decode cX9_changed 60 = .ok (.aload_n 0, 1) := by decide +kernel
theorem dX9_changed_61 : decode cX9_changed 61 = .ok (.getfield 19, 3) := by decide +kernel
theorem dX9_changed_64 : decode cX9_changed 64 = .ok (.bipush 116, 2) := by decide +kernel
theorem dX9_changed_66 : decode cX9_changed 66 = .ok (.aload_n 0, 1) := by decide +kernel
theorem dX9_changed_67 : decode cX9_changed 67 = .ok (.getfield 50, 3) := by decide +kernel
theorem dX9_changed_70 : decode cX9_changed 70 = .ok (.iconst 1, 1) := by decide +kernel
theorem dX9_changed_71 : decode cX9_changed 71 = .ok (.isub, 1) := by decide +kernel
theorem dX9_changed_72 : decode cX9_changed 72 = .ok (.imul, 1) := by decide +kernel
theorem dX9_changed_73 : decode cX9_changed 73 = .ok (.iload_n 2, 1) := by decide +kernel
theorem dX9_changed_74 : decode cX9_changed 74 = .ok (.iadd, 1) := by decide +kernel
theorem dX9_changed_75 : decode cX9_changed 75 = .ok (.aload_n 0, 1) := by decide +kernel
theorem dX9_changed_76 : decode cX9_changed 76 = .ok (.getfield 13, 3) := by decide +kernel
theorem dX9_changed_79 : decode cX9_changed 79 = .ok (.iload_n 2, 1) := by decide +kernel
theorem dX9_changed_80 : decode cX9_changed 80 = .ok (.iaload, 1) := by decide +kernel
theorem dX9_changed_81 : decode cX9_changed 81 = .ok (.iastore, 1) := by decide +kernel
theorem dX9_changed_82 : decode cX9_changed 82 = .ok (.iinc 2 1, 3) := by decide +kernel
theorem dX9_changed_85 : decode cX9_changed 85 = .ok (.goto (-31), 3) := by decide +kernel
theorem dX9_changed_88 : decode cX9_changed 88 = .ok (.iload_n 1, 1) := by decide +kernel
theorem dX9_changed_89 : decode cX9_changed 89 = .ok (.ireturn, 1) := by decide +kernel
theorem dX9_done_0 : decode cX9_done 0 = .ok (.aload_n 0, 1) := by decide +kernel
theorem dX9_done_1 : decode cX9_done 1 = .ok (.iload_n 1, 1) := by decide +kernel
theorem dX9_done_2 : decode cX9_done 2 = .ok (.putfield 53, 3) := by decide +kernel
theorem dX9_done_5 : decode cX9_done 5 = .ok (.iconst 0, 1) := by decide +kernel
theorem dX9_done_6 : decode cX9_done 6 = .ok (.ireturn, 1) := by decide +kernel
theorem dX9_ends_0 : decode cX9_ends 0 = .ok (.iload_n 1, 1) := by decide +kernel
theorem dX9_ends_1 : decode cX9_ends 1 = .ok (.ifCond .ne 14, 3) := by decide +kernel
theorem dX9_ends_4 : decode cX9_ends 4 = .ok (.aload_n 0, 1) := by decide +kernel
theorem dX9_ends_5 : decode cX9_ends 5 = .ok (.aload_n 0, 1) := by decide +kernel
theorem dX9_ends_6 : decode cX9_ends 6 = .ok (.getfield 53, 3) := by decide +kernel
theorem dX9_ends_9 : decode cX9_ends 9 = .ok (.invokevirtual 56, 3) := by decide +kernel
theorem dX9_ends_12 : decode cX9_ends 12 = .ok (.goto 8, 3) := by decide +kernel
theorem dX9_ends_15 : decode cX9_ends 15 = .ok (.aload_n 0, 1) := by decide +kernel
theorem dX9_ends_16 : decode cX9_ends 16 = .ok (.iload_n 1, 1) := by decide +kernel
theorem dX9_ends_17 : decode cX9_ends 17 = .ok (.invokevirtual 60, 3) := by decide +kernel
theorem dX9_ends_20 : decode cX9_ends 20 = .ok (.ireturn, 1) := by decide +kernel
theorem dX9_isBlock_0 : decode cX9_isBlock 0 = .ok (.iload_n 1, 1) := by decide +kernel
theorem dX9_isBlock_1 : decode cX9_isBlock 1 = .ok (.iconst 0, 1) := by decide +kernel
theorem dX9_isBlock_2 : decode cX9_isBlock 2 = .ok (.aload_n 0, 1) := by decide +kernel
theorem dX9_isBlock_3 : decode cX9_isBlock 3 = .ok (.getfield 7, 3) := by decide +kernel
theorem dX9_isBlock_6 : decode cX9_isBlock 6 = .ok (.iconst 0, 1) := by decide +kernel
theorem dX9_isBlock_7 : decode cX9_isBlock 7 = .ok (.iaload, 1) := by decide +kernel
theorem dX9_isBlock_8 : decode cX9_isBlock 8 = .ok (.iconst 1, 1) := by decide +kernel
theorem dX9_isBlock_9 : decode cX9_isBlock 9 = .ok (.isub, 1) := by decide +kernel
theorem dX9_isBlock_10 : decode cX9_isBlock 10 = .ok (.invokestatic 63, 3) := by decide +kernel
theorem dX9_isBlock_13 : decode cX9_isBlock 13 = .ok (.ireturn, 1) := by decide +kernel
theorem dX9_isTrain_0 : decode cX9_isTrain 0 = .ok (.iload_n 1, 1) := by decide +kernel
theorem dX9_isTrain_1 : decode cX9_isTrain 1 = .ok (.iconst 0, 1) := by decide +kernel
theorem dX9_isTrain_2 : decode cX9_isTrain 2 = .ok (.aload_n 0, 1) := by decide +kernel
theorem dX9_isTrain_3 : decode cX9_isTrain 3 = .ok (.getfield 7, 3) := by decide +kernel
theorem dX9_isTrain_6 : decode cX9_isTrain 6 = .ok (.iconst 1, 1) := by decide +kernel
theorem dX9_isTrain_7 : decode cX9_isTrain 7 = .ok (.iaload, 1) := by decide +kernel
theorem dX9_isTrain_8 : decode cX9_isTrain 8 = .ok (.iconst 1, 1) := by decide +kernel
theorem dX9_isTrain_9 : decode cX9_isTrain 9 = .ok (.isub, 1) := by decide +kernel
theorem dX9_isTrain_10 : decode cX9_isTrain 10 = .ok (.invokestatic 63, 3) := by decide +kernel
theorem dX9_isTrain_13 : decode cX9_isTrain 13 = .ok (.ireturn, 1) := by decide +kernel
theorem dX9_block_0 : decode cX9_block 0 = .ok (.aload_n 0, 1) := by decide +kernel
theorem dX9_block_1 : decode cX9_block 1 = .ok (.getfield 7, 3) := by decide +kernel
theorem dX9_block_4 : decode cX9_block 4 = .ok (.iconst 4, 1) := by decide +kernel
theorem dX9_block_5 : decode cX9_block 5 = .ok (.iconst 4, 1) := by decide +kernel
theorem dX9_block_6 : decode cX9_block 6 = .ok (.iload_n 1, 1) := by decide +kernel
theorem dX9_block_7 : decode cX9_block 7 = .ok (.imul, 1) := by decide +kernel
theorem dX9_block_8 : decode cX9_block 8 = .ok (.iadd, 1) := by decide +kernel
theorem dX9_block_9 : decode cX9_block 9 = .ok (.iload_n 2, 1) := by decide +kernel
theorem dX9_block_10 : decode cX9_block 10 = .ok (.iadd, 1) := by decide +kernel
theorem dX9_block_11 : decode cX9_block 11 = .ok (.iaload, 1) := by decide +kernel
theorem dX9_block_12 : decode cX9_block 12 = .ok (.ireturn, 1) := by decide +kernel
theorem dX9_train_0 : decode cX9_train 0 = .ok (.aload_n 0, 1) := by decide +kernel
theorem dX9_train_1 : decode cX9_train 1 = .ok (.getfield 7, 3) := by decide +kernel
theorem dX9_train_4 : decode cX9_train 4 = .ok (.bipush 74, 2) := by decide +kernel
theorem dX9_train_6 : decode cX9_train 6 = .ok (.bipush 7, 2) := by decide +kernel
theorem dX9_train_8 : decode cX9_train 8 = .ok (.iload_n 1, 1) := by decide +kernel
theorem dX9_train_9 : decode cX9_train 9 = .ok (.imul, 1) := by decide +kernel
theorem dX9_train_10 : decode cX9_train 10 = .ok (.iadd, 1) := by decide +kernel
theorem dX9_train_11 : decode cX9_train 11 = .ok (.iload_n 2, 1) := by decide +kernel
theorem dX9_train_12 : decode cX9_train 12 = .ok (.iadd, 1) := by decide +kernel
theorem dX9_train_13 : decode cX9_train 13 = .ok (.iaload, 1) := by decide +kernel
theorem dX9_train_14 : decode cX9_train 14 = .ok (.ireturn, 1) := by decide +kernel
theorem dX9_sets_0 : decode cX9_sets 0 = .ok (.aload_n 0, 1) := by decide +kernel
theorem dX9_sets_1 : decode cX9_sets 1 = .ok (.getfield 7, 3) := by decide +kernel
theorem dX9_sets_4 : decode cX9_sets 4 = .ok (.bipush 74, 2) := by decide +kernel
theorem dX9_sets_6 : decode cX9_sets 6 = .ok (.bipush 7, 2) := by decide +kernel
theorem dX9_sets_8 : decode cX9_sets 8 = .ok (.iload_n 1, 1) := by decide +kernel
theorem dX9_sets_9 : decode cX9_sets 9 = .ok (.imul, 1) := by decide +kernel
theorem dX9_sets_10 : decode cX9_sets 10 = .ok (.iadd, 1) := by decide +kernel
theorem dX9_sets_11 : decode cX9_sets 11 = .ok (.iload_n 2, 1) := by decide +kernel
theorem dX9_sets_12 : decode cX9_sets 12 = .ok (.iadd, 1) := by decide +kernel
theorem dX9_sets_13 : decode cX9_sets 13 = .ok (.iload_n 3, 1) := by decide +kernel
theorem dX9_sets_14 : decode cX9_sets 14 = .ok (.iastore, 1) := by decide +kernel
theorem dX9_sets_15 : decode cX9_sets 15 = .ok (.return_, 1) := by decide +kernel
theorem dX9_linked_0 : decode cX9_linked 0 = .ok (.aload_n 0, 1) := by decide +kernel
theorem dX9_linked_1 : decode cX9_linked 1 = .ok (.getfield 7, 3) := by decide +kernel
theorem dX9_linked_4 : decode cX9_linked 4 = .ok (.bipush 60, 2) := by decide +kernel
theorem dX9_linked_6 : decode cX9_linked 6 = .ok (.iload_n 1, 1) := by decide +kernel
theorem dX9_linked_7 : decode cX9_linked 7 = .ok (.iadd, 1) := by decide +kernel
theorem dX9_linked_8 : decode cX9_linked 8 = .ok (.iaload, 1) := by decide +kernel
theorem dX9_linked_9 : decode cX9_linked 9 = .ok (.iload_n 2, 1) := by decide +kernel
theorem dX9_linked_10 : decode cX9_linked 10 = .ok (.ishr, 1) := by decide +kernel
theorem dX9_linked_11 : decode cX9_linked 11 = .ok (.iconst 1, 1) := by decide +kernel
theorem dX9_linked_12 : decode cX9_linked 12 = .ok (.iand, 1) := by decide +kernel
theorem dX9_linked_13 : decode cX9_linked 13 = .ok (.iconst 1, 1) := by decide +kernel
theorem dX9_linked_14 : decode cX9_linked 14 = .ok (.if_icmp .ne 7, 3) := by decide +kernel
theorem dX9_linked_17 : decode cX9_linked 17 = .ok (.iconst 1, 1) := by decide +kernel
theorem dX9_linked_18 : decode cX9_linked 18 = .ok (.goto 4, 3) := by decide +kernel
theorem dX9_linked_21 : decode cX9_linked 21 = .ok (.iconst 0, 1) := by decide +kernel
theorem dX9_linked_22 : decode cX9_linked 22 = .ok (.ireturn, 1) := by decide +kernel
theorem dX9_links_0 : decode cX9_links 0 = .ok (.iconst 0, 1) := by decide +kernel
theorem dX9_links_1 : decode cX9_links 1 = .ok (.istore_n 1, 1) := by decide +kernel
theorem dX9_links_2 : decode cX9_links 2 = .ok (.iconst 0, 1) := by decide +kernel
theorem dX9_links_3 : decode cX9_links 3 = .ok (.istore_n 2, 1) := by decide +kernel
theorem dX9_links_4 : decode cX9_links 4 = .ok (.iload_n 2, 1) := by decide +kernel
theorem dX9_links_5 : decode cX9_links 5 = .ok (.aload_n 0, 1) := by decide +kernel
theorem dX9_links_6 : decode cX9_links 6 = .ok (.getfield 7, 3) := by decide +kernel
theorem dX9_links_9 : decode cX9_links 9 = .ok (.iconst 0, 1) := by decide +kernel
theorem dX9_links_10 : decode cX9_links 10 = .ok (.iaload, 1) := by decide +kernel
theorem dX9_links_11 : decode cX9_links 11 = .ok (.if_icmp .ge 39, 3) := by decide +kernel
theorem dX9_links_14 : decode cX9_links 14 = .ok (.iconst 0, 1) := by decide +kernel
theorem dX9_links_15 : decode cX9_links 15 = .ok (.istore_n 3, 1) := by decide +kernel
theorem dX9_links_16 : decode cX9_links 16 = .ok (.iload_n 3, 1) := by decide +kernel
theorem dX9_links_17 : decode cX9_links 17 = .ok (.iload_n 2, 1) := by decide +kernel
theorem dX9_links_18 : decode cX9_links 18 = .ok (.if_icmp .ge 26, 3) := by decide +kernel
theorem dX9_links_21 : decode cX9_links 21 = .ok (.iload_n 1, 1) := by decide +kernel
theorem dX9_links_22 : decode cX9_links 22 = .ok (.aload_n 0, 1) := by decide +kernel
theorem dX9_links_23 : decode cX9_links 23 = .ok (.iload_n 2, 1) := by decide +kernel
theorem dX9_links_24 : decode cX9_links 24 = .ok (.iload_n 3, 1) := by decide +kernel
theorem dX9_links_25 : decode cX9_links 25 = .ok (.invokevirtual 67, 3) := by decide +kernel
theorem dX9_links_28 : decode cX9_links 28 = .ok (.ifCond .eq 7, 3) := by decide +kernel
theorem dX9_links_31 : decode cX9_links 31 = .ok (.iconst 1, 1) := by decide +kernel
theorem dX9_links_32 : decode cX9_links 32 = .ok (.goto 4, 3) := by decide +kernel
theorem dX9_links_35 : decode cX9_links 35 = .ok (.iconst 0, 1) := by decide +kernel
theorem dX9_links_36 : decode cX9_links 36 = .ok (.iadd, 1) := by decide +kernel
theorem dX9_links_37 : decode cX9_links 37 = .ok (.istore_n 1, 1) := by decide +kernel
theorem dX9_links_38 : decode cX9_links 38 = .ok (.iinc 3 1, 3) := by decide +kernel
theorem dX9_links_41 : decode cX9_links 41 = .ok (.goto (-25), 3) := by decide +kernel
theorem dX9_links_44 : decode cX9_links 44 = .ok (.iinc 2 1, 3) := by decide +kernel
theorem dX9_links_47 : decode cX9_links 47 = .ok (.goto (-43), 3) := by decide +kernel
theorem dX9_links_50 : decode cX9_links 50 = .ok (.iload_n 1, 1) := by decide +kernel
theorem dX9_links_51 : decode cX9_links 51 = .ok (.ireturn, 1) := by decide +kernel
theorem dX9_cats_0 : decode cX9_cats 0 = .ok (.iconst 0, 1) := by decide +kernel
theorem dX9_cats_1 : decode cX9_cats 1 = .ok (.istore_n 1, 1) := by decide +kernel
theorem dX9_cats_2 : decode cX9_cats 2 = .ok (.iconst 0, 1) := by decide +kernel
theorem dX9_cats_3 : decode cX9_cats 3 = .ok (.istore_n 2, 1) := by decide +kernel
theorem dX9_cats_4 : decode cX9_cats 4 = .ok (.iload_n 2, 1) := by decide +kernel
theorem dX9_cats_5 : decode cX9_cats 5 = .ok (.aload_n 0, 1) := by decide +kernel
theorem dX9_cats_6 : decode cX9_cats 6 = .ok (.getfield 7, 3) := by decide +kernel
theorem dX9_cats_9 : decode cX9_cats 9 = .ok (.iconst 0, 1) := by decide +kernel
theorem dX9_cats_10 : decode cX9_cats 10 = .ok (.iaload, 1) := by decide +kernel
theorem dX9_cats_11 : decode cX9_cats 11 = .ok (.if_icmp .ge 18, 3) := by decide +kernel
theorem dX9_cats_14 : decode cX9_cats 14 = .ok (.iload_n 1, 1) := by decide +kernel
theorem dX9_cats_15 : decode cX9_cats 15 = .ok (.aload_n 0, 1) := by decide +kernel
theorem dX9_cats_16 : decode cX9_cats 16 = .ok (.iload_n 2, 1) := by decide +kernel
theorem dX9_cats_17 : decode cX9_cats 17 = .ok (.iconst 2, 1) := by decide +kernel
theorem dX9_cats_18 : decode cX9_cats 18 = .ok (.invokevirtual 71, 3) := by decide +kernel
theorem dX9_cats_21 : decode cX9_cats 21 = .ok (.iadd, 1) := by decide +kernel
theorem dX9_cats_22 : decode cX9_cats 22 = .ok (.istore_n 1, 1) := by decide +kernel
theorem dX9_cats_23 : decode cX9_cats 23 = .ok (.iinc 2 1, 3) := by decide +kernel
theorem dX9_cats_26 : decode cX9_cats 26 = .ok (.goto (-22), 3) := by decide +kernel
theorem dX9_cats_29 : decode cX9_cats 29 = .ok (.iload_n 1, 1) := by decide +kernel
theorem dX9_cats_30 : decode cX9_cats 30 = .ok (.ireturn, 1) := by decide +kernel
theorem dX9_inside_0 : decode cX9_inside 0 = .ok (.iconst 0, 1) := by decide +kernel
theorem dX9_inside_1 : decode cX9_inside 1 = .ok (.istore_n 2, 1) := by decide +kernel
theorem dX9_inside_2 : decode cX9_inside 2 = .ok (.iload_n 2, 1) := by decide +kernel
theorem dX9_inside_3 : decode cX9_inside 3 = .ok (.aload_n 0, 1) := by decide +kernel
theorem dX9_inside_4 : decode cX9_inside 4 = .ok (.getfield 7, 3) := by decide +kernel
theorem dX9_inside_7 : decode cX9_inside 7 = .ok (.iconst 1, 1) := by decide +kernel
theorem dX9_inside_8 : decode cX9_inside 8 = .ok (.iaload, 1) := by decide +kernel
theorem dX9_inside_9 : decode cX9_inside 9 = .ok (.if_icmp .ge 21, 3) := by decide +kernel
theorem dX9_inside_12 : decode cX9_inside 12 = .ok (.aload_n 0, 1) := by decide +kernel
theorem dX9_inside_13 : decode cX9_inside 13 = .ok (.iload_n 2, 1) := by decide +kernel
theorem dX9_inside_14 : decode cX9_inside 14 = .ok (.iconst 0, 1) := by decide +kernel
theorem dX9_inside_15 : decode cX9_inside 15 = .ok (.invokevirtual 75, 3) := by decide +kernel
theorem dX9_inside_18 : decode cX9_inside 18 = .ok (.iload_n 1, 1) := by decide +kernel
theorem dX9_inside_19 : decode cX9_inside 19 = .ok (.if_icmp .ne 5, 3) := by decide +kernel
theorem dX9_inside_22 : decode cX9_inside 22 = .ok (.iload_n 2, 1) := by decide +kernel
theorem dX9_inside_23 : decode cX9_inside 23 = .ok (.ireturn, 1) := by decide +kernel
theorem dX9_inside_24 : decode cX9_inside 24 = .ok (.iinc 2 1, 3) := by decide +kernel
theorem dX9_inside_27 : decode cX9_inside 27 = .ok (.goto (-25), 3) := by decide +kernel
theorem dX9_inside_30 : decode cX9_inside 30 = .ok (.iconst (-1), 1) := by decide +kernel
theorem dX9_inside_31 : decode cX9_inside 31 = .ok (.ireturn, 1) := by decide +kernel
theorem dX9_holder_0 : decode cX9_holder 0 = .ok (.aload_n 0, 1) := by decide +kernel
theorem dX9_holder_1 : decode cX9_holder 1 = .ok (.iload_n 1, 1) := by decide +kernel
theorem dX9_holder_2 : decode cX9_holder 2 = .ok (.iconst 3, 1) := by decide +kernel
theorem dX9_holder_3 : decode cX9_holder 3 = .ok (.invokevirtual 71, 3) := by decide +kernel
theorem dX9_holder_6 : decode cX9_holder 6 = .ok (.iconst 1, 1) := by decide +kernel
theorem dX9_holder_7 : decode cX9_holder 7 = .ok (.isub, 1) := by decide +kernel
theorem dX9_holder_8 : decode cX9_holder 8 = .ok (.ireturn, 1) := by decide +kernel
theorem dX9_held_0 : decode cX9_held 0 = .ok (.iconst 0, 1) := by decide +kernel
theorem dX9_held_1 : decode cX9_held 1 = .ok (.istore_n 2, 1) := by decide +kernel
theorem dX9_held_2 : decode cX9_held 2 = .ok (.iload_n 2, 1) := by decide +kernel
theorem dX9_held_3 : decode cX9_held 3 = .ok (.aload_n 0, 1) := by decide +kernel
theorem dX9_held_4 : decode cX9_held 4 = .ok (.getfield 7, 3) := by decide +kernel
theorem dX9_held_7 : decode cX9_held 7 = .ok (.iconst 0, 1) := by decide +kernel
theorem dX9_held_8 : decode cX9_held 8 = .ok (.iaload, 1) := by decide +kernel
theorem dX9_held_9 : decode cX9_held 9 = .ok (.if_icmp .ge 20, 3) := by decide +kernel
theorem dX9_held_12 : decode cX9_held 12 = .ok (.aload_n 0, 1) := by decide +kernel
theorem dX9_held_13 : decode cX9_held 13 = .ok (.iload_n 2, 1) := by decide +kernel
theorem dX9_held_14 : decode cX9_held 14 = .ok (.invokevirtual 78, 3) := by decide +kernel
theorem dX9_held_17 : decode cX9_held 17 = .ok (.iload_n 1, 1) := by decide +kernel
theorem dX9_held_18 : decode cX9_held 18 = .ok (.if_icmp .ne 5, 3) := by decide +kernel
theorem dX9_held_21 : decode cX9_held 21 = .ok (.iload_n 2, 1) := by decide +kernel
theorem dX9_held_22 : decode cX9_held 22 = .ok (.ireturn, 1) := by decide +kernel
theorem dX9_held_23 : decode cX9_held 23 = .ok (.iinc 2 1, 3) := by decide +kernel
theorem dX9_held_26 : decode cX9_held 26 = .ok (.goto (-24), 3) := by decide +kernel
theorem dX9_held_29 : decode cX9_held 29 = .ok (.iconst (-1), 1) := by decide +kernel
theorem dX9_held_30 : decode cX9_held 30 = .ok (.ireturn, 1) := by decide +kernel
theorem dX9_goalOf_0 : decode cX9_goalOf 0 = .ok (.aload_n 0, 1) := by decide +kernel
theorem dX9_goalOf_1 : decode cX9_goalOf 1 = .ok (.iload_n 1, 1) := by decide +kernel
theorem dX9_goalOf_2 : decode cX9_goalOf 2 = .ok (.iconst 3, 1) := by decide +kernel
theorem dX9_goalOf_3 : decode cX9_goalOf 3 = .ok (.invokevirtual 75, 3) := by decide +kernel
theorem dX9_goalOf_6 : decode cX9_goalOf 6 = .ok (.iconst 1, 1) := by decide +kernel
theorem dX9_goalOf_7 : decode cX9_goalOf 7 = .ok (.isub, 1) := by decide +kernel
theorem dX9_goalOf_8 : decode cX9_goalOf 8 = .ok (.ireturn, 1) := by decide +kernel
theorem dX9_ways_0 : decode cX9_ways 0 = .ok (.iconst 0, 1) := by decide +kernel
theorem dX9_ways_1 : decode cX9_ways 1 = .ok (.istore_n 2, 1) := by decide +kernel
theorem dX9_ways_2 : decode cX9_ways 2 = .ok (.iload_n 2, 1) := by decide +kernel
theorem dX9_ways_3 : decode cX9_ways 3 = .ok (.bipush 14, 2) := by decide +kernel
theorem dX9_ways_5 : decode cX9_ways 5 = .ok (.if_icmp .ge 18, 3) := by decide +kernel
theorem dX9_ways_8 : decode cX9_ways 8 = .ok (.aload_n 0, 1) := by decide +kernel
theorem dX9_ways_9 : decode cX9_ways 9 = .ok (.getfield 34, 3) := by decide +kernel
theorem dX9_ways_12 : decode cX9_ways 12 = .ok (.iload_n 2, 1) := by decide +kernel
theorem dX9_ways_13 : decode cX9_ways 13 = .ok (.sipush 9999, 3) := by decide +kernel
theorem dX9_ways_16 : decode cX9_ways 16 = .ok (.iastore, 1) := by decide +kernel
theorem dX9_ways_17 : decode cX9_ways 17 = .ok (.iinc 2 1, 3) := by decide +kernel
theorem dX9_ways_20 : decode cX9_ways 20 = .ok (.goto (-18), 3) := by decide +kernel
theorem dX9_ways_23 : decode cX9_ways 23 = .ok (.aload_n 0, 1) := by decide +kernel
theorem dX9_ways_24 : decode cX9_ways 24 = .ok (.getfield 34, 3) := by decide +kernel
theorem dX9_ways_27 : decode cX9_ways 27 = .ok (.iload_n 1, 1) := by decide +kernel
theorem dX9_ways_28 : decode cX9_ways 28 = .ok (.iconst 0, 1) := by decide +kernel
theorem dX9_ways_29 : decode cX9_ways 29 = .ok (.iastore, 1) := by decide +kernel
theorem dX9_ways_30 : decode cX9_ways 30 = .ok (.iconst 1, 1) := by decide +kernel
theorem dX9_ways_31 : decode cX9_ways 31 = .ok (.istore_n 2, 1) := by decide +kernel
theorem dX9_ways_32 : decode cX9_ways 32 = .ok (.iload_n 2, 1) := by decide +kernel
theorem dX9_ways_33 : decode cX9_ways 33 = .ok (.ifCond .eq 106, 3) := by decide +kernel
theorem dX9_ways_36 : decode cX9_ways 36 = .ok (.iconst 0, 1) := by decide +kernel
theorem dX9_ways_37 : decode cX9_ways 37 = .ok (.istore_n 2, 1) := by decide +kernel
theorem dX9_ways_38 : decode cX9_ways 38 = .ok (.iconst 0, 1) := by decide +kernel
theorem dX9_ways_39 : decode cX9_ways 39 = .ok (.istore_n 3, 1) := by decide +kernel
theorem dX9_ways_40 : decode cX9_ways 40 = .ok (.iload_n 3, 1) := by decide +kernel
theorem dX9_ways_41 : decode cX9_ways 41 = .ok (.aload_n 0, 1) := by decide +kernel
theorem dX9_ways_42 : decode cX9_ways 42 = .ok (.getfield 7, 3) := by decide +kernel
theorem dX9_ways_45 : decode cX9_ways 45 = .ok (.iconst 0, 1) := by decide +kernel
theorem dX9_ways_46 : decode cX9_ways 46 = .ok (.iaload, 1) := by decide +kernel
theorem dX9_ways_47 : decode cX9_ways 47 = .ok (.if_icmp .ge 89, 3) := by decide +kernel
theorem dX9_ways_50 : decode cX9_ways 50 = .ok (.iconst 0, 1) := by decide +kernel
theorem dX9_ways_51 : decode cX9_ways 51 = .ok (.istore 4, 2) := by decide +kernel
theorem dX9_ways_53 : decode cX9_ways 53 = .ok (.iload 4, 2) := by decide +kernel
theorem dX9_ways_55 : decode cX9_ways 55 = .ok (.aload_n 0, 1) := by decide +kernel
theorem dX9_ways_56 : decode cX9_ways 56 = .ok (.getfield 7, 3) := by decide +kernel
theorem dX9_ways_59 : decode cX9_ways 59 = .ok (.iconst 0, 1) := by decide +kernel
theorem dX9_ways_60 : decode cX9_ways 60 = .ok (.iaload, 1) := by decide +kernel
theorem dX9_ways_61 : decode cX9_ways 61 = .ok (.if_icmp .ge 69, 3) := by decide +kernel
theorem dX9_ways_64 : decode cX9_ways 64 = .ok (.aload_n 0, 1) := by decide +kernel
theorem dX9_ways_65 : decode cX9_ways 65 = .ok (.iload_n 3, 1) := by decide +kernel
theorem dX9_ways_66 : decode cX9_ways 66 = .ok (.iload 4, 2) := by decide +kernel
theorem dX9_ways_68 : decode cX9_ways 68 = .ok (.invokevirtual 67, 3) := by decide +kernel
theorem dX9_ways_71 : decode cX9_ways 71 = .ok (.ifCond .eq 53, 3) := by decide +kernel
theorem dX9_ways_74 : decode cX9_ways 74 = .ok (.aload_n 0, 1) := by decide +kernel
theorem dX9_ways_75 : decode cX9_ways 75 = .ok (.getfield 34, 3) := by decide +kernel
theorem dX9_ways_78 : decode cX9_ways 78 = .ok (.iload 4, 2) := by decide +kernel
theorem dX9_ways_80 : decode cX9_ways 80 = .ok (.iaload, 1) := by decide +kernel
theorem dX9_ways_81 : decode cX9_ways 81 = .ok (.aload_n 0, 1) := by decide +kernel
theorem dX9_ways_82 : decode cX9_ways 82 = .ok (.iload 4, 2) := by decide +kernel
theorem dX9_ways_84 : decode cX9_ways 84 = .ok (.iconst 0, 1) := by decide +kernel
theorem dX9_ways_85 : decode cX9_ways 85 = .ok (.invokevirtual 71, 3) := by decide +kernel
theorem dX9_ways_88 : decode cX9_ways 88 = .ok (.iadd, 1) := by decide +kernel
theorem dX9_ways_89 : decode cX9_ways 89 = .ok (.aload_n 0, 1) := by decide +kernel
theorem dX9_ways_90 : decode cX9_ways 90 = .ok (.getfield 34, 3) := by decide +kernel
theorem dX9_ways_93 : decode cX9_ways 93 = .ok (.iload_n 3, 1) := by decide +kernel
theorem dX9_ways_94 : decode cX9_ways 94 = .ok (.iaload, 1) := by decide +kernel
theorem dX9_ways_95 : decode cX9_ways 95 = .ok (.if_icmp .lt 6, 3) := by decide +kernel
theorem dX9_ways_98 : decode cX9_ways 98 = .ok (.goto 26, 3) := by decide +kernel
theorem dX9_ways_101 : decode cX9_ways 101 = .ok (.aload_n 0, 1) := by decide +kernel
theorem dX9_ways_102 : decode cX9_ways 102 = .ok (.getfield 34, 3) := by decide +kernel
theorem dX9_ways_105 : decode cX9_ways 105 = .ok (.iload_n 3, 1) := by decide +kernel
theorem dX9_ways_106 : decode cX9_ways 106 = .ok (.aload_n 0, 1) := by decide +kernel
theorem dX9_ways_107 : decode cX9_ways 107 = .ok (.getfield 34, 3) := by decide +kernel
theorem dX9_ways_110 : decode cX9_ways 110 = .ok (.iload 4, 2) := by decide +kernel
theorem dX9_ways_112 : decode cX9_ways 112 = .ok (.iaload, 1) := by decide +kernel
theorem dX9_ways_113 : decode cX9_ways 113 = .ok (.aload_n 0, 1) := by decide +kernel
theorem dX9_ways_114 : decode cX9_ways 114 = .ok (.iload 4, 2) := by decide +kernel
theorem dX9_ways_116 : decode cX9_ways 116 = .ok (.iconst 0, 1) := by decide +kernel
theorem dX9_ways_117 : decode cX9_ways 117 = .ok (.invokevirtual 71, 3) := by decide +kernel
theorem dX9_ways_120 : decode cX9_ways 120 = .ok (.iadd, 1) := by decide +kernel
theorem dX9_ways_121 : decode cX9_ways 121 = .ok (.iastore, 1) := by decide +kernel
theorem dX9_ways_122 : decode cX9_ways 122 = .ok (.iconst 1, 1) := by decide +kernel
theorem dX9_ways_123 : decode cX9_ways 123 = .ok (.istore_n 2, 1) := by decide +kernel
theorem dX9_ways_124 : decode cX9_ways 124 = .ok (.iinc 4 1, 3) := by decide +kernel
theorem dX9_ways_127 : decode cX9_ways 127 = .ok (.goto (-74), 3) := by decide +kernel
theorem dX9_ways_130 : decode cX9_ways 130 = .ok (.iinc 3 1, 3) := by decide +kernel
theorem dX9_ways_133 : decode cX9_ways 133 = .ok (.goto (-93), 3) := by decide +kernel
theorem dX9_ways_136 : decode cX9_ways 136 = .ok (.goto (-104), 3) := by decide +kernel
theorem dX9_ways_139 : decode cX9_ways 139 = .ok (.return_, 1) := by decide +kernel
theorem dX9_next_0 : decode cX9_next 0 = .ok (.aload_n 0, 1) := by decide +kernel
theorem dX9_next_1 : decode cX9_next 1 = .ok (.iload_n 1, 1) := by decide +kernel
theorem dX9_next_2 : decode cX9_next 2 = .ok (.invokevirtual 81, 3) := by decide +kernel
theorem dX9_next_5 : decode cX9_next 5 = .ok (.istore_n 2, 1) := by decide +kernel
theorem dX9_next_6 : decode cX9_next 6 = .ok (.aload_n 0, 1) := by decide +kernel
theorem dX9_next_7 : decode cX9_next 7 = .ok (.iload_n 1, 1) := by decide +kernel
theorem dX9_next_8 : decode cX9_next 8 = .ok (.iconst 0, 1) := by decide +kernel
theorem dX9_next_9 : decode cX9_next 9 = .ok (.invokevirtual 75, 3) := by decide +kernel
theorem dX9_next_12 : decode cX9_next 12 = .ok (.istore_n 3, 1) := by decide +kernel
theorem dX9_next_13 : decode cX9_next 13 = .ok (.iload_n 2, 1) := by decide +kernel
theorem dX9_next_14 : decode cX9_next 14 = .ok (.iconst (-1), 1) := by decide +kernel
theorem dX9_next_15 : decode cX9_next 15 = .ok (.if_icmp .eq 8, 3) := by decide +kernel
theorem dX9_next_18 : decode cX9_next 18 = .ok (.iload_n 2, 1) := by decide +kernel
theorem dX9_next_19 : decode cX9_next 19 = .ok (.iload_n 3, 1) := by decide +kernel
theorem dX9_next_20 : decode cX9_next 20 = .ok (.if_icmp .ne 5, 3) := by decide +kernel
theorem dX9_next_23 : decode cX9_next 23 = .ok (.iconst (-1), 1) := by decide +kernel
theorem dX9_next_24 : decode cX9_next 24 = .ok (.ireturn, 1) := by decide +kernel
theorem dX9_next_25 : decode cX9_next 25 = .ok (.aload_n 0, 1) := by decide +kernel
theorem dX9_next_26 : decode cX9_next 26 = .ok (.iload_n 2, 1) := by decide +kernel
theorem dX9_next_27 : decode cX9_next 27 = .ok (.invokevirtual 84, 3) := by decide +kernel
theorem dX9_next_30 : decode cX9_next 30 = .ok (.aload_n 0, 1) := by decide +kernel
theorem dX9_next_31 : decode cX9_next 31 = .ok (.getfield 34, 3) := by decide +kernel
theorem dX9_next_34 : decode cX9_next 34 = .ok (.iload_n 3, 1) := by decide +kernel
theorem dX9_next_35 : decode cX9_next 35 = .ok (.iaload, 1) := by decide +kernel
theorem dX9_next_36 : decode cX9_next 36 = .ok (.sipush 9999, 3) := by decide +kernel
theorem dX9_next_39 : decode cX9_next 39 = .ok (.if_icmp .lt 5, 3) := by decide +kernel
theorem dX9_next_42 : decode cX9_next 42 = .ok (.iconst (-1), 1) := by decide +kernel
theorem dX9_next_43 : decode cX9_next 43 = .ok (.ireturn, 1) := by decide +kernel
theorem dX9_next_44 : decode cX9_next 44 = .ok (.iconst 0, 1) := by decide +kernel
theorem dX9_next_45 : decode cX9_next 45 = .ok (.istore 4, 2) := by decide +kernel
theorem dX9_next_47 : decode cX9_next 47 = .ok (.iload 4, 2) := by decide +kernel
theorem dX9_next_49 : decode cX9_next 49 = .ok (.aload_n 0, 1) := by decide +kernel
theorem dX9_next_50 : decode cX9_next 50 = .ok (.getfield 7, 3) := by decide +kernel
theorem dX9_next_53 : decode cX9_next 53 = .ok (.iconst 0, 1) := by decide +kernel
theorem dX9_next_54 : decode cX9_next 54 = .ok (.iaload, 1) := by decide +kernel
theorem dX9_next_55 : decode cX9_next 55 = .ok (.if_icmp .ge 46, 3) := by decide +kernel
theorem dX9_next_58 : decode cX9_next 58 = .ok (.aload_n 0, 1) := by decide +kernel
theorem dX9_next_59 : decode cX9_next 59 = .ok (.iload_n 3, 1) := by decide +kernel
theorem dX9_next_60 : decode cX9_next 60 = .ok (.iload 4, 2) := by decide +kernel
theorem dX9_next_62 : decode cX9_next 62 = .ok (.invokevirtual 67, 3) := by decide +kernel
theorem dX9_next_65 : decode cX9_next 65 = .ok (.ifCond .eq 30, 3) := by decide +kernel
theorem dX9_next_68 : decode cX9_next 68 = .ok (.aload_n 0, 1) := by decide +kernel
theorem dX9_next_69 : decode cX9_next 69 = .ok (.getfield 34, 3) := by decide +kernel
theorem dX9_next_72 : decode cX9_next 72 = .ok (.iload 4, 2) := by decide +kernel
theorem dX9_next_74 : decode cX9_next 74 = .ok (.iaload, 1) := by decide +kernel
theorem dX9_next_75 : decode cX9_next 75 = .ok (.aload_n 0, 1) := by decide +kernel
theorem dX9_next_76 : decode cX9_next 76 = .ok (.iload 4, 2) := by decide +kernel
theorem dX9_next_78 : decode cX9_next 78 = .ok (.iconst 0, 1) := by decide +kernel
theorem dX9_next_79 : decode cX9_next 79 = .ok (.invokevirtual 71, 3) := by decide +kernel
theorem dX9_next_82 : decode cX9_next 82 = .ok (.iadd, 1) := by decide +kernel
theorem dX9_next_83 : decode cX9_next 83 = .ok (.aload_n 0, 1) := by decide +kernel
theorem dX9_next_84 : decode cX9_next 84 = .ok (.getfield 34, 3) := by decide +kernel
theorem dX9_next_87 : decode cX9_next 87 = .ok (.iload_n 3, 1) := by decide +kernel
theorem dX9_next_88 : decode cX9_next 88 = .ok (.iaload, 1) := by decide +kernel
theorem dX9_next_89 : decode cX9_next 89 = .ok (.if_icmp .ne 6, 3) := by decide +kernel
theorem dX9_next_92 : decode cX9_next 92 = .ok (.iload 4, 2) := by decide +kernel
theorem dX9_next_94 : decode cX9_next 94 = .ok (.ireturn, 1) := by decide +kernel
theorem dX9_next_95 : decode cX9_next 95 = .ok (.iinc 4 1, 3) := by decide +kernel
theorem dX9_next_98 : decode cX9_next 98 = .ok (.goto (-51), 3) := by decide +kernel
theorem dX9_next_101 : decode cX9_next 101 = .ok (.iconst (-1), 1) := by decide +kernel
theorem dX9_next_102 : decode cX9_next 102 = .ok (.ireturn, 1) := by decide +kernel
theorem dX9_adds_0 : decode cX9_adds 0 = .ok (.iload_n 1, 1) := by decide +kernel
theorem dX9_adds_1 : decode cX9_adds 1 = .ok (.iconst 1, 1) := by decide +kernel
theorem dX9_adds_2 : decode cX9_adds 2 = .ok (.bipush 9, 2) := by decide +kernel
theorem dX9_adds_4 : decode cX9_adds 4 = .ok (.invokestatic 63, 3) := by decide +kernel
theorem dX9_adds_7 : decode cX9_adds 7 = .ok (.ifCond .ne 5, 3) := by decide +kernel
theorem dX9_adds_10 : decode cX9_adds 10 = .ok (.iconst 1, 1) := by decide +kernel
theorem dX9_adds_11 : decode cX9_adds 11 = .ok (.ireturn, 1) := by decide +kernel
theorem dX9_adds_12 : decode cX9_adds 12 = .ok (.aload_n 0, 1) := by decide +kernel
theorem dX9_adds_13 : decode cX9_adds 13 = .ok (.getfield 7, 3) := by decide +kernel
theorem dX9_adds_16 : decode cX9_adds 16 = .ok (.iconst 0, 1) := by decide +kernel
theorem dX9_adds_17 : decode cX9_adds 17 = .ok (.iaload, 1) := by decide +kernel
theorem dX9_adds_18 : decode cX9_adds 18 = .ok (.istore_n 3, 1) := by decide +kernel
theorem dX9_adds_19 : decode cX9_adds 19 = .ok (.iload_n 3, 1) := by decide +kernel
theorem dX9_adds_20 : decode cX9_adds 20 = .ok (.bipush 14, 2) := by decide +kernel
theorem dX9_adds_22 : decode cX9_adds 22 = .ok (.if_icmp .ne 5, 3) := by decide +kernel
theorem dX9_adds_25 : decode cX9_adds 25 = .ok (.iconst 2, 1) := by decide +kernel
theorem dX9_adds_26 : decode cX9_adds 26 = .ok (.ireturn, 1) := by decide +kernel
theorem dX9_adds_27 : decode cX9_adds 27 = .ok (.aload_n 0, 1) := by decide +kernel
theorem dX9_adds_28 : decode cX9_adds 28 = .ok (.getfield 7, 3) := by decide +kernel
theorem dX9_adds_31 : decode cX9_adds 31 = .ok (.iconst 4, 1) := by decide +kernel
theorem dX9_adds_32 : decode cX9_adds 32 = .ok (.iconst 4, 1) := by decide +kernel
theorem dX9_adds_33 : decode cX9_adds 33 = .ok (.iload_n 3, 1) := by decide +kernel
theorem dX9_adds_34 : decode cX9_adds 34 = .ok (.imul, 1) := by decide +kernel
theorem dX9_adds_35 : decode cX9_adds 35 = .ok (.iadd, 1) := by decide +kernel
theorem dX9_adds_36 : decode cX9_adds 36 = .ok (.iconst 0, 1) := by decide +kernel
theorem dX9_adds_37 : decode cX9_adds 37 = .ok (.iadd, 1) := by decide +kernel
theorem dX9_adds_38 : decode cX9_adds 38 = .ok (.iload_n 1, 1) := by decide +kernel
theorem dX9_adds_39 : decode cX9_adds 39 = .ok (.iastore, 1) := by decide +kernel
theorem dX9_adds_40 : decode cX9_adds 40 = .ok (.aload_n 0, 1) := by decide +kernel
theorem dX9_adds_41 : decode cX9_adds 41 = .ok (.getfield 7, 3) := by decide +kernel
theorem dX9_adds_44 : decode cX9_adds 44 = .ok (.iconst 4, 1) := by decide +kernel
theorem dX9_adds_45 : decode cX9_adds 45 = .ok (.iconst 4, 1) := by decide +kernel
theorem dX9_adds_46 : decode cX9_adds 46 = .ok (.iload_n 3, 1) := by decide +kernel
theorem dX9_adds_47 : decode cX9_adds 47 = .ok (.imul, 1) := by decide +kernel
theorem dX9_adds_48 : decode cX9_adds 48 = .ok (.iadd, 1) := by decide +kernel
theorem dX9_adds_49 : decode cX9_adds 49 = .ok (.iconst 1, 1) := by decide +kernel
theorem dX9_adds_50 : decode cX9_adds 50 = .ok (.iadd, 1) := by decide +kernel
theorem dX9_adds_51 : decode cX9_adds 51 = .ok (.iload_n 2, 1) := by decide +kernel
theorem dX9_adds_52 : decode cX9_adds 52 = .ok (.iastore, 1) := by decide +kernel
theorem dX9_adds_53 : decode cX9_adds 53 = .ok (.aload_n 0, 1) := by decide +kernel
theorem dX9_adds_54 : decode cX9_adds 54 = .ok (.getfield 7, 3) := by decide +kernel
theorem dX9_adds_57 : decode cX9_adds 57 = .ok (.iconst 4, 1) := by decide +kernel
theorem dX9_adds_58 : decode cX9_adds 58 = .ok (.iconst 4, 1) := by decide +kernel
theorem dX9_adds_59 : decode cX9_adds 59 = .ok (.iload_n 3, 1) := by decide +kernel
theorem dX9_adds_60 : decode cX9_adds 60 = .ok (.imul, 1) := by decide +kernel
theorem dX9_adds_61 : decode cX9_adds 61 = .ok (.iadd, 1) := by decide +kernel
theorem dX9_adds_62 : decode cX9_adds 62 = .ok (.iconst 2, 1) := by decide +kernel
theorem dX9_adds_63 : decode cX9_adds 63 = .ok (.iadd, 1) := by decide +kernel
theorem dX9_adds_64 : decode cX9_adds 64 = .ok (.iconst 0, 1) := by decide +kernel
theorem dX9_adds_65 : decode cX9_adds 65 = .ok (.iastore, 1) := by decide +kernel
theorem dX9_adds_66 : decode cX9_adds 66 = .ok (.aload_n 0, 1) := by decide +kernel
theorem dX9_adds_67 : decode cX9_adds 67 = .ok (.getfield 7, 3) := by decide +kernel
theorem dX9_adds_70 : decode cX9_adds 70 = .ok (.iconst 4, 1) := by decide +kernel
theorem dX9_adds_71 : decode cX9_adds 71 = .ok (.iconst 4, 1) := by decide +kernel
theorem dX9_adds_72 : decode cX9_adds 72 = .ok (.iload_n 3, 1) := by decide +kernel
theorem dX9_adds_73 : decode cX9_adds 73 = .ok (.imul, 1) := by decide +kernel
theorem dX9_adds_74 : decode cX9_adds 74 = .ok (.iadd, 1) := by decide +kernel
theorem dX9_adds_75 : decode cX9_adds 75 = .ok (.iconst 3, 1) := by decide +kernel
theorem dX9_adds_76 : decode cX9_adds 76 = .ok (.iadd, 1) := by decide +kernel
theorem dX9_adds_77 : decode cX9_adds 77 = .ok (.iconst 0, 1) := by decide +kernel
theorem dX9_adds_78 : decode cX9_adds 78 = .ok (.iastore, 1) := by decide +kernel
theorem dX9_adds_79 : decode cX9_adds 79 = .ok (.aload_n 0, 1) := by decide +kernel
theorem dX9_adds_80 : decode cX9_adds 80 = .ok (.getfield 7, 3) := by decide +kernel
theorem dX9_adds_83 : decode cX9_adds 83 = .ok (.bipush 60, 2) := by decide +kernel
theorem dX9_adds_85 : decode cX9_adds 85 = .ok (.iload_n 3, 1) := by decide +kernel
theorem dX9_adds_86 : decode cX9_adds 86 = .ok (.iadd, 1) := by decide +kernel
theorem dX9_adds_87 : decode cX9_adds 87 = .ok (.iconst 0, 1) := by decide +kernel
theorem dX9_adds_88 : decode cX9_adds 88 = .ok (.iastore, 1) := by decide +kernel
theorem dX9_adds_89 : decode cX9_adds 89 = .ok (.aload_n 0, 1) := by decide +kernel
theorem dX9_adds_90 : decode cX9_adds 90 = .ok (.getfield 7, 3) := by decide +kernel
theorem dX9_adds_93 : decode cX9_adds 93 = .ok (.iconst 0, 1) := by decide +kernel
theorem dX9_adds_94 : decode cX9_adds 94 = .ok (.iload_n 3, 1) := by decide +kernel
theorem dX9_adds_95 : decode cX9_adds 95 = .ok (.iconst 1, 1) := by decide +kernel
theorem dX9_adds_96 : decode cX9_adds 96 = .ok (.iadd, 1) := by decide +kernel
theorem dX9_adds_97 : decode cX9_adds 97 = .ok (.iastore, 1) := by decide +kernel
theorem dX9_adds_98 : decode cX9_adds 98 = .ok (.aload_n 0, 1) := by decide +kernel
theorem dX9_adds_99 : decode cX9_adds 99 = .ok (.iload_n 3, 1) := by decide +kernel
theorem dX9_adds_100 : decode cX9_adds 100 = .ok (.invokevirtual 88, 3) := by decide +kernel
theorem dX9_adds_103 : decode cX9_adds 103 = .ok (.ireturn, 1) := by decide +kernel
theorem dX9_joins_0 : decode cX9_joins 0 = .ok (.aload_n 0, 1) := by decide +kernel
theorem dX9_joins_1 : decode cX9_joins 1 = .ok (.iload_n 1, 1) := by decide +kernel
theorem dX9_joins_2 : decode cX9_joins 2 = .ok (.invokevirtual 91, 3) := by decide +kernel
theorem dX9_joins_5 : decode cX9_joins 5 = .ok (.ifCond .eq 11, 3) := by decide +kernel
theorem dX9_joins_8 : decode cX9_joins 8 = .ok (.aload_n 0, 1) := by decide +kernel
theorem dX9_joins_9 : decode cX9_joins 9 = .ok (.iload_n 2, 1) := by decide +kernel
theorem dX9_joins_10 : decode cX9_joins 10 = .ok (.invokevirtual 91, 3) := by decide +kernel
theorem dX9_joins_13 : decode cX9_joins 13 = .ok (.ifCond .ne 5, 3) := by decide +kernel
theorem dX9_joins_16 : decode cX9_joins 16 = .ok (.iconst 1, 1) := by decide +kernel
theorem dX9_joins_17 : decode cX9_joins 17 = .ok (.ireturn, 1) := by decide +kernel
theorem dX9_joins_18 : decode cX9_joins 18 = .ok (.iload_n 1, 1) := by decide +kernel
theorem dX9_joins_19 : decode cX9_joins 19 = .ok (.iload_n 2, 1) := by decide +kernel
theorem dX9_joins_20 : decode cX9_joins 20 = .ok (.if_icmp .ne 5, 3) := by decide +kernel
theorem dX9_joins_23 : decode cX9_joins 23 = .ok (.iconst 2, 1) := by decide +kernel
theorem dX9_joins_24 : decode cX9_joins 24 = .ok (.ireturn, 1) := by decide +kernel
theorem dX9_joins_25 : decode cX9_joins 25 = .ok (.aload_n 0, 1) := by decide +kernel
theorem dX9_joins_26 : decode cX9_joins 26 = .ok (.iload_n 1, 1) := by decide +kernel
theorem dX9_joins_27 : decode cX9_joins 27 = .ok (.iload_n 2, 1) := by decide +kernel
theorem dX9_joins_28 : decode cX9_joins 28 = .ok (.invokevirtual 67, 3) := by decide +kernel
theorem dX9_joins_31 : decode cX9_joins 31 = .ok (.ifCond .eq 5, 3) := by decide +kernel
theorem dX9_joins_34 : decode cX9_joins 34 = .ok (.iconst 3, 1) := by decide +kernel
theorem dX9_joins_35 : decode cX9_joins 35 = .ok (.ireturn, 1) := by decide +kernel
theorem dX9_joins_36 : decode cX9_joins 36 = .ok (.aload_n 0, 1) := by decide +kernel
theorem dX9_joins_37 : decode cX9_joins 37 = .ok (.getfield 7, 3) := by decide +kernel
theorem dX9_joins_40 : decode cX9_joins 40 = .ok (.bipush 60, 2) := by decide +kernel
theorem dX9_joins_42 : decode cX9_joins 42 = .ok (.iload_n 1, 1) := by decide +kernel
theorem dX9_joins_43 : decode cX9_joins 43 = .ok (.iadd, 1) := by decide +kernel
theorem dX9_joins_44 : decode cX9_joins 44 = .ok (.dup2, 1) := by decide +kernel
theorem dX9_joins_45 : decode cX9_joins 45 = .ok (.iaload, 1) := by decide +kernel
theorem dX9_joins_46 : decode cX9_joins 46 = .ok (.iconst 1, 1) := by decide +kernel
theorem dX9_joins_47 : decode cX9_joins 47 = .ok (.iload_n 2, 1) := by decide +kernel
theorem dX9_joins_48 : decode cX9_joins 48 = .ok (.ishl, 1) := by decide +kernel
theorem dX9_joins_49 : decode cX9_joins 49 = .ok (.ior, 1) := by decide +kernel
theorem dX9_joins_50 : decode cX9_joins 50 = .ok (.iastore, 1) := by decide +kernel
theorem dX9_joins_51 : decode cX9_joins 51 = .ok (.aload_n 0, 1) := by decide +kernel
theorem dX9_joins_52 : decode cX9_joins 52 = .ok (.getfield 7, 3) := by decide +kernel
theorem dX9_joins_55 : decode cX9_joins 55 = .ok (.bipush 60, 2) := by decide +kernel
theorem dX9_joins_57 : decode cX9_joins 57 = .ok (.iload_n 2, 1) := by decide +kernel
theorem dX9_joins_58 : decode cX9_joins 58 = .ok (.iadd, 1) := by decide +kernel
theorem dX9_joins_59 : decode cX9_joins 59 = .ok (.dup2, 1) := by decide +kernel
theorem dX9_joins_60 : decode cX9_joins 60 = .ok (.iaload, 1) := by decide +kernel
theorem dX9_joins_61 : decode cX9_joins 61 = .ok (.iconst 1, 1) := by decide +kernel
theorem dX9_joins_62 : decode cX9_joins 62 = .ok (.iload_n 1, 1) := by decide +kernel
theorem dX9_joins_63 : decode cX9_joins 63 = .ok (.ishl, 1) := by decide +kernel
theorem dX9_joins_64 : decode cX9_joins 64 = .ok (.ior, 1) := by decide +kernel
theorem dX9_joins_65 : decode cX9_joins 65 = .ok (.iastore, 1) := by decide +kernel
theorem dX9_joins_66 : decode cX9_joins 66 = .ok (.aload_n 0, 1) := by decide +kernel
theorem dX9_joins_67 : decode cX9_joins 67 = .ok (.aload_n 0, 1) := by decide +kernel
theorem dX9_joins_68 : decode cX9_joins 68 = .ok (.invokevirtual 95, 3) := by decide +kernel
theorem dX9_joins_71 : decode cX9_joins 71 = .ok (.invokevirtual 88, 3) := by decide +kernel
theorem dX9_joins_74 : decode cX9_joins 74 = .ok (.ireturn, 1) := by decide +kernel
theorem dX9_parts_0 : decode cX9_parts 0 = .ok (.aload_n 0, 1) := by decide +kernel
theorem dX9_parts_1 : decode cX9_parts 1 = .ok (.iload_n 1, 1) := by decide +kernel
theorem dX9_parts_2 : decode cX9_parts 2 = .ok (.invokevirtual 91, 3) := by decide +kernel
theorem dX9_parts_5 : decode cX9_parts 5 = .ok (.ifCond .eq 11, 3) := by decide +kernel
theorem dX9_parts_8 : decode cX9_parts 8 = .ok (.aload_n 0, 1) := by decide +kernel
theorem dX9_parts_9 : decode cX9_parts 9 = .ok (.iload_n 2, 1) := by decide +kernel
theorem dX9_parts_10 : decode cX9_parts 10 = .ok (.invokevirtual 91, 3) := by decide +kernel
theorem dX9_parts_13 : decode cX9_parts 13 = .ok (.ifCond .ne 5, 3) := by decide +kernel
theorem dX9_parts_16 : decode cX9_parts 16 = .ok (.iconst 1, 1) := by decide +kernel
theorem dX9_parts_17 : decode cX9_parts 17 = .ok (.ireturn, 1) := by decide +kernel
theorem dX9_parts_18 : decode cX9_parts 18 = .ok (.aload_n 0, 1) := by decide +kernel
theorem dX9_parts_19 : decode cX9_parts 19 = .ok (.iload_n 1, 1) := by decide +kernel
theorem dX9_parts_20 : decode cX9_parts 20 = .ok (.iload_n 2, 1) := by decide +kernel
theorem dX9_parts_21 : decode cX9_parts 21 = .ok (.invokevirtual 67, 3) := by decide +kernel
theorem dX9_parts_24 : decode cX9_parts 24 = .ok (.ifCond .ne 5, 3) := by decide +kernel
theorem dX9_parts_27 : decode cX9_parts 27 = .ok (.iconst 2, 1) := by decide +kernel
theorem dX9_parts_28 : decode cX9_parts 28 = .ok (.ireturn, 1) := by decide +kernel
theorem dX9_parts_29 : decode cX9_parts 29 = .ok (.aload_n 0, 1) := by decide +kernel
theorem dX9_parts_30 : decode cX9_parts 30 = .ok (.getfield 7, 3) := by decide +kernel
theorem dX9_parts_33 : decode cX9_parts 33 = .ok (.bipush 60, 2) := by decide +kernel
theorem dX9_parts_35 : decode cX9_parts 35 = .ok (.iload_n 1, 1) := by decide +kernel
theorem dX9_parts_36 : decode cX9_parts 36 = .ok (.iadd, 1) := by decide +kernel
theorem dX9_parts_37 : decode cX9_parts 37 = .ok (.dup2, 1) := by decide +kernel
theorem dX9_parts_38 : decode cX9_parts 38 = .ok (.iaload, 1) := by decide +kernel
theorem dX9_parts_39 : decode cX9_parts 39 = .ok (.iconst 1, 1) := by decide +kernel
theorem dX9_parts_40 : decode cX9_parts 40 = .ok (.iload_n 2, 1) := by decide +kernel
theorem dX9_parts_41 : decode cX9_parts 41 = .ok (.ishl, 1) := by decide +kernel
theorem dX9_parts_42 : decode cX9_parts 42 = .ok (.iconst (-1), 1) := by decide +kernel
theorem dX9_parts_43 : decode cX9_parts 43 = .ok (.ixor, 1) := by decide +kernel
theorem dX9_parts_44 : decode cX9_parts 44 = .ok (.iand, 1) := by decide +kernel
theorem dX9_parts_45 : decode cX9_parts 45 = .ok (.iastore, 1) := by decide +kernel
theorem dX9_parts_46 : decode cX9_parts 46 = .ok (.aload_n 0, 1) := by decide +kernel
theorem dX9_parts_47 : decode cX9_parts 47 = .ok (.getfield 7, 3) := by decide +kernel
theorem dX9_parts_50 : decode cX9_parts 50 = .ok (.bipush 60, 2) := by decide +kernel
theorem dX9_parts_52 : decode cX9_parts 52 = .ok (.iload_n 2, 1) := by decide +kernel
theorem dX9_parts_53 : decode cX9_parts 53 = .ok (.iadd, 1) := by decide +kernel
theorem dX9_parts_54 : decode cX9_parts 54 = .ok (.dup2, 1) := by decide +kernel
theorem dX9_parts_55 : decode cX9_parts 55 = .ok (.iaload, 1) := by decide +kernel
theorem dX9_parts_56 : decode cX9_parts 56 = .ok (.iconst 1, 1) := by decide +kernel
theorem dX9_parts_57 : decode cX9_parts 57 = .ok (.iload_n 1, 1) := by decide +kernel
theorem dX9_parts_58 : decode cX9_parts 58 = .ok (.ishl, 1) := by decide +kernel
theorem dX9_parts_59 : decode cX9_parts 59 = .ok (.iconst (-1), 1) := by decide +kernel
theorem dX9_parts_60 : decode cX9_parts 60 = .ok (.ixor, 1) := by decide +kernel
theorem dX9_parts_61 : decode cX9_parts 61 = .ok (.iand, 1) := by decide +kernel
theorem dX9_parts_62 : decode cX9_parts 62 = .ok (.iastore, 1) := by decide +kernel
theorem dX9_parts_63 : decode cX9_parts 63 = .ok (.aload_n 0, 1) := by decide +kernel
theorem dX9_parts_64 : decode cX9_parts 64 = .ok (.aload_n 0, 1) := by decide +kernel
theorem dX9_parts_65 : decode cX9_parts 65 = .ok (.invokevirtual 95, 3) := by decide +kernel
theorem dX9_parts_68 : decode cX9_parts 68 = .ok (.invokevirtual 88, 3) := by decide +kernel
theorem dX9_parts_71 : decode cX9_parts 71 = .ok (.ireturn, 1) := by decide +kernel
theorem dX9_seats_0 : decode cX9_seats 0 = .ok (.aload_n 0, 1) := by decide +kernel
theorem dX9_seats_1 : decode cX9_seats 1 = .ok (.iload_n 1, 1) := by decide +kernel
theorem dX9_seats_2 : decode cX9_seats 2 = .ok (.invokevirtual 91, 3) := by decide +kernel
theorem dX9_seats_5 : decode cX9_seats 5 = .ok (.ifCond .ne 5, 3) := by decide +kernel
theorem dX9_seats_8 : decode cX9_seats 8 = .ok (.iconst 1, 1) := by decide +kernel
theorem dX9_seats_9 : decode cX9_seats 9 = .ok (.ireturn, 1) := by decide +kernel
theorem dX9_seats_10 : decode cX9_seats 10 = .ok (.aload_n 0, 1) := by decide +kernel
theorem dX9_seats_11 : decode cX9_seats 11 = .ok (.iload_n 1, 1) := by decide +kernel
theorem dX9_seats_12 : decode cX9_seats 12 = .ok (.iconst 2, 1) := by decide +kernel
theorem dX9_seats_13 : decode cX9_seats 13 = .ok (.invokevirtual 71, 3) := by decide +kernel
theorem dX9_seats_16 : decode cX9_seats 16 = .ok (.iconst 1, 1) := by decide +kernel
theorem dX9_seats_17 : decode cX9_seats 17 = .ok (.if_icmp .ne 5, 3) := by decide +kernel
theorem dX9_seats_20 : decode cX9_seats 20 = .ok (.iconst 2, 1) := by decide +kernel
theorem dX9_seats_21 : decode cX9_seats 21 = .ok (.ireturn, 1) := by decide +kernel
theorem dX9_seats_22 : decode cX9_seats 22 = .ok (.aload_n 0, 1) := by decide +kernel
theorem dX9_seats_23 : decode cX9_seats 23 = .ok (.iload_n 1, 1) := by decide +kernel
theorem dX9_seats_24 : decode cX9_seats 24 = .ok (.invokevirtual 99, 3) := by decide +kernel
theorem dX9_seats_27 : decode cX9_seats 27 = .ok (.iconst (-1), 1) := by decide +kernel
theorem dX9_seats_28 : decode cX9_seats 28 = .ok (.if_icmp .eq 5, 3) := by decide +kernel
theorem dX9_seats_31 : decode cX9_seats 31 = .ok (.iconst 3, 1) := by decide +kernel
theorem dX9_seats_32 : decode cX9_seats 32 = .ok (.ireturn, 1) := by decide +kernel
theorem dX9_seats_33 : decode cX9_seats 33 = .ok (.aload_n 0, 1) := by decide +kernel
theorem dX9_seats_34 : decode cX9_seats 34 = .ok (.getfield 7, 3) := by decide +kernel
theorem dX9_seats_37 : decode cX9_seats 37 = .ok (.iconst 4, 1) := by decide +kernel
theorem dX9_seats_38 : decode cX9_seats 38 = .ok (.iconst 4, 1) := by decide +kernel
theorem dX9_seats_39 : decode cX9_seats 39 = .ok (.iload_n 1, 1) := by decide +kernel
theorem dX9_seats_40 : decode cX9_seats 40 = .ok (.imul, 1) := by decide +kernel
theorem dX9_seats_41 : decode cX9_seats 41 = .ok (.iadd, 1) := by decide +kernel
theorem dX9_seats_42 : decode cX9_seats 42 = .ok (.iconst 2, 1) := by decide +kernel
theorem dX9_seats_43 : decode cX9_seats 43 = .ok (.iadd, 1) := by decide +kernel
theorem dX9_seats_44 : decode cX9_seats 44 = .ok (.iconst 1, 1) := by decide +kernel
theorem dX9_seats_45 : decode cX9_seats 45 = .ok (.iastore, 1) := by decide +kernel
theorem dX9_seats_46 : decode cX9_seats 46 = .ok (.aload_n 0, 1) := by decide +kernel
theorem dX9_seats_47 : decode cX9_seats 47 = .ok (.aload_n 0, 1) := by decide +kernel
theorem dX9_seats_48 : decode cX9_seats 48 = .ok (.invokevirtual 102, 3) := by decide +kernel
theorem dX9_seats_51 : decode cX9_seats 51 = .ok (.invokevirtual 88, 3) := by decide +kernel
theorem dX9_seats_54 : decode cX9_seats 54 = .ok (.ireturn, 1) := by decide +kernel
theorem dX9_shoos_0 : decode cX9_shoos 0 = .ok (.aload_n 0, 1) := by decide +kernel
theorem dX9_shoos_1 : decode cX9_shoos 1 = .ok (.iload_n 1, 1) := by decide +kernel
theorem dX9_shoos_2 : decode cX9_shoos 2 = .ok (.invokevirtual 91, 3) := by decide +kernel
theorem dX9_shoos_5 : decode cX9_shoos 5 = .ok (.ifCond .ne 5, 3) := by decide +kernel
theorem dX9_shoos_8 : decode cX9_shoos 8 = .ok (.iconst 1, 1) := by decide +kernel
theorem dX9_shoos_9 : decode cX9_shoos 9 = .ok (.ireturn, 1) := by decide +kernel
theorem dX9_shoos_10 : decode cX9_shoos 10 = .ok (.aload_n 0, 1) := by decide +kernel
theorem dX9_shoos_11 : decode cX9_shoos 11 = .ok (.iload_n 1, 1) := by decide +kernel
theorem dX9_shoos_12 : decode cX9_shoos 12 = .ok (.iconst 2, 1) := by decide +kernel
theorem dX9_shoos_13 : decode cX9_shoos 13 = .ok (.invokevirtual 71, 3) := by decide +kernel
theorem dX9_shoos_16 : decode cX9_shoos 16 = .ok (.ifCond .ne 5, 3) := by decide +kernel
theorem dX9_shoos_19 : decode cX9_shoos 19 = .ok (.iconst 2, 1) := by decide +kernel
theorem dX9_shoos_20 : decode cX9_shoos 20 = .ok (.ireturn, 1) := by decide +kernel
theorem dX9_shoos_21 : decode cX9_shoos 21 = .ok (.aload_n 0, 1) := by decide +kernel
theorem dX9_shoos_22 : decode cX9_shoos 22 = .ok (.getfield 7, 3) := by decide +kernel
theorem dX9_shoos_25 : decode cX9_shoos 25 = .ok (.iconst 4, 1) := by decide +kernel
theorem dX9_shoos_26 : decode cX9_shoos 26 = .ok (.iconst 4, 1) := by decide +kernel
theorem dX9_shoos_27 : decode cX9_shoos 27 = .ok (.iload_n 1, 1) := by decide +kernel
theorem dX9_shoos_28 : decode cX9_shoos 28 = .ok (.imul, 1) := by decide +kernel
theorem dX9_shoos_29 : decode cX9_shoos 29 = .ok (.iadd, 1) := by decide +kernel
theorem dX9_shoos_30 : decode cX9_shoos 30 = .ok (.iconst 2, 1) := by decide +kernel
theorem dX9_shoos_31 : decode cX9_shoos 31 = .ok (.iadd, 1) := by decide +kernel
theorem dX9_shoos_32 : decode cX9_shoos 32 = .ok (.iconst 0, 1) := by decide +kernel
theorem dX9_shoos_33 : decode cX9_shoos 33 = .ok (.iastore, 1) := by decide +kernel
theorem dX9_shoos_34 : decode cX9_shoos 34 = .ok (.aload_n 0, 1) := by decide +kernel
theorem dX9_shoos_35 : decode cX9_shoos 35 = .ok (.aload_n 0, 1) := by decide +kernel
theorem dX9_shoos_36 : decode cX9_shoos 36 = .ok (.invokevirtual 102, 3) := by decide +kernel
theorem dX9_shoos_39 : decode cX9_shoos 39 = .ok (.invokevirtual 88, 3) := by decide +kernel
theorem dX9_shoos_42 : decode cX9_shoos 42 = .ok (.ireturn, 1) := by decide +kernel
theorem dX9_starts_0 : decode cX9_starts 0 = .ok (.aload_n 0, 1) := by decide +kernel
theorem dX9_starts_1 : decode cX9_starts 1 = .ok (.iload_n 1, 1) := by decide +kernel
theorem dX9_starts_2 : decode cX9_starts 2 = .ok (.invokevirtual 91, 3) := by decide +kernel
theorem dX9_starts_5 : decode cX9_starts 5 = .ok (.ifCond .ne 5, 3) := by decide +kernel
theorem dX9_starts_8 : decode cX9_starts 8 = .ok (.iconst 1, 1) := by decide +kernel
theorem dX9_starts_9 : decode cX9_starts 9 = .ok (.ireturn, 1) := by decide +kernel
theorem dX9_starts_10 : decode cX9_starts 10 = .ok (.iload_n 2, 1) := by decide +kernel
theorem dX9_starts_11 : decode cX9_starts 11 = .ok (.iconst 1, 1) := by decide +kernel
theorem dX9_starts_12 : decode cX9_starts 12 = .ok (.bipush 9, 2) := by decide +kernel
theorem dX9_starts_14 : decode cX9_starts 14 = .ok (.invokestatic 63, 3) := by decide +kernel
theorem dX9_starts_17 : decode cX9_starts 17 = .ok (.ifCond .ne 5, 3) := by decide +kernel
theorem dX9_starts_20 : decode cX9_starts 20 = .ok (.iconst 2, 1) := by decide +kernel
theorem dX9_starts_21 : decode cX9_starts 21 = .ok (.ireturn, 1) := by decide +kernel
theorem dX9_starts_22 : decode cX9_starts 22 = .ok (.aload_n 0, 1) := by decide +kernel
theorem dX9_starts_23 : decode cX9_starts 23 = .ok (.getfield 7, 3) := by decide +kernel
theorem dX9_starts_26 : decode cX9_starts 26 = .ok (.iconst 1, 1) := by decide +kernel
theorem dX9_starts_27 : decode cX9_starts 27 = .ok (.iaload, 1) := by decide +kernel
theorem dX9_starts_28 : decode cX9_starts 28 = .ok (.istore_n 3, 1) := by decide +kernel
theorem dX9_starts_29 : decode cX9_starts 29 = .ok (.iload_n 3, 1) := by decide +kernel
theorem dX9_starts_30 : decode cX9_starts 30 = .ok (.bipush 6, 2) := by decide +kernel
theorem dX9_starts_32 : decode cX9_starts 32 = .ok (.if_icmp .ne 5, 3) := by decide +kernel
theorem dX9_starts_35 : decode cX9_starts 35 = .ok (.iconst 3, 1) := by decide +kernel
theorem dX9_starts_36 : decode cX9_starts 36 = .ok (.ireturn, 1) := by decide +kernel
theorem dX9_starts_37 : decode cX9_starts 37 = .ok (.aload_n 0, 1) := by decide +kernel
theorem dX9_starts_38 : decode cX9_starts 38 = .ok (.iload_n 1, 1) := by decide +kernel
theorem dX9_starts_39 : decode cX9_starts 39 = .ok (.invokevirtual 99, 3) := by decide +kernel
theorem dX9_starts_42 : decode cX9_starts 42 = .ok (.iconst (-1), 1) := by decide +kernel
theorem dX9_starts_43 : decode cX9_starts 43 = .ok (.if_icmp .ne 22, 3) := by decide +kernel
theorem dX9_starts_46 : decode cX9_starts 46 = .ok (.aload_n 0, 1) := by decide +kernel
theorem dX9_starts_47 : decode cX9_starts 47 = .ok (.iload_n 1, 1) := by decide +kernel
theorem dX9_starts_48 : decode cX9_starts 48 = .ok (.iconst 2, 1) := by decide +kernel
theorem dX9_starts_49 : decode cX9_starts 49 = .ok (.invokevirtual 71, 3) := by decide +kernel
theorem dX9_starts_52 : decode cX9_starts 52 = .ok (.iconst 1, 1) := by decide +kernel
theorem dX9_starts_53 : decode cX9_starts 53 = .ok (.if_icmp .eq 12, 3) := by decide +kernel
theorem dX9_starts_56 : decode cX9_starts 56 = .ok (.aload_n 0, 1) := by decide +kernel
theorem dX9_starts_57 : decode cX9_starts 57 = .ok (.iload_n 1, 1) := by decide +kernel
theorem dX9_starts_58 : decode cX9_starts 58 = .ok (.invokevirtual 78, 3) := by decide +kernel
theorem dX9_starts_61 : decode cX9_starts 61 = .ok (.iconst (-1), 1) := by decide +kernel
theorem dX9_starts_62 : decode cX9_starts 62 = .ok (.if_icmp .eq 5, 3) := by decide +kernel
theorem dX9_starts_65 : decode cX9_starts 65 = .ok (.iconst 4, 1) := by decide +kernel
theorem dX9_starts_66 : decode cX9_starts 66 = .ok (.ireturn, 1) := by decide +kernel
theorem dX9_starts_67 : decode cX9_starts 67 = .ok (.iconst 0, 1) := by decide +kernel
theorem dX9_starts_68 : decode cX9_starts 68 = .ok (.istore 4, 2) := by decide +kernel
theorem dX9_starts_70 : decode cX9_starts 70 = .ok (.iload 4, 2) := by decide +kernel
theorem dX9_starts_72 : decode cX9_starts 72 = .ok (.bipush 7, 2) := by decide +kernel
theorem dX9_starts_74 : decode cX9_starts 74 = .ok (.if_icmp .ge 17, 3) := by decide +kernel
theorem dX9_starts_77 : decode cX9_starts 77 = .ok (.aload_n 0, 1) := by decide +kernel
theorem dX9_starts_78 : decode cX9_starts 78 = .ok (.iload_n 3, 1) := by decide +kernel
theorem dX9_starts_79 : decode cX9_starts 79 = .ok (.iload 4, 2) := by decide +kernel
theorem dX9_starts_81 : decode cX9_starts 81 = .ok (.iconst 0, 1) := by decide +kernel
theorem dX9_starts_82 : decode cX9_starts 82 = .ok (.invokevirtual 105, 3) := by decide +kernel
theorem dX9_starts_85 : decode cX9_starts 85 = .ok (.iinc 4 1, 3) := by decide +kernel
theorem dX9_starts_88 : decode cX9_starts 88 = .ok (.goto (-18), 3) := by decide +kernel
theorem dX9_starts_91 : decode cX9_starts 91 = .ok (.aload_n 0, 1) := by decide +kernel
theorem dX9_starts_92 : decode cX9_starts 92 = .ok (.iload_n 3, 1) := by decide +kernel
theorem dX9_starts_93 : decode cX9_starts 93 = .ok (.iconst 0, 1) := by decide +kernel
theorem dX9_starts_94 : decode cX9_starts 94 = .ok (.iload_n 1, 1) := by decide +kernel
theorem dX9_starts_95 : decode cX9_starts 95 = .ok (.invokevirtual 105, 3) := by decide +kernel
theorem dX9_starts_98 : decode cX9_starts 98 = .ok (.aload_n 0, 1) := by decide +kernel
theorem dX9_starts_99 : decode cX9_starts 99 = .ok (.iload_n 3, 1) := by decide +kernel
theorem dX9_starts_100 : decode cX9_starts 100 = .ok (.iconst 1, 1) := by decide +kernel
theorem dX9_starts_101 : decode cX9_starts 101 = .ok (.iload_n 2, 1) := by decide +kernel
theorem dX9_starts_102 : decode cX9_starts 102 = .ok (.invokevirtual 105, 3) := by decide +kernel
theorem dX9_starts_105 : decode cX9_starts 105 = .ok (.aload_n 0, 1) := by decide +kernel
theorem dX9_starts_106 : decode cX9_starts 106 = .ok (.getfield 7, 3) := by decide +kernel
theorem dX9_starts_109 : decode cX9_starts 109 = .ok (.iconst 1, 1) := by decide +kernel
theorem dX9_starts_110 : decode cX9_starts 110 = .ok (.iload_n 3, 1) := by decide +kernel
theorem dX9_starts_111 : decode cX9_starts 111 = .ok (.iconst 1, 1) := by decide +kernel
theorem dX9_starts_112 : decode cX9_starts 112 = .ok (.iadd, 1) := by decide +kernel
theorem dX9_starts_113 : decode cX9_starts 113 = .ok (.iastore, 1) := by decide +kernel
theorem dX9_starts_114 : decode cX9_starts 114 = .ok (.aload_n 0, 1) := by decide +kernel
theorem dX9_starts_115 : decode cX9_starts 115 = .ok (.iload_n 3, 1) := by decide +kernel
theorem dX9_starts_116 : decode cX9_starts 116 = .ok (.invokevirtual 88, 3) := by decide +kernel
theorem dX9_starts_119 : decode cX9_starts 119 = .ok (.ireturn, 1) := by decide +kernel
theorem dX9_aims_0 : decode cX9_aims 0 = .ok (.aload_n 0, 1) := by decide +kernel
theorem dX9_aims_1 : decode cX9_aims 1 = .ok (.iload_n 1, 1) := by decide +kernel
theorem dX9_aims_2 : decode cX9_aims 2 = .ok (.invokevirtual 109, 3) := by decide +kernel
theorem dX9_aims_5 : decode cX9_aims 5 = .ok (.ifCond .eq 11, 3) := by decide +kernel
theorem dX9_aims_8 : decode cX9_aims 8 = .ok (.aload_n 0, 1) := by decide +kernel
theorem dX9_aims_9 : decode cX9_aims 9 = .ok (.iload_n 2, 1) := by decide +kernel
theorem dX9_aims_10 : decode cX9_aims 10 = .ok (.invokevirtual 91, 3) := by decide +kernel
theorem dX9_aims_13 : decode cX9_aims 13 = .ok (.ifCond .ne 5, 3) := by decide +kernel
theorem dX9_aims_16 : decode cX9_aims 16 = .ok (.iconst 1, 1) := by decide +kernel
theorem dX9_aims_17 : decode cX9_aims 17 = .ok (.ireturn, 1) := by decide +kernel
theorem dX9_aims_18 : decode cX9_aims 18 = .ok (.aload_n 0, 1) := by decide +kernel
theorem dX9_aims_19 : decode cX9_aims 19 = .ok (.iload_n 2, 1) := by decide +kernel
theorem dX9_aims_20 : decode cX9_aims 20 = .ok (.iconst 1, 1) := by decide +kernel
theorem dX9_aims_21 : decode cX9_aims 21 = .ok (.invokevirtual 71, 3) := by decide +kernel
theorem dX9_aims_24 : decode cX9_aims 24 = .ok (.ifCond .ne 5, 3) := by decide +kernel
theorem dX9_aims_27 : decode cX9_aims 27 = .ok (.iconst 2, 1) := by decide +kernel
theorem dX9_aims_28 : decode cX9_aims 28 = .ok (.ireturn, 1) := by decide +kernel
theorem dX9_aims_29 : decode cX9_aims 29 = .ok (.aload_n 0, 1) := by decide +kernel
theorem dX9_aims_30 : decode cX9_aims 30 = .ok (.iload_n 1, 1) := by decide +kernel
theorem dX9_aims_31 : decode cX9_aims 31 = .ok (.iconst 0, 1) := by decide +kernel
theorem dX9_aims_32 : decode cX9_aims 32 = .ok (.invokevirtual 75, 3) := by decide +kernel
theorem dX9_aims_35 : decode cX9_aims 35 = .ok (.iload_n 2, 1) := by decide +kernel
theorem dX9_aims_36 : decode cX9_aims 36 = .ok (.if_icmp .ne 5, 3) := by decide +kernel
theorem dX9_aims_39 : decode cX9_aims 39 = .ok (.iconst 3, 1) := by decide +kernel
theorem dX9_aims_40 : decode cX9_aims 40 = .ok (.ireturn, 1) := by decide +kernel
theorem dX9_aims_41 : decode cX9_aims 41 = .ok (.aload_n 0, 1) := by decide +kernel
theorem dX9_aims_42 : decode cX9_aims 42 = .ok (.iload_n 2, 1) := by decide +kernel
theorem dX9_aims_43 : decode cX9_aims 43 = .ok (.invokevirtual 84, 3) := by decide +kernel
theorem dX9_aims_46 : decode cX9_aims 46 = .ok (.aload_n 0, 1) := by decide +kernel
theorem dX9_aims_47 : decode cX9_aims 47 = .ok (.getfield 34, 3) := by decide +kernel
theorem dX9_aims_50 : decode cX9_aims 50 = .ok (.aload_n 0, 1) := by decide +kernel
theorem dX9_aims_51 : decode cX9_aims 51 = .ok (.iload_n 1, 1) := by decide +kernel
theorem dX9_aims_52 : decode cX9_aims 52 = .ok (.iconst 0, 1) := by decide +kernel
theorem dX9_aims_53 : decode cX9_aims 53 = .ok (.invokevirtual 75, 3) := by decide +kernel
theorem dX9_aims_56 : decode cX9_aims 56 = .ok (.iaload, 1) := by decide +kernel
theorem dX9_aims_57 : decode cX9_aims 57 = .ok (.sipush 9999, 3) := by decide +kernel
theorem dX9_aims_60 : decode cX9_aims 60 = .ok (.if_icmp .lt 5, 3) := by decide +kernel
theorem dX9_aims_63 : decode cX9_aims 63 = .ok (.iconst 4, 1) := by decide +kernel
theorem dX9_aims_64 : decode cX9_aims 64 = .ok (.ireturn, 1) := by decide +kernel
theorem dX9_aims_65 : decode cX9_aims 65 = .ok (.aload_n 0, 1) := by decide +kernel
theorem dX9_aims_66 : decode cX9_aims 66 = .ok (.iload_n 1, 1) := by decide +kernel
theorem dX9_aims_67 : decode cX9_aims 67 = .ok (.iconst 3, 1) := by decide +kernel
theorem dX9_aims_68 : decode cX9_aims 68 = .ok (.iload_n 2, 1) := by decide +kernel
theorem dX9_aims_69 : decode cX9_aims 69 = .ok (.iconst 1, 1) := by decide +kernel
theorem dX9_aims_70 : decode cX9_aims 70 = .ok (.iadd, 1) := by decide +kernel
theorem dX9_aims_71 : decode cX9_aims 71 = .ok (.invokevirtual 105, 3) := by decide +kernel
theorem dX9_aims_74 : decode cX9_aims 74 = .ok (.aload_n 0, 1) := by decide +kernel
theorem dX9_aims_75 : decode cX9_aims 75 = .ok (.aload_n 0, 1) := by decide +kernel
theorem dX9_aims_76 : decode cX9_aims 76 = .ok (.getfield 34, 3) := by decide +kernel
theorem dX9_aims_79 : decode cX9_aims 79 = .ok (.aload_n 0, 1) := by decide +kernel
theorem dX9_aims_80 : decode cX9_aims 80 = .ok (.iload_n 1, 1) := by decide +kernel
theorem dX9_aims_81 : decode cX9_aims 81 = .ok (.iconst 0, 1) := by decide +kernel
theorem dX9_aims_82 : decode cX9_aims 82 = .ok (.invokevirtual 75, 3) := by decide +kernel
theorem dX9_aims_85 : decode cX9_aims 85 = .ok (.iaload, 1) := by decide +kernel
theorem dX9_aims_86 : decode cX9_aims 86 = .ok (.invokevirtual 88, 3) := by decide +kernel
theorem dX9_aims_89 : decode cX9_aims 89 = .ok (.ireturn, 1) := by decide +kernel
theorem dX9_forgets_0 : decode cX9_forgets 0 = .ok (.aload_n 0, 1) := by decide +kernel
theorem dX9_forgets_1 : decode cX9_forgets 1 = .ok (.iload_n 1, 1) := by decide +kernel
theorem dX9_forgets_2 : decode cX9_forgets 2 = .ok (.invokevirtual 109, 3) := by decide +kernel
theorem dX9_forgets_5 : decode cX9_forgets 5 = .ok (.ifCond .ne 5, 3) := by decide +kernel
theorem dX9_forgets_8 : decode cX9_forgets 8 = .ok (.iconst 1, 1) := by decide +kernel
theorem dX9_forgets_9 : decode cX9_forgets 9 = .ok (.ireturn, 1) := by decide +kernel
theorem dX9_forgets_10 : decode cX9_forgets 10 = .ok (.aload_n 0, 1) := by decide +kernel
theorem dX9_forgets_11 : decode cX9_forgets 11 = .ok (.iload_n 1, 1) := by decide +kernel
theorem dX9_forgets_12 : decode cX9_forgets 12 = .ok (.invokevirtual 81, 3) := by decide +kernel
theorem dX9_forgets_15 : decode cX9_forgets 15 = .ok (.istore_n 2, 1) := by decide +kernel
theorem dX9_forgets_16 : decode cX9_forgets 16 = .ok (.iload_n 2, 1) := by decide +kernel
theorem dX9_forgets_17 : decode cX9_forgets 17 = .ok (.iconst (-1), 1) := by decide +kernel
theorem dX9_forgets_18 : decode cX9_forgets 18 = .ok (.if_icmp .ne 5, 3) := by decide +kernel
theorem dX9_forgets_21 : decode cX9_forgets 21 = .ok (.iconst 2, 1) := by decide +kernel
theorem dX9_forgets_22 : decode cX9_forgets 22 = .ok (.ireturn, 1) := by decide +kernel
theorem dX9_forgets_23 : decode cX9_forgets 23 = .ok (.aload_n 0, 1) := by decide +kernel
theorem dX9_forgets_24 : decode cX9_forgets 24 = .ok (.iload_n 1, 1) := by decide +kernel
theorem dX9_forgets_25 : decode cX9_forgets 25 = .ok (.iconst 3, 1) := by decide +kernel
theorem dX9_forgets_26 : decode cX9_forgets 26 = .ok (.iconst 0, 1) := by decide +kernel
theorem dX9_forgets_27 : decode cX9_forgets 27 = .ok (.invokevirtual 105, 3) := by decide +kernel
theorem dX9_forgets_30 : decode cX9_forgets 30 = .ok (.aload_n 0, 1) := by decide +kernel
theorem dX9_forgets_31 : decode cX9_forgets 31 = .ok (.iload_n 2, 1) := by decide +kernel
theorem dX9_forgets_32 : decode cX9_forgets 32 = .ok (.invokevirtual 88, 3) := by decide +kernel
theorem dX9_forgets_35 : decode cX9_forgets 35 = .ok (.ireturn, 1) := by decide +kernel
theorem dX9_holds_0 : decode cX9_holds 0 = .ok (.aload_n 0, 1) := by decide +kernel
theorem dX9_holds_1 : decode cX9_holds 1 = .ok (.iload_n 1, 1) := by decide +kernel
theorem dX9_holds_2 : decode cX9_holds 2 = .ok (.invokevirtual 109, 3) := by decide +kernel
theorem dX9_holds_5 : decode cX9_holds 5 = .ok (.ifCond .eq 11, 3) := by decide +kernel
theorem dX9_holds_8 : decode cX9_holds 8 = .ok (.aload_n 0, 1) := by decide +kernel
theorem dX9_holds_9 : decode cX9_holds 9 = .ok (.iload_n 2, 1) := by decide +kernel
theorem dX9_holds_10 : decode cX9_holds 10 = .ok (.invokevirtual 91, 3) := by decide +kernel
theorem dX9_holds_13 : decode cX9_holds 13 = .ok (.ifCond .ne 5, 3) := by decide +kernel
theorem dX9_holds_16 : decode cX9_holds 16 = .ok (.iconst 1, 1) := by decide +kernel
theorem dX9_holds_17 : decode cX9_holds 17 = .ok (.ireturn, 1) := by decide +kernel
theorem dX9_holds_18 : decode cX9_holds 18 = .ok (.aload_n 0, 1) := by decide +kernel
theorem dX9_holds_19 : decode cX9_holds 19 = .ok (.aload_n 0, 1) := by decide +kernel
theorem dX9_holds_20 : decode cX9_holds 20 = .ok (.iload_n 1, 1) := by decide +kernel
theorem dX9_holds_21 : decode cX9_holds 21 = .ok (.iconst 0, 1) := by decide +kernel
theorem dX9_holds_22 : decode cX9_holds 22 = .ok (.invokevirtual 75, 3) := by decide +kernel
theorem dX9_holds_25 : decode cX9_holds 25 = .ok (.iload_n 2, 1) := by decide +kernel
theorem dX9_holds_26 : decode cX9_holds 26 = .ok (.invokevirtual 67, 3) := by decide +kernel
theorem dX9_holds_29 : decode cX9_holds 29 = .ok (.ifCond .ne 5, 3) := by decide +kernel
theorem dX9_holds_32 : decode cX9_holds 32 = .ok (.iconst 2, 1) := by decide +kernel
theorem dX9_holds_33 : decode cX9_holds 33 = .ok (.ireturn, 1) := by decide +kernel
theorem dX9_holds_34 : decode cX9_holds 34 = .ok (.aload_n 0, 1) := by decide +kernel
theorem dX9_holds_35 : decode cX9_holds 35 = .ok (.iload_n 1, 1) := by decide +kernel
theorem dX9_holds_36 : decode cX9_holds 36 = .ok (.invokevirtual 112, 3) := by decide +kernel
theorem dX9_holds_39 : decode cX9_holds 39 = .ok (.iconst (-1), 1) := by decide +kernel
theorem dX9_holds_40 : decode cX9_holds 40 = .ok (.if_icmp .eq 5, 3) := by decide +kernel
theorem dX9_holds_43 : decode cX9_holds 43 = .ok (.iconst 3, 1) := by decide +kernel
theorem dX9_holds_44 : decode cX9_holds 44 = .ok (.ireturn, 1) := by decide +kernel
theorem dX9_holds_45 : decode cX9_holds 45 = .ok (.aload_n 0, 1) := by decide +kernel
theorem dX9_holds_46 : decode cX9_holds 46 = .ok (.iload_n 2, 1) := by decide +kernel
theorem dX9_holds_47 : decode cX9_holds 47 = .ok (.invokevirtual 99, 3) := by decide +kernel
theorem dX9_holds_50 : decode cX9_holds 50 = .ok (.iconst (-1), 1) := by decide +kernel
theorem dX9_holds_51 : decode cX9_holds 51 = .ok (.if_icmp .ne 12, 3) := by decide +kernel
theorem dX9_holds_54 : decode cX9_holds 54 = .ok (.aload_n 0, 1) := by decide +kernel
theorem dX9_holds_55 : decode cX9_holds 55 = .ok (.iload_n 2, 1) := by decide +kernel
theorem dX9_holds_56 : decode cX9_holds 56 = .ok (.invokevirtual 78, 3) := by decide +kernel
theorem dX9_holds_59 : decode cX9_holds 59 = .ok (.iconst (-1), 1) := by decide +kernel
theorem dX9_holds_60 : decode cX9_holds 60 = .ok (.if_icmp .eq 5, 3) := by decide +kernel
theorem dX9_holds_63 : decode cX9_holds 63 = .ok (.iconst 4, 1) := by decide +kernel
theorem dX9_holds_64 : decode cX9_holds 64 = .ok (.ireturn, 1) := by decide +kernel
theorem dX9_holds_65 : decode cX9_holds 65 = .ok (.aload_n 0, 1) := by decide +kernel
theorem dX9_holds_66 : decode cX9_holds 66 = .ok (.getfield 7, 3) := by decide +kernel
theorem dX9_holds_69 : decode cX9_holds 69 = .ok (.iconst 4, 1) := by decide +kernel
theorem dX9_holds_70 : decode cX9_holds 70 = .ok (.iconst 4, 1) := by decide +kernel
theorem dX9_holds_71 : decode cX9_holds 71 = .ok (.iload_n 2, 1) := by decide +kernel
theorem dX9_holds_72 : decode cX9_holds 72 = .ok (.imul, 1) := by decide +kernel
theorem dX9_holds_73 : decode cX9_holds 73 = .ok (.iadd, 1) := by decide +kernel
theorem dX9_holds_74 : decode cX9_holds 74 = .ok (.iconst 3, 1) := by decide +kernel
theorem dX9_holds_75 : decode cX9_holds 75 = .ok (.iadd, 1) := by decide +kernel
theorem dX9_holds_76 : decode cX9_holds 76 = .ok (.iload_n 1, 1) := by decide +kernel
theorem dX9_holds_77 : decode cX9_holds 77 = .ok (.iconst 1, 1) := by decide +kernel
theorem dX9_holds_78 : decode cX9_holds 78 = .ok (.iadd, 1) := by decide +kernel
theorem dX9_holds_79 : decode cX9_holds 79 = .ok (.iastore, 1) := by decide +kernel
theorem dX9_holds_80 : decode cX9_holds 80 = .ok (.iconst 0, 1) := by decide +kernel
theorem dX9_holds_81 : decode cX9_holds 81 = .ok (.istore_n 3, 1) := by decide +kernel
theorem dX9_holds_82 : decode cX9_holds 82 = .ok (.iconst 0, 1) := by decide +kernel
theorem dX9_holds_83 : decode cX9_holds 83 = .ok (.istore 4, 2) := by decide +kernel
theorem dX9_holds_85 : decode cX9_holds 85 = .ok (.iload 4, 2) := by decide +kernel
theorem dX9_holds_87 : decode cX9_holds 87 = .ok (.aload_n 0, 1) := by decide +kernel
theorem dX9_holds_88 : decode cX9_holds 88 = .ok (.getfield 7, 3) := by decide +kernel
theorem dX9_holds_91 : decode cX9_holds 91 = .ok (.iconst 0, 1) := by decide +kernel
theorem dX9_holds_92 : decode cX9_holds 92 = .ok (.iaload, 1) := by decide +kernel
theorem dX9_holds_93 : decode cX9_holds 93 = .ok (.if_icmp .ge 27, 3) := by decide +kernel
theorem dX9_holds_96 : decode cX9_holds 96 = .ok (.iload_n 3, 1) := by decide +kernel
theorem dX9_holds_97 : decode cX9_holds 97 = .ok (.aload_n 0, 1) := by decide +kernel
theorem dX9_holds_98 : decode cX9_holds 98 = .ok (.iload 4, 2) := by decide +kernel
theorem dX9_holds_100 : decode cX9_holds 100 = .ok (.invokevirtual 78, 3) := by decide +kernel
theorem dX9_holds_103 : decode cX9_holds 103 = .ok (.iconst (-1), 1) := by decide +kernel
theorem dX9_holds_104 : decode cX9_holds 104 = .ok (.if_icmp .ne 7, 3) := by decide +kernel
theorem dX9_holds_107 : decode cX9_holds 107 = .ok (.iconst 0, 1) := by decide +kernel
theorem dX9_holds_108 : decode cX9_holds 108 = .ok (.goto 4, 3) := by decide +kernel
theorem dX9_holds_111 : decode cX9_holds 111 = .ok (.iconst 1, 1) := by decide +kernel
theorem dX9_holds_112 : decode cX9_holds 112 = .ok (.iadd, 1) := by decide +kernel
theorem dX9_holds_113 : decode cX9_holds 113 = .ok (.istore_n 3, 1) := by decide +kernel
theorem dX9_holds_114 : decode cX9_holds 114 = .ok (.iinc 4 1, 3) := by decide +kernel
theorem dX9_holds_117 : decode cX9_holds 117 = .ok (.goto (-32), 3) := by decide +kernel
theorem dX9_holds_120 : decode cX9_holds 120 = .ok (.aload_n 0, 1) := by decide +kernel
theorem dX9_holds_121 : decode cX9_holds 121 = .ok (.iload_n 3, 1) := by decide +kernel
theorem dX9_holds_122 : decode cX9_holds 122 = .ok (.invokevirtual 88, 3) := by decide +kernel
theorem dX9_holds_125 : decode cX9_holds 125 = .ok (.ireturn, 1) := by decide +kernel
theorem dX9_frees_0 : decode cX9_frees 0 = .ok (.aload_n 0, 1) := by decide +kernel
theorem dX9_frees_1 : decode cX9_frees 1 = .ok (.iload_n 1, 1) := by decide +kernel
theorem dX9_frees_2 : decode cX9_frees 2 = .ok (.invokevirtual 109, 3) := by decide +kernel
theorem dX9_frees_5 : decode cX9_frees 5 = .ok (.ifCond .ne 5, 3) := by decide +kernel
theorem dX9_frees_8 : decode cX9_frees 8 = .ok (.iconst 1, 1) := by decide +kernel
theorem dX9_frees_9 : decode cX9_frees 9 = .ok (.ireturn, 1) := by decide +kernel
theorem dX9_frees_10 : decode cX9_frees 10 = .ok (.aload_n 0, 1) := by decide +kernel
theorem dX9_frees_11 : decode cX9_frees 11 = .ok (.iload_n 1, 1) := by decide +kernel
theorem dX9_frees_12 : decode cX9_frees 12 = .ok (.invokevirtual 112, 3) := by decide +kernel
theorem dX9_frees_15 : decode cX9_frees 15 = .ok (.istore_n 2, 1) := by decide +kernel
theorem dX9_frees_16 : decode cX9_frees 16 = .ok (.iload_n 2, 1) := by decide +kernel
theorem dX9_frees_17 : decode cX9_frees 17 = .ok (.iconst (-1), 1) := by decide +kernel
theorem dX9_frees_18 : decode cX9_frees 18 = .ok (.if_icmp .ne 5, 3) := by decide +kernel
theorem dX9_frees_21 : decode cX9_frees 21 = .ok (.iconst 2, 1) := by decide +kernel
theorem dX9_frees_22 : decode cX9_frees 22 = .ok (.ireturn, 1) := by decide +kernel
theorem dX9_frees_23 : decode cX9_frees 23 = .ok (.aload_n 0, 1) := by decide +kernel
theorem dX9_frees_24 : decode cX9_frees 24 = .ok (.getfield 7, 3) := by decide +kernel
theorem dX9_frees_27 : decode cX9_frees 27 = .ok (.iconst 4, 1) := by decide +kernel
theorem dX9_frees_28 : decode cX9_frees 28 = .ok (.iconst 4, 1) := by decide +kernel
theorem dX9_frees_29 : decode cX9_frees 29 = .ok (.iload_n 2, 1) := by decide +kernel
theorem dX9_frees_30 : decode cX9_frees 30 = .ok (.imul, 1) := by decide +kernel
theorem dX9_frees_31 : decode cX9_frees 31 = .ok (.iadd, 1) := by decide +kernel
theorem dX9_frees_32 : decode cX9_frees 32 = .ok (.iconst 3, 1) := by decide +kernel
theorem dX9_frees_33 : decode cX9_frees 33 = .ok (.iadd, 1) := by decide +kernel
theorem dX9_frees_34 : decode cX9_frees 34 = .ok (.iconst 0, 1) := by decide +kernel
theorem dX9_frees_35 : decode cX9_frees 35 = .ok (.iastore, 1) := by decide +kernel
theorem dX9_frees_36 : decode cX9_frees 36 = .ok (.aload_n 0, 1) := by decide +kernel
theorem dX9_frees_37 : decode cX9_frees 37 = .ok (.iload_n 2, 1) := by decide +kernel
theorem dX9_frees_38 : decode cX9_frees 38 = .ok (.invokevirtual 88, 3) := by decide +kernel
theorem dX9_frees_41 : decode cX9_frees 41 = .ok (.ireturn, 1) := by decide +kernel
theorem dX9_rescues_0 : decode cX9_rescues 0 = .ok (.aload_n 0, 1) := by decide +kernel
theorem dX9_rescues_1 : decode cX9_rescues 1 = .ok (.iload_n 1, 1) := by decide +kernel
theorem dX9_rescues_2 : decode cX9_rescues 2 = .ok (.invokevirtual 109, 3) := by decide +kernel
theorem dX9_rescues_5 : decode cX9_rescues 5 = .ok (.ifCond .ne 5, 3) := by decide +kernel
theorem dX9_rescues_8 : decode cX9_rescues 8 = .ok (.iconst 1, 1) := by decide +kernel
theorem dX9_rescues_9 : decode cX9_rescues 9 = .ok (.ireturn, 1) := by decide +kernel
theorem dX9_rescues_10 : decode cX9_rescues 10 = .ok (.aload_n 0, 1) := by decide +kernel
theorem dX9_rescues_11 : decode cX9_rescues 11 = .ok (.iload_n 1, 1) := by decide +kernel
theorem dX9_rescues_12 : decode cX9_rescues 12 = .ok (.iconst 4, 1) := by decide +kernel
theorem dX9_rescues_13 : decode cX9_rescues 13 = .ok (.invokevirtual 75, 3) := by decide +kernel
theorem dX9_rescues_16 : decode cX9_rescues 16 = .ok (.ifCond .ne 5, 3) := by decide +kernel
theorem dX9_rescues_19 : decode cX9_rescues 19 = .ok (.iconst 2, 1) := by decide +kernel
theorem dX9_rescues_20 : decode cX9_rescues 20 = .ok (.ireturn, 1) := by decide +kernel
theorem dX9_rescues_21 : decode cX9_rescues 21 = .ok (.aload_n 0, 1) := by decide +kernel
theorem dX9_rescues_22 : decode cX9_rescues 22 = .ok (.iload_n 1, 1) := by decide +kernel
theorem dX9_rescues_23 : decode cX9_rescues 23 = .ok (.iconst 4, 1) := by decide +kernel
theorem dX9_rescues_24 : decode cX9_rescues 24 = .ok (.iconst 0, 1) := by decide +kernel
theorem dX9_rescues_25 : decode cX9_rescues 25 = .ok (.invokevirtual 105, 3) := by decide +kernel
theorem dX9_rescues_28 : decode cX9_rescues 28 = .ok (.iconst 0, 1) := by decide +kernel
theorem dX9_rescues_29 : decode cX9_rescues 29 = .ok (.istore_n 2, 1) := by decide +kernel
theorem dX9_rescues_30 : decode cX9_rescues 30 = .ok (.iconst 0, 1) := by decide +kernel
theorem dX9_rescues_31 : decode cX9_rescues 31 = .ok (.istore_n 3, 1) := by decide +kernel
theorem dX9_rescues_32 : decode cX9_rescues 32 = .ok (.iload_n 3, 1) := by decide +kernel
theorem dX9_rescues_33 : decode cX9_rescues 33 = .ok (.aload_n 0, 1) := by decide +kernel
theorem dX9_rescues_34 : decode cX9_rescues 34 = .ok (.getfield 7, 3) := by decide +kernel
theorem dX9_rescues_37 : decode cX9_rescues 37 = .ok (.iconst 1, 1) := by decide +kernel
theorem dX9_rescues_38 : decode cX9_rescues 38 = .ok (.iaload, 1) := by decide +kernel
theorem dX9_rescues_39 : decode cX9_rescues 39 = .ok (.if_icmp .ge 18, 3) := by decide +kernel
theorem dX9_rescues_42 : decode cX9_rescues 42 = .ok (.iload_n 2, 1) := by decide +kernel
theorem dX9_rescues_43 : decode cX9_rescues 43 = .ok (.aload_n 0, 1) := by decide +kernel
theorem dX9_rescues_44 : decode cX9_rescues 44 = .ok (.iload_n 3, 1) := by decide +kernel
theorem dX9_rescues_45 : decode cX9_rescues 45 = .ok (.iconst 4, 1) := by decide +kernel
theorem dX9_rescues_46 : decode cX9_rescues 46 = .ok (.invokevirtual 75, 3) := by decide +kernel
theorem dX9_rescues_49 : decode cX9_rescues 49 = .ok (.iadd, 1) := by decide +kernel
theorem dX9_rescues_50 : decode cX9_rescues 50 = .ok (.istore_n 2, 1) := by decide +kernel
theorem dX9_rescues_51 : decode cX9_rescues 51 = .ok (.iinc 3 1, 3) := by decide +kernel
theorem dX9_rescues_54 : decode cX9_rescues 54 = .ok (.goto (-22), 3) := by decide +kernel
theorem dX9_rescues_57 : decode cX9_rescues 57 = .ok (.aload_n 0, 1) := by decide +kernel
theorem dX9_rescues_58 : decode cX9_rescues 58 = .ok (.iload_n 2, 1) := by decide +kernel
theorem dX9_rescues_59 : decode cX9_rescues 59 = .ok (.invokevirtual 88, 3) := by decide +kernel
theorem dX9_rescues_62 : decode cX9_rescues 62 = .ok (.ireturn, 1) := by decide +kernel
theorem dX9_ranked_0 : decode cX9_ranked 0 = .ok (.iconst 0, 1) := by decide +kernel
theorem dX9_ranked_1 : decode cX9_ranked 1 = .ok (.istore_n 2, 1) := by decide +kernel
theorem dX9_ranked_2 : decode cX9_ranked 2 = .ok (.iload_n 2, 1) := by decide +kernel
theorem dX9_ranked_3 : decode cX9_ranked 3 = .ok (.aload_n 0, 1) := by decide +kernel
theorem dX9_ranked_4 : decode cX9_ranked 4 = .ok (.getfield 7, 3) := by decide +kernel
theorem dX9_ranked_7 : decode cX9_ranked 7 = .ok (.iconst 1, 1) := by decide +kernel
theorem dX9_ranked_8 : decode cX9_ranked 8 = .ok (.iaload, 1) := by decide +kernel
theorem dX9_ranked_9 : decode cX9_ranked 9 = .ok (.if_icmp .ge 84, 3) := by decide +kernel
theorem dX9_ranked_12 : decode cX9_ranked 12 = .ok (.iconst 0, 1) := by decide +kernel
theorem dX9_ranked_13 : decode cX9_ranked 13 = .ok (.istore_n 3, 1) := by decide +kernel
theorem dX9_ranked_14 : decode cX9_ranked 14 = .ok (.iconst 0, 1) := by decide +kernel
theorem dX9_ranked_15 : decode cX9_ranked 15 = .ok (.istore 4, 2) := by decide +kernel
theorem dX9_ranked_17 : decode cX9_ranked 17 = .ok (.iload 4, 2) := by decide +kernel
theorem dX9_ranked_19 : decode cX9_ranked 19 = .ok (.aload_n 0, 1) := by decide +kernel
theorem dX9_ranked_20 : decode cX9_ranked 20 = .ok (.getfield 7, 3) := by decide +kernel
theorem dX9_ranked_23 : decode cX9_ranked 23 = .ok (.iconst 1, 1) := by decide +kernel
theorem dX9_ranked_24 : decode cX9_ranked 24 = .ok (.iaload, 1) := by decide +kernel
theorem dX9_ranked_25 : decode cX9_ranked 25 = .ok (.if_icmp .ge 55, 3) := by decide +kernel
theorem dX9_ranked_28 : decode cX9_ranked 28 = .ok (.iload_n 3, 1) := by decide +kernel
theorem dX9_ranked_29 : decode cX9_ranked 29 = .ok (.aload_n 0, 1) := by decide +kernel
theorem dX9_ranked_30 : decode cX9_ranked 30 = .ok (.iload 4, 2) := by decide +kernel
theorem dX9_ranked_32 : decode cX9_ranked 32 = .ok (.iconst 1, 1) := by decide +kernel
theorem dX9_ranked_33 : decode cX9_ranked 33 = .ok (.invokevirtual 75, 3) := by decide +kernel
theorem dX9_ranked_36 : decode cX9_ranked 36 = .ok (.aload_n 0, 1) := by decide +kernel
theorem dX9_ranked_37 : decode cX9_ranked 37 = .ok (.iload_n 2, 1) := by decide +kernel
theorem dX9_ranked_38 : decode cX9_ranked 38 = .ok (.iconst 1, 1) := by decide +kernel
theorem dX9_ranked_39 : decode cX9_ranked 39 = .ok (.invokevirtual 75, 3) := by decide +kernel
theorem dX9_ranked_42 : decode cX9_ranked 42 = .ok (.if_icmp .gt 25, 3) := by decide +kernel
theorem dX9_ranked_45 : decode cX9_ranked 45 = .ok (.aload_n 0, 1) := by decide +kernel
theorem dX9_ranked_46 : decode cX9_ranked 46 = .ok (.iload 4, 2) := by decide +kernel
theorem dX9_ranked_48 : decode cX9_ranked 48 = .ok (.iconst 1, 1) := by decide +kernel
theorem dX9_ranked_49 : decode cX9_ranked 49 = .ok (.invokevirtual 75, 3) := by decide +kernel
theorem dX9_ranked_52 : decode cX9_ranked 52 = .ok (.aload_n 0, 1) := by decide +kernel
theorem dX9_ranked_53 : decode cX9_ranked 53 = .ok (.iload_n 2, 1) := by decide +kernel
theorem dX9_ranked_54 : decode cX9_ranked 54 = .ok (.iconst 1, 1) := by decide +kernel
theorem dX9_ranked_55 : decode cX9_ranked 55 = .ok (.invokevirtual 75, 3) := by decide +kernel
theorem dX9_ranked_58 : decode cX9_ranked 58 = .ok (.if_icmp .ne 13, 3) := by decide +kernel
theorem dX9_ranked_61 : decode cX9_ranked 61 = .ok (.iload 4, 2) := by decide +kernel
theorem dX9_ranked_63 : decode cX9_ranked 63 = .ok (.iload_n 2, 1) := by decide +kernel
theorem dX9_ranked_64 : decode cX9_ranked 64 = .ok (.if_icmp .ge 7, 3) := by decide +kernel
theorem dX9_ranked_67 : decode cX9_ranked 67 = .ok (.iconst 1, 1) := by decide +kernel
theorem dX9_ranked_68 : decode cX9_ranked 68 = .ok (.goto 4, 3) := by decide +kernel
theorem dX9_ranked_71 : decode cX9_ranked 71 = .ok (.iconst 0, 1) := by decide +kernel
theorem dX9_ranked_72 : decode cX9_ranked 72 = .ok (.iadd, 1) := by decide +kernel
theorem dX9_ranked_73 : decode cX9_ranked 73 = .ok (.istore_n 3, 1) := by decide +kernel
theorem dX9_ranked_74 : decode cX9_ranked 74 = .ok (.iinc 4 1, 3) := by decide +kernel
theorem dX9_ranked_77 : decode cX9_ranked 77 = .ok (.goto (-60), 3) := by decide +kernel
theorem dX9_ranked_80 : decode cX9_ranked 80 = .ok (.iload_n 3, 1) := by decide +kernel
theorem dX9_ranked_81 : decode cX9_ranked 81 = .ok (.iload_n 1, 1) := by decide +kernel
theorem dX9_ranked_82 : decode cX9_ranked 82 = .ok (.if_icmp .ne 5, 3) := by decide +kernel
theorem dX9_ranked_85 : decode cX9_ranked 85 = .ok (.iload_n 2, 1) := by decide +kernel
theorem dX9_ranked_86 : decode cX9_ranked 86 = .ok (.ireturn, 1) := by decide +kernel
theorem dX9_ranked_87 : decode cX9_ranked 87 = .ok (.iinc 2 1, 3) := by decide +kernel
theorem dX9_ranked_90 : decode cX9_ranked 90 = .ok (.goto (-88), 3) := by decide +kernel
theorem dX9_ranked_93 : decode cX9_ranked 93 = .ok (.iconst (-1), 1) := by decide +kernel
theorem dX9_ranked_94 : decode cX9_ranked 94 = .ok (.ireturn, 1) := by decide +kernel
theorem dX9_acts_0 : decode cX9_acts 0 = .ok (.aload_n 0, 1) := by decide +kernel
theorem dX9_acts_1 : decode cX9_acts 1 = .ok (.iload_n 1, 1) := by decide +kernel
theorem dX9_acts_2 : decode cX9_acts 2 = .ok (.iconst 4, 1) := by decide +kernel
theorem dX9_acts_3 : decode cX9_acts 3 = .ok (.invokevirtual 75, 3) := by decide +kernel
theorem dX9_acts_6 : decode cX9_acts 6 = .ok (.iconst 1, 1) := by decide +kernel
theorem dX9_acts_7 : decode cX9_acts 7 = .ok (.if_icmp .ne 5, 3) := by decide +kernel
theorem dX9_acts_10 : decode cX9_acts 10 = .ok (.iconst 0, 1) := by decide +kernel
theorem dX9_acts_11 : decode cX9_acts 11 = .ok (.ireturn, 1) := by decide +kernel
theorem dX9_acts_12 : decode cX9_acts 12 = .ok (.aload_n 0, 1) := by decide +kernel
theorem dX9_acts_13 : decode cX9_acts 13 = .ok (.iload_n 1, 1) := by decide +kernel
theorem dX9_acts_14 : decode cX9_acts 14 = .ok (.iconst 2, 1) := by decide +kernel
theorem dX9_acts_15 : decode cX9_acts 15 = .ok (.invokevirtual 75, 3) := by decide +kernel
theorem dX9_acts_18 : decode cX9_acts 18 = .ok (.ifCond .le 19, 3) := by decide +kernel
theorem dX9_acts_21 : decode cX9_acts 21 = .ok (.aload_n 0, 1) := by decide +kernel
theorem dX9_acts_22 : decode cX9_acts 22 = .ok (.iload_n 1, 1) := by decide +kernel
theorem dX9_acts_23 : decode cX9_acts 23 = .ok (.iconst 2, 1) := by decide +kernel
theorem dX9_acts_24 : decode cX9_acts 24 = .ok (.aload_n 0, 1) := by decide +kernel
theorem dX9_acts_25 : decode cX9_acts 25 = .ok (.iload_n 1, 1) := by decide +kernel
theorem dX9_acts_26 : decode cX9_acts 26 = .ok (.iconst 2, 1) := by decide +kernel
theorem dX9_acts_27 : decode cX9_acts 27 = .ok (.invokevirtual 75, 3) := by decide +kernel
theorem dX9_acts_30 : decode cX9_acts 30 = .ok (.iconst 1, 1) := by decide +kernel
theorem dX9_acts_31 : decode cX9_acts 31 = .ok (.isub, 1) := by decide +kernel
theorem dX9_acts_32 : decode cX9_acts 32 = .ok (.invokevirtual 105, 3) := by decide +kernel
theorem dX9_acts_35 : decode cX9_acts 35 = .ok (.iconst 0, 1) := by decide +kernel
theorem dX9_acts_36 : decode cX9_acts 36 = .ok (.ireturn, 1) := by decide +kernel
theorem dX9_acts_37 : decode cX9_acts 37 = .ok (.aload_n 0, 1) := by decide +kernel
theorem dX9_acts_38 : decode cX9_acts 38 = .ok (.iload_n 1, 1) := by decide +kernel
theorem dX9_acts_39 : decode cX9_acts 39 = .ok (.invokevirtual 115, 3) := by decide +kernel
theorem dX9_acts_42 : decode cX9_acts 42 = .ok (.istore_n 2, 1) := by decide +kernel
theorem dX9_acts_43 : decode cX9_acts 43 = .ok (.iload_n 2, 1) := by decide +kernel
theorem dX9_acts_44 : decode cX9_acts 44 = .ok (.iconst (-1), 1) := by decide +kernel
theorem dX9_acts_45 : decode cX9_acts 45 = .ok (.if_icmp .ne 5, 3) := by decide +kernel
theorem dX9_acts_48 : decode cX9_acts 48 = .ok (.iconst 0, 1) := by decide +kernel
theorem dX9_acts_49 : decode cX9_acts 49 = .ok (.ireturn, 1) := by decide +kernel
theorem dX9_acts_50 : decode cX9_acts 50 = .ok (.aload_n 0, 1) := by decide +kernel
theorem dX9_acts_51 : decode cX9_acts 51 = .ok (.iload_n 2, 1) := by decide +kernel
theorem dX9_acts_52 : decode cX9_acts 52 = .ok (.invokevirtual 99, 3) := by decide +kernel
theorem dX9_acts_55 : decode cX9_acts 55 = .ok (.iconst (-1), 1) := by decide +kernel
theorem dX9_acts_56 : decode cX9_acts 56 = .ok (.if_icmp .ne 21, 3) := by decide +kernel
theorem dX9_acts_59 : decode cX9_acts 59 = .ok (.aload_n 0, 1) := by decide +kernel
theorem dX9_acts_60 : decode cX9_acts 60 = .ok (.iload_n 2, 1) := by decide +kernel
theorem dX9_acts_61 : decode cX9_acts 61 = .ok (.invokevirtual 78, 3) := by decide +kernel
theorem dX9_acts_64 : decode cX9_acts 64 = .ok (.iconst (-1), 1) := by decide +kernel
theorem dX9_acts_65 : decode cX9_acts 65 = .ok (.if_icmp .eq 28, 3) := by decide +kernel
theorem dX9_acts_68 : decode cX9_acts 68 = .ok (.aload_n 0, 1) := by decide +kernel
theorem dX9_acts_69 : decode cX9_acts 69 = .ok (.iload_n 2, 1) := by decide +kernel
theorem dX9_acts_70 : decode cX9_acts 70 = .ok (.invokevirtual 78, 3) := by decide +kernel
theorem dX9_acts_73 : decode cX9_acts 73 = .ok (.iload_n 1, 1) := by decide +kernel
theorem dX9_acts_74 : decode cX9_acts 74 = .ok (.if_icmp .eq 19, 3) := by decide +kernel
theorem dX9_acts_77 : decode cX9_acts 77 = .ok (.aload_n 0, 1) := by decide +kernel
theorem dX9_acts_78 : decode cX9_acts 78 = .ok (.iload_n 1, 1) := by decide +kernel
theorem dX9_acts_79 : decode cX9_acts 79 = .ok (.iconst 5, 1) := by decide +kernel
theorem dX9_acts_80 : decode cX9_acts 80 = .ok (.aload_n 0, 1) := by decide +kernel
theorem dX9_acts_81 : decode cX9_acts 81 = .ok (.iload_n 1, 1) := by decide +kernel
theorem dX9_acts_82 : decode cX9_acts 82 = .ok (.iconst 5, 1) := by decide +kernel
theorem dX9_acts_83 : decode cX9_acts 83 = .ok (.invokevirtual 75, 3) := by decide +kernel
theorem dX9_acts_86 : decode cX9_acts 86 = .ok (.iconst 1, 1) := by decide +kernel
theorem dX9_acts_87 : decode cX9_acts 87 = .ok (.iadd, 1) := by decide +kernel
theorem dX9_acts_88 : decode cX9_acts 88 = .ok (.invokevirtual 105, 3) := by decide +kernel
theorem dX9_acts_91 : decode cX9_acts 91 = .ok (.iconst 0, 1) := by decide +kernel
theorem dX9_acts_92 : decode cX9_acts 92 = .ok (.ireturn, 1) := by decide +kernel
theorem dX9_acts_93 : decode cX9_acts 93 = .ok (.aload_n 0, 1) := by decide +kernel
theorem dX9_acts_94 : decode cX9_acts 94 = .ok (.iload_n 1, 1) := by decide +kernel
theorem dX9_acts_95 : decode cX9_acts 95 = .ok (.invokevirtual 112, 3) := by decide +kernel
theorem dX9_acts_98 : decode cX9_acts 98 = .ok (.istore_n 3, 1) := by decide +kernel
theorem dX9_acts_99 : decode cX9_acts 99 = .ok (.iload_n 3, 1) := by decide +kernel
theorem dX9_acts_100 : decode cX9_acts 100 = .ok (.iconst (-1), 1) := by decide +kernel
theorem dX9_acts_101 : decode cX9_acts 101 = .ok (.if_icmp .eq 16, 3) := by decide +kernel
theorem dX9_acts_104 : decode cX9_acts 104 = .ok (.aload_n 0, 1) := by decide +kernel
theorem dX9_acts_105 : decode cX9_acts 105 = .ok (.getfield 7, 3) := by decide +kernel
theorem dX9_acts_108 : decode cX9_acts 108 = .ok (.iconst 4, 1) := by decide +kernel
theorem dX9_acts_109 : decode cX9_acts 109 = .ok (.iconst 4, 1) := by decide +kernel
theorem dX9_acts_110 : decode cX9_acts 110 = .ok (.iload_n 3, 1) := by decide +kernel
theorem dX9_acts_111 : decode cX9_acts 111 = .ok (.imul, 1) := by decide +kernel
theorem dX9_acts_112 : decode cX9_acts 112 = .ok (.iadd, 1) := by decide +kernel
theorem dX9_acts_113 : decode cX9_acts 113 = .ok (.iconst 3, 1) := by decide +kernel
theorem dX9_acts_114 : decode cX9_acts 114 = .ok (.iadd, 1) := by decide +kernel
theorem dX9_acts_115 : decode cX9_acts 115 = .ok (.iconst 0, 1) := by decide +kernel
theorem dX9_acts_116 : decode cX9_acts 116 = .ok (.iastore, 1) := by decide +kernel
theorem dX9_acts_117 : decode cX9_acts 117 = .ok (.aload_n 0, 1) := by decide +kernel
theorem dX9_acts_118 : decode cX9_acts 118 = .ok (.iload_n 1, 1) := by decide +kernel
theorem dX9_acts_119 : decode cX9_acts 119 = .ok (.iconst 0, 1) := by decide +kernel
theorem dX9_acts_120 : decode cX9_acts 120 = .ok (.iload_n 2, 1) := by decide +kernel
theorem dX9_acts_121 : decode cX9_acts 121 = .ok (.invokevirtual 105, 3) := by decide +kernel
theorem dX9_acts_124 : decode cX9_acts 124 = .ok (.aload_n 0, 1) := by decide +kernel
theorem dX9_acts_125 : decode cX9_acts 125 = .ok (.iload_n 1, 1) := by decide +kernel
theorem dX9_acts_126 : decode cX9_acts 126 = .ok (.iconst 2, 1) := by decide +kernel
theorem dX9_acts_127 : decode cX9_acts 127 = .ok (.aload_n 0, 1) := by decide +kernel
theorem dX9_acts_128 : decode cX9_acts 128 = .ok (.iload_n 2, 1) := by decide +kernel
theorem dX9_acts_129 : decode cX9_acts 129 = .ok (.iconst 0, 1) := by decide +kernel
theorem dX9_acts_130 : decode cX9_acts 130 = .ok (.invokevirtual 71, 3) := by decide +kernel
theorem dX9_acts_133 : decode cX9_acts 133 = .ok (.invokevirtual 105, 3) := by decide +kernel
theorem dX9_acts_136 : decode cX9_acts 136 = .ok (.aload_n 0, 1) := by decide +kernel
theorem dX9_acts_137 : decode cX9_acts 137 = .ok (.iload_n 2, 1) := by decide +kernel
theorem dX9_acts_138 : decode cX9_acts 138 = .ok (.iconst 2, 1) := by decide +kernel
theorem dX9_acts_139 : decode cX9_acts 139 = .ok (.invokevirtual 71, 3) := by decide +kernel
theorem dX9_acts_142 : decode cX9_acts 142 = .ok (.iconst 1, 1) := by decide +kernel
theorem dX9_acts_143 : decode cX9_acts 143 = .ok (.if_icmp .ne 23, 3) := by decide +kernel
theorem dX9_acts_146 : decode cX9_acts 146 = .ok (.aload_n 0, 1) := by decide +kernel
theorem dX9_acts_147 : decode cX9_acts 147 = .ok (.iload_n 1, 1) := by decide +kernel
theorem dX9_acts_148 : decode cX9_acts 148 = .ok (.iconst 4, 1) := by decide +kernel
theorem dX9_acts_149 : decode cX9_acts 149 = .ok (.iconst 1, 1) := by decide +kernel
theorem dX9_acts_150 : decode cX9_acts 150 = .ok (.invokevirtual 105, 3) := by decide +kernel
theorem dX9_acts_153 : decode cX9_acts 153 = .ok (.aload_n 0, 1) := by decide +kernel
theorem dX9_acts_154 : decode cX9_acts 154 = .ok (.getfield 7, 3) := by decide +kernel
theorem dX9_acts_157 : decode cX9_acts 157 = .ok (.iconst 4, 1) := by decide +kernel
theorem dX9_acts_158 : decode cX9_acts 158 = .ok (.iconst 4, 1) := by decide +kernel
theorem dX9_acts_159 : decode cX9_acts 159 = .ok (.iload_n 2, 1) := by decide +kernel
theorem dX9_acts_160 : decode cX9_acts 160 = .ok (.imul, 1) := by decide +kernel
theorem dX9_acts_161 : decode cX9_acts 161 = .ok (.iadd, 1) := by decide +kernel
theorem dX9_acts_162 : decode cX9_acts 162 = .ok (.iconst 2, 1) := by decide +kernel
theorem dX9_acts_163 : decode cX9_acts 163 = .ok (.iadd, 1) := by decide +kernel
