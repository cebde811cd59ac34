theorem dX9_does_127 : decode cX9_does 127 = .ok (.aload_n 0, 1) := by decide +kernel
theorem dX9_does_128 : decode cX9_does 128 = .ok (.iload_n 2, 1) := by decide +kernel
theorem dX9_does_129 : decode cX9_does 129 = .ok (.iconst 1, 1) := by decide +kernel
theorem dX9_does_130 : decode cX9_does 130 = .ok (.invokevirtual 130, 3) := by decide +kernel
theorem dX9_does_133 : decode cX9_does 133 = .ok (.ireturn, 1) := by decide +kernel
theorem dX9_does_134 : decode cX9_does 134 = .ok (.aload_n 0, 1) := by decide +kernel
theorem dX9_does_135 : decode cX9_does 135 = .ok (.iload_n 2, 1) := by decide +kernel
theorem dX9_does_136 : decode cX9_does 136 = .ok (.invokevirtual 142, 3) := by decide +kernel
theorem dX9_does_139 : decode cX9_does 139 = .ok (.ireturn, 1) := by decide +kernel
theorem dX9_does_140 : decode cX9_does 140 = .ok (.aload_n 0, 1) := by decide +kernel
theorem dX9_does_141 : decode cX9_does 141 = .ok (.iload_n 2, 1) := by decide +kernel
theorem dX9_does_142 : decode cX9_does 142 = .ok (.iload_n 3, 1) := by decide +kernel
theorem dX9_does_143 : decode cX9_does 143 = .ok (.invokevirtual 136, 3) := by decide +kernel
theorem dX9_does_146 : decode cX9_does 146 = .ok (.ireturn, 1) := by decide +kernel
theorem dX9_does_147 : decode cX9_does 147 = .ok (.aload_n 0, 1) := by decide +kernel
theorem dX9_does_148 : decode cX9_does 148 = .ok (.iload_n 2, 1) := by decide +kernel
theorem dX9_does_149 : decode cX9_does 149 = .ok (.invokevirtual 187, 3) := by decide +kernel
theorem dX9_does_152 : decode cX9_does 152 = .ok (.ireturn, 1) := by decide +kernel
theorem dX9_does_153 : decode cX9_does 153 = .ok (.aload_n 0, 1) := by decide +kernel
theorem dX9_does_154 : decode cX9_does 154 = .ok (.iload_n 2, 1) := by decide +kernel
theorem dX9_does_155 : decode cX9_does 155 = .ok (.iload_n 3, 1) := by decide +kernel
theorem dX9_does_156 : decode cX9_does 156 = .ok (.invokevirtual 160, 3) := by decide +kernel
theorem dX9_does_159 : decode cX9_does 159 = .ok (.ireturn, 1) := by decide +kernel
theorem dX9_does_160 : decode cX9_does 160 = .ok (.aload_n 0, 1) := by decide +kernel
theorem dX9_does_161 : decode cX9_does 161 = .ok (.iload_n 2, 1) := by decide +kernel
theorem dX9_does_162 : decode cX9_does 162 = .ok (.iload_n 3, 1) := by decide +kernel
theorem dX9_does_163 : decode cX9_does 163 = .ok (.invokevirtual 163, 3) := by decide +kernel
theorem dX9_does_166 : decode cX9_does 166 = .ok (.ireturn, 1) := by decide +kernel
theorem dX9_does_167 : decode cX9_does 167 = .ok (.aload_n 0, 1) := by decide +kernel
theorem dX9_does_168 : decode cX9_does 168 = .ok (.iload_n 2, 1) := by decide +kernel
theorem dX9_does_169 : decode cX9_does 169 = .ok (.iload_n 3, 1) := by decide +kernel
theorem dX9_does_170 : decode cX9_does 170 = .ok (.invokevirtual 169, 3) := by decide +kernel
theorem dX9_does_173 : decode cX9_does 173 = .ok (.ireturn, 1) := by decide +kernel
theorem dX9_does_174 : decode cX9_does 174 = .ok (.aload_n 0, 1) := by decide +kernel
theorem dX9_does_175 : decode cX9_does 175 = .ok (.iload_n 2, 1) := by decide +kernel
theorem dX9_does_176 : decode cX9_does 176 = .ok (.invokevirtual 175, 3) := by decide +kernel
theorem dX9_does_179 : decode cX9_does 179 = .ok (.ireturn, 1) := by decide +kernel
theorem dX9_execute_0 : decode cX9_execute 0 = .ok (.aload_n 0, 1) := by decide +kernel
theorem dX9_execute_1 : decode cX9_execute 1 = .ok (.invokevirtual 127, 3) := by decide +kernel
theorem dX9_execute_4 : decode cX9_execute 4 = .ok (.aload_n 0, 1) := by decide +kernel
theorem dX9_execute_5 : decode cX9_execute 5 = .ok (.iconst 0, 1) := by decide +kernel
theorem dX9_execute_6 : decode cX9_execute 6 = .ok (.putfield 202, 3) := by decide +kernel
theorem dX9_execute_9 : decode cX9_execute 9 = .ok (.aload_n 0, 1) := by decide +kernel
theorem dX9_execute_10 : decode cX9_execute 10 = .ok (.aload_n 0, 1) := by decide +kernel
theorem dX9_execute_11 : decode cX9_execute 11 = .ok (.getfield 199, 3) := by decide +kernel
theorem dX9_execute_14 : decode cX9_execute 14 = .ok (.putfield 205, 3) := by decide +kernel
theorem dX9_execute_17 : decode cX9_execute 17 = .ok (.aload_n 0, 1) := by decide +kernel
theorem dX9_execute_18 : decode cX9_execute 18 = .ok (.iconst 0, 1) := by decide +kernel
theorem dX9_execute_19 : decode cX9_execute 19 = .ok (.putfield 199, 3) := by decide +kernel
theorem dX9_execute_22 : decode cX9_execute 22 = .ok (.aload_n 0, 1) := by decide +kernel
theorem dX9_execute_23 : decode cX9_execute 23 = .ok (.iconst 0, 1) := by decide +kernel
theorem dX9_execute_24 : decode cX9_execute 24 = .ok (.putfield 224, 3) := by decide +kernel
theorem dX9_execute_27 : decode cX9_execute 27 = .ok (.aload_n 0, 1) := by decide +kernel
theorem dX9_execute_28 : decode cX9_execute 28 = .ok (.iconst 0, 1) := by decide +kernel
theorem dX9_execute_29 : decode cX9_execute 29 = .ok (.putfield 213, 3) := by decide +kernel
theorem dX9_execute_32 : decode cX9_execute 32 = .ok (.aload_n 0, 1) := by decide +kernel
theorem dX9_execute_33 : decode cX9_execute 33 = .ok (.invokevirtual 269, 3) := by decide +kernel
theorem dX9_execute_36 : decode cX9_execute 36 = .ok (.aload_n 0, 1) := by decide +kernel
theorem dX9_execute_37 : decode cX9_execute 37 = .ok (.getfield 213, 3) := by decide +kernel
theorem dX9_execute_40 : decode cX9_execute 40 = .ok (.ifCond .ne 30, 3) := by decide +kernel
theorem dX9_execute_43 : decode cX9_execute 43 = .ok (.aload_n 0, 1) := by decide +kernel
theorem dX9_execute_44 : decode cX9_execute 44 = .ok (.iconst 0, 1) := by decide +kernel
theorem dX9_execute_45 : decode cX9_execute 45 = .ok (.invokevirtual 217, 3) := by decide +kernel
theorem dX9_execute_48 : decode cX9_execute 48 = .ok (.bipush 59, 2) := by decide +kernel
theorem dX9_execute_50 : decode cX9_execute 50 = .ok (.if_icmp .ne 20, 3) := by decide +kernel
theorem dX9_execute_53 : decode cX9_execute 53 = .ok (.aload_n 0, 1) := by decide +kernel
theorem dX9_execute_54 : decode cX9_execute 54 = .ok (.dup, 1) := by decide +kernel
theorem dX9_execute_55 : decode cX9_execute 55 = .ok (.getfield 202, 3) := by decide +kernel
theorem dX9_execute_58 : decode cX9_execute 58 = .ok (.iconst 1, 1) := by decide +kernel
theorem dX9_execute_59 : decode cX9_execute 59 = .ok (.iadd, 1) := by decide +kernel
theorem dX9_execute_60 : decode cX9_execute 60 = .ok (.putfield 202, 3) := by decide +kernel
theorem dX9_execute_63 : decode cX9_execute 63 = .ok (.aload_n 0, 1) := by decide +kernel
theorem dX9_execute_64 : decode cX9_execute 64 = .ok (.invokevirtual 269, 3) := by decide +kernel
theorem dX9_execute_67 : decode cX9_execute 67 = .ok (.goto (-31), 3) := by decide +kernel
theorem dX9_execute_70 : decode cX9_execute 70 = .ok (.aload_n 0, 1) := by decide +kernel
theorem dX9_execute_71 : decode cX9_execute 71 = .ok (.getfield 213, 3) := by decide +kernel
theorem dX9_execute_74 : decode cX9_execute 74 = .ok (.ifCond .ne 14, 3) := by decide +kernel
theorem dX9_execute_77 : decode cX9_execute 77 = .ok (.aload_n 0, 1) := by decide +kernel
theorem dX9_execute_78 : decode cX9_execute 78 = .ok (.getfield 202, 3) := by decide +kernel
theorem dX9_execute_81 : decode cX9_execute 81 = .ok (.aload_n 0, 1) := by decide +kernel
theorem dX9_execute_82 : decode cX9_execute 82 = .ok (.getfield 205, 3) := by decide +kernel
theorem dX9_execute_85 : decode cX9_execute 85 = .ok (.if_icmp .ge 17, 3) := by decide +kernel
theorem dX9_execute_88 : decode cX9_execute 88 = .ok (.aload_n 0, 1) := by decide +kernel
theorem dX9_execute_89 : decode cX9_execute 89 = .ok (.aload_n 0, 1) := by decide +kernel
theorem dX9_execute_90 : decode cX9_execute 90 = .ok (.getfield 202, 3) := by decide +kernel
theorem dX9_execute_93 : decode cX9_execute 93 = .ok (.putfield 40, 3) := by decide +kernel
theorem dX9_execute_96 : decode cX9_execute 96 = .ok (.aload_n 0, 1) := by decide +kernel
theorem dX9_execute_97 : decode cX9_execute 97 = .ok (.iconst 1, 1) := by decide +kernel
theorem dX9_execute_98 : decode cX9_execute 98 = .ok (.invokevirtual 60, 3) := by decide +kernel
theorem dX9_execute_101 : decode cX9_execute 101 = .ok (.ireturn, 1) := by decide +kernel
theorem dX9_execute_102 : decode cX9_execute 102 = .ok (.iconst 0, 1) := by decide +kernel
theorem dX9_execute_103 : decode cX9_execute 103 = .ok (.istore_n 1, 1) := by decide +kernel
theorem dX9_execute_104 : decode cX9_execute 104 = .ok (.iload_n 1, 1) := by decide +kernel
theorem dX9_execute_105 : decode cX9_execute 105 = .ok (.aload_n 0, 1) := by decide +kernel
theorem dX9_execute_106 : decode cX9_execute 106 = .ok (.getfield 224, 3) := by decide +kernel
theorem dX9_execute_109 : decode cX9_execute 109 = .ok (.if_icmp .ge 57, 3) := by decide +kernel
theorem dX9_execute_112 : decode cX9_execute 112 = .ok (.aload_n 0, 1) := by decide +kernel
theorem dX9_execute_113 : decode cX9_execute 113 = .ok (.iload_n 1, 1) := by decide +kernel
theorem dX9_execute_114 : decode cX9_execute 114 = .ok (.invokevirtual 272, 3) := by decide +kernel
theorem dX9_execute_117 : decode cX9_execute 117 = .ok (.ifCond .ne 6, 3) := by decide +kernel
theorem dX9_execute_120 : decode cX9_execute 120 = .ok (.goto 40, 3) := by decide +kernel
theorem dX9_execute_123 : decode cX9_execute 123 = .ok (.iconst 0, 1) := by decide +kernel
theorem dX9_execute_124 : decode cX9_execute 124 = .ok (.istore_n 2, 1) := by decide +kernel
theorem dX9_execute_125 : decode cX9_execute 125 = .ok (.iload_n 2, 1) := by decide +kernel
theorem dX9_execute_126 : decode cX9_execute 126 = .ok (.bipush 116, 2) := by decide +kernel
theorem dX9_execute_128 : decode cX9_execute 128 = .ok (.if_icmp .ge 21, 3) := by decide +kernel
theorem dX9_execute_131 : decode cX9_execute 131 = .ok (.aload_n 0, 1) := by decide +kernel
theorem dX9_execute_132 : decode cX9_execute 132 = .ok (.getfield 7, 3) := by decide +kernel
theorem dX9_execute_135 : decode cX9_execute 135 = .ok (.iload_n 2, 1) := by decide +kernel
theorem dX9_execute_136 : decode cX9_execute 136 = .ok (.aload_n 0, 1) := by decide +kernel
theorem dX9_execute_137 : decode cX9_execute 137 = .ok (.getfield 13, 3) := by decide +kernel
theorem dX9_execute_140 : decode cX9_execute 140 = .ok (.iload_n 2, 1) := by decide +kernel
theorem dX9_execute_141 : decode cX9_execute 141 = .ok (.iaload, 1) := by decide +kernel
theorem dX9_execute_142 : decode cX9_execute 142 = .ok (.iastore, 1) := by decide +kernel
theorem dX9_execute_143 : decode cX9_execute 143 = .ok (.iinc 2 1, 3) := by decide +kernel
theorem dX9_execute_146 : decode cX9_execute 146 = .ok (.goto (-21), 3) := by decide +kernel
theorem dX9_execute_149 : decode cX9_execute 149 = .ok (.aload_n 0, 1) := by decide +kernel
theorem dX9_execute_150 : decode cX9_execute 150 = .ok (.iload_n 1, 1) := by decide +kernel
theorem dX9_execute_151 : decode cX9_execute 151 = .ok (.putfield 44, 3) := by decide +kernel
theorem dX9_execute_154 : decode cX9_execute 154 = .ok (.aload_n 0, 1) := by decide +kernel
theorem dX9_execute_155 : decode cX9_execute 155 = .ok (.iconst 2, 1) := by decide +kernel
theorem dX9_execute_156 : decode cX9_execute 156 = .ok (.invokevirtual 60, 3) := by decide +kernel
theorem dX9_execute_159 : decode cX9_execute 159 = .ok (.ireturn, 1) := by decide +kernel
theorem dX9_execute_160 : decode cX9_execute 160 = .ok (.iinc 1 1, 3) := by decide +kernel
theorem dX9_execute_163 : decode cX9_execute 163 = .ok (.goto (-59), 3) := by decide +kernel
theorem dX9_execute_166 : decode cX9_execute 166 = .ok (.aload_n 0, 1) := by decide +kernel
theorem dX9_execute_167 : decode cX9_execute 167 = .ok (.aload_n 0, 1) := by decide +kernel
theorem dX9_execute_168 : decode cX9_execute 168 = .ok (.getfield 224, 3) := by decide +kernel
theorem dX9_execute_171 : decode cX9_execute 171 = .ok (.invokevirtual 56, 3) := by decide +kernel
theorem dX9_execute_174 : decode cX9_execute 174 = .ok (.ireturn, 1) := by decide +kernel
theorem dX9_errorPosition_0 : decode cX9_errorPosition 0 = .ok (.aload_n 0, 1) := by decide +kernel
theorem dX9_errorPosition_1 : decode cX9_errorPosition 1 = .ok (.iconst 0, 1) := by decide +kernel
theorem dX9_errorPosition_2 : decode cX9_errorPosition 2 = .ok (.putfield 47, 3) := by decide +kernel
theorem dX9_errorPosition_5 : decode cX9_errorPosition 5 = .ok (.aload_n 0, 1) := by decide +kernel
theorem dX9_errorPosition_6 : decode cX9_errorPosition 6 = .ok (.getfield 40, 3) := by decide +kernel
theorem dX9_errorPosition_9 : decode cX9_errorPosition 9 = .ok (.iconst (-1), 1) := by decide +kernel
theorem dX9_errorPosition_10 : decode cX9_errorPosition 10 = .ok (.if_icmp .ne 11, 3) := by decide +kernel
theorem dX9_errorPosition_13 : decode cX9_errorPosition 13 = .ok (.aload_n 0, 1) := by decide +kernel
theorem dX9_errorPosition_14 : decode cX9_errorPosition 14 = .ok (.iconst 1, 1) := by decide +kernel
theorem dX9_errorPosition_15 : decode cX9_errorPosition 15 = .ok (.invokevirtual 60, 3) := by decide +kernel
theorem dX9_errorPosition_18 : decode cX9_errorPosition 18 = .ok (.goto 7, 3) := by decide +kernel
theorem dX9_errorPosition_21 : decode cX9_errorPosition 21 = .ok (.aload_n 0, 1) := by decide +kernel
theorem dX9_errorPosition_22 : decode cX9_errorPosition 22 = .ok (.getfield 40, 3) := by decide +kernel
theorem dX9_errorPosition_25 : decode cX9_errorPosition 25 = .ok (.ireturn, 1) := by decide +kernel
theorem dX9_failedCommand_0 : decode cX9_failedCommand 0 = .ok (.aload_n 0, 1) := by decide +kernel
theorem dX9_failedCommand_1 : decode cX9_failedCommand 1 = .ok (.iconst 0, 1) := by decide +kernel
theorem dX9_failedCommand_2 : decode cX9_failedCommand 2 = .ok (.putfield 47, 3) := by decide +kernel
theorem dX9_failedCommand_5 : decode cX9_failedCommand 5 = .ok (.aload_n 0, 1) := by decide +kernel
theorem dX9_failedCommand_6 : decode cX9_failedCommand 6 = .ok (.getfield 44, 3) := by decide +kernel
theorem dX9_failedCommand_9 : decode cX9_failedCommand 9 = .ok (.iconst (-1), 1) := by decide +kernel
theorem dX9_failedCommand_10 : decode cX9_failedCommand 10 = .ok (.if_icmp .ne 11, 3) := by decide +kernel
theorem dX9_failedCommand_13 : decode cX9_failedCommand 13 = .ok (.aload_n 0, 1) := by decide +kernel
theorem dX9_failedCommand_14 : decode cX9_failedCommand 14 = .ok (.iconst 1, 1) := by decide +kernel
theorem dX9_failedCommand_15 : decode cX9_failedCommand 15 = .ok (.invokevirtual 60, 3) := by decide +kernel
theorem dX9_failedCommand_18 : decode cX9_failedCommand 18 = .ok (.goto 7, 3) := by decide +kernel
theorem dX9_failedCommand_21 : decode cX9_failedCommand 21 = .ok (.aload_n 0, 1) := by decide +kernel
theorem dX9_failedCommand_22 : decode cX9_failedCommand 22 = .ok (.getfield 44, 3) := by decide +kernel
theorem dX9_failedCommand_25 : decode cX9_failedCommand 25 = .ok (.ireturn, 1) := by decide +kernel
theorem dX9_undo_0 : decode cX9_undo 0 = .ok (.aload_n 0, 1) := by decide +kernel
theorem dX9_undo_1 : decode cX9_undo 1 = .ok (.iconst 0, 1) := by decide +kernel
theorem dX9_undo_2 : decode cX9_undo 2 = .ok (.putfield 47, 3) := by decide +kernel
theorem dX9_undo_5 : decode cX9_undo 5 = .ok (.aload_n 0, 1) := by decide +kernel
theorem dX9_undo_6 : decode cX9_undo 6 = .ok (.getfield 50, 3) := by decide +kernel
theorem dX9_undo_9 : decode cX9_undo 9 = .ok (.ifCond .ne 9, 3) := by decide +kernel
theorem dX9_undo_12 : decode cX9_undo 12 = .ok (.aload_n 0, 1) := by decide +kernel
theorem dX9_undo_13 : decode cX9_undo 13 = .ok (.iconst 1, 1) := by decide +kernel
theorem dX9_undo_14 : decode cX9_undo 14 = .ok (.invokevirtual 60, 3) := by decide +kernel
theorem dX9_undo_17 : decode cX9_undo 17 = .ok (.ireturn, 1) := by decide +kernel
theorem dX9_undo_18 : decode cX9_undo 18 = .ok (.aload_n 0, 1) := by decide +kernel
theorem dX9_undo_19 : decode cX9_undo 19 = .ok (.dup, 1) := by decide +kernel
theorem dX9_undo_20 : decode cX9_undo 20 = .ok (.getfield 50, 3) := by decide +kernel
theorem dX9_undo_23 : decode cX9_undo 23 = .ok (.iconst 1, 1) := by decide +kernel
theorem dX9_undo_24 : decode cX9_undo 24 = .ok (.isub, 1) := by decide +kernel
theorem dX9_undo_25 : decode cX9_undo 25 = .ok (.putfield 50, 3) := by decide +kernel
theorem dX9_undo_28 : decode cX9_undo 28 = .ok (.iconst 0, 1) := by decide +kernel
theorem dX9_undo_29 : decode cX9_undo 29 = .ok (.istore_n 1, 1) := by decide +kernel
theorem dX9_undo_30 : decode cX9_undo 30 = .ok (.iload_n 1, 1) := by decide +kernel
theorem dX9_undo_31 : decode cX9_undo 31 = .ok (.bipush 116, 2) := by decide +kernel
theorem dX9_undo_33 : decode cX9_undo 33 = .ok (.if_icmp .ge 29, 3) := by decide +kernel
theorem dX9_undo_36 : decode cX9_undo 36 = .ok (.aload_n 0, 1) := by decide +kernel
theorem dX9_undo_37 : decode cX9_undo 37 = .ok (.getfield 7, 3) := by decide +kernel
theorem dX9_undo_40 : decode cX9_undo 40 = .ok (.iload_n 1, 1) := by decide +kernel
theorem dX9_undo_41 : decode cX9_undo 41 = .ok (.aload_n 0, 1) := by decide +kernel
theorem dX9_undo_42 : decode cX9_undo 42 = .ok (.getfield 19, 3) := by decide +kernel
theorem dX9_undo_45 : decode cX9_undo 45 = .ok (.bipush 116, 2) := by decide +kernel
theorem dX9_undo_47 : decode cX9_undo 47 = .ok (.aload_n 0, 1) := by decide +kernel
theorem dX9_undo_48 : decode cX9_undo 48 = .ok (.getfield 50, 3) := by decide +kernel
theorem dX9_undo_51 : decode cX9_undo 51 = .ok (.imul, 1) := by decide +kernel
theorem dX9_undo_52 : decode cX9_undo 52 = .ok (.iload_n 1, 1) := by decide +kernel
theorem dX9_undo_53 : decode cX9_undo 53 = .ok (.iadd, 1) := by decide +kernel
theorem dX9_undo_54 : decode cX9_undo 54 = .ok (.iaload, 1) := by decide +kernel
theorem dX9_undo_55 : decode cX9_undo 55 = .ok (.iastore, 1) := by decide +kernel
theorem dX9_undo_56 : decode cX9_undo 56 = .ok (.iinc 1 1, 3) := by decide +kernel
theorem dX9_undo_59 : decode cX9_undo 59 = .ok (.goto (-29), 3) := by decide +kernel
theorem dX9_undo_62 : decode cX9_undo 62 = .ok (.aload_n 0, 1) := by decide +kernel
theorem dX9_undo_63 : decode cX9_undo 63 = .ok (.getfield 50, 3) := by decide +kernel
theorem dX9_undo_66 : decode cX9_undo 66 = .ok (.ireturn, 1) := by decide +kernel
theorem dX9_undoCount_0 : decode cX9_undoCount 0 = .ok (.aload_n 0, 1) := by decide +kernel
theorem dX9_undoCount_1 : decode cX9_undoCount 1 = .ok (.iconst 0, 1) := by decide +kernel
theorem dX9_undoCount_2 : decode cX9_undoCount 2 = .ok (.putfield 47, 3) := by decide +kernel
theorem dX9_undoCount_5 : decode cX9_undoCount 5 = .ok (.aload_n 0, 1) := by decide +kernel
theorem dX9_undoCount_6 : decode cX9_undoCount 6 = .ok (.getfield 50, 3) := by decide +kernel
theorem dX9_undoCount_9 : decode cX9_undoCount 9 = .ok (.ireturn, 1) := by decide +kernel
theorem dX9_save_0 : decode cX9_save 0 = .ok (.aload_n 0, 1) := by decide +kernel
theorem dX9_save_1 : decode cX9_save 1 = .ok (.iconst 0, 1) := by decide +kernel
theorem dX9_save_2 : decode cX9_save 2 = .ok (.putfield 47, 3) := by decide +kernel
theorem dX9_save_5 : decode cX9_save 5 = .ok (.iconst 0, 1) := by decide +kernel
theorem dX9_save_6 : decode cX9_save 6 = .ok (.istore_n 1, 1) := by decide +kernel
theorem dX9_save_7 : decode cX9_save 7 = .ok (.iload_n 1, 1) := by decide +kernel
theorem dX9_save_8 : decode cX9_save 8 = .ok (.bipush 116, 2) := by decide +kernel
theorem dX9_save_10 : decode cX9_save 10 = .ok (.if_icmp .ge 21, 3) := by decide +kernel
theorem dX9_save_13 : decode cX9_save 13 = .ok (.aload_n 0, 1) := by decide +kernel
theorem dX9_save_14 : decode cX9_save 14 = .ok (.getfield 16, 3) := by decide +kernel
theorem dX9_save_17 : decode cX9_save 17 = .ok (.iload_n 1, 1) := by decide +kernel
theorem dX9_save_18 : decode cX9_save 18 = .ok (.aload_n 0, 1) := by decide +kernel
theorem dX9_save_19 : decode cX9_save 19 = .ok (.getfield 7, 3) := by decide +kernel
theorem dX9_save_22 : decode cX9_save 22 = .ok (.iload_n 1, 1) := by decide +kernel
theorem dX9_save_23 : decode cX9_save 23 = .ok (.iaload, 1) := by decide +kernel
theorem dX9_save_24 : decode cX9_save 24 = .ok (.iastore, 1) := by decide +kernel
theorem dX9_save_25 : decode cX9_save 25 = .ok (.iinc 1 1, 3) := by decide +kernel
theorem dX9_save_28 : decode cX9_save 28 = .ok (.goto (-21), 3) := by decide +kernel
theorem dX9_save_31 : decode cX9_save 31 = .ok (.aload_n 0, 1) := by decide +kernel
theorem dX9_save_32 : decode cX9_save 32 = .ok (.iconst 1, 1) := by decide +kernel
theorem dX9_save_33 : decode cX9_save 33 = .ok (.putfield 275, 3) := by decide +kernel
theorem dX9_save_36 : decode cX9_save 36 = .ok (.aload_n 0, 1) := by decide +kernel
theorem dX9_save_37 : decode cX9_save 37 = .ok (.getfield 7, 3) := by decide +kernel
theorem dX9_save_40 : decode cX9_save 40 = .ok (.iconst 0, 1) := by decide +kernel
theorem dX9_save_41 : decode cX9_save 41 = .ok (.iaload, 1) := by decide +kernel
theorem dX9_save_42 : decode cX9_save 42 = .ok (.ireturn, 1) := by decide +kernel
theorem dX9_restore_0 : decode cX9_restore 0 = .ok (.aload_n 0, 1) := by decide +kernel
theorem dX9_restore_1 : decode cX9_restore 1 = .ok (.iconst 0, 1) := by decide +kernel
theorem dX9_restore_2 : decode cX9_restore 2 = .ok (.putfield 47, 3) := by decide +kernel
theorem dX9_restore_5 : decode cX9_restore 5 = .ok (.aload_n 0, 1) := by decide +kernel
theorem dX9_restore_6 : decode cX9_restore 6 = .ok (.getfield 275, 3) := by decide +kernel
theorem dX9_restore_9 : decode cX9_restore 9 = .ok (.ifCond .ne 9, 3) := by decide +kernel
theorem dX9_restore_12 : decode cX9_restore 12 = .ok (.aload_n 0, 1) := by decide +kernel
theorem dX9_restore_13 : decode cX9_restore 13 = .ok (.iconst 1, 1) := by decide +kernel
theorem dX9_restore_14 : decode cX9_restore 14 = .ok (.invokevirtual 60, 3) := by decide +kernel
theorem dX9_restore_17 : decode cX9_restore 17 = .ok (.ireturn, 1) := by decide +kernel
theorem dX9_restore_18 : decode cX9_restore 18 = .ok (.iconst 0, 1) := by decide +kernel
theorem dX9_restore_19 : decode cX9_restore 19 = .ok (.istore_n 1, 1) := by decide +kernel
theorem dX9_restore_20 : decode cX9_restore 20 = .ok (.iload_n 1, 1) := by decide +kernel
theorem dX9_restore_21 : decode cX9_restore 21 = .ok (.bipush 116, 2) := by decide +kernel
theorem dX9_restore_23 : decode cX9_restore 23 = .ok (.if_icmp .ge 21, 3) := by decide +kernel
theorem dX9_restore_26 : decode cX9_restore 26 = .ok (.aload_n 0, 1) := by decide +kernel
theorem dX9_restore_27 : decode cX9_restore 27 = .ok (.getfield 7, 3) := by decide +kernel
theorem dX9_restore_30 : decode cX9_restore 30 = .ok (.iload_n 1, 1) := by decide +kernel
theorem dX9_restore_31 : decode cX9_restore 31 = .ok (.aload_n 0, 1) := by decide +kernel
theorem dX9_restore_32 : decode cX9_restore 32 = .ok (.getfield 16, 3) := by decide +kernel
theorem dX9_restore_35 : decode cX9_restore 35 = .ok (.iload_n 1, 1) := by decide +kernel
theorem dX9_restore_36 : decode cX9_restore 36 = .ok (.iaload, 1) := by decide +kernel
theorem dX9_restore_37 : decode cX9_restore 37 = .ok (.iastore, 1) := by decide +kernel
theorem dX9_restore_38 : decode cX9_restore 38 = .ok (.iinc 1 1, 3) := by decide +kernel
theorem dX9_restore_41 : decode cX9_restore 41 = .ok (.goto (-21), 3) := by decide +kernel
theorem dX9_restore_44 : decode cX9_restore 44 = .ok (.aload_n 0, 1) := by decide +kernel
theorem dX9_restore_45 : decode cX9_restore 45 = .ok (.iconst 0, 1) := by decide +kernel
theorem dX9_restore_46 : decode cX9_restore 46 = .ok (.putfield 50, 3) := by decide +kernel
theorem dX9_restore_49 : decode cX9_restore 49 = .ok (.aload_n 0, 1) := by decide +kernel
theorem dX9_restore_50 : decode cX9_restore 50 = .ok (.getfield 7, 3) := by decide +kernel
theorem dX9_restore_53 : decode cX9_restore 53 = .ok (.iconst 0, 1) := by decide +kernel
theorem dX9_restore_54 : decode cX9_restore 54 = .ok (.iaload, 1) := by decide +kernel
theorem dX9_restore_55 : decode cX9_restore 55 = .ok (.ireturn, 1) := by decide +kernel
theorem dJx00060_init_a7421_0 : decode cJx00060_init_a7421 0 = .ok (.aload_n 0, 1) := by decide +kernel
theorem dJx00060_init_a7421_1 : decode cJx00060_init_a7421 1 = .ok (.aload_n 1, 1) := by decide +kernel
theorem dJx00060_init_a7421_2 : decode cJx00060_init_a7421 2 = .ok (.invokespecial 7, 3) := by decide +kernel
theorem dJx00060_init_a7421_5 : decode cJx00060_init_a7421 5 = .ok (.return_, 1) := by decide +kernel
theorem dJx29ce0_ordinal_8abf5_0 : decode cJx29ce0_ordinal_8abf5 0 = .ok (.aload_n 0, 1) := by decide +kernel
theorem dJx29ce0_ordinal_8abf5_1 : decode cJx29ce0_ordinal_8abf5 1 = .ok (.getfield 7, 3) := by decide +kernel
theorem dJx29ce0_ordinal_8abf5_4 : decode cJx29ce0_ordinal_8abf5 4 = .ok (.ireturn, 1) := by decide +kernel
theorem dJ6_bitCount_0f7a4_0 : decode cJ6_bitCount_0f7a4 0 = .ok (.iload_n 0, 1) := by decide +kernel
theorem dJ6_bitCount_0f7a4_1 : decode cJ6_bitCount_0f7a4 1 = .ok (.iload_n 0, 1) := by decide +kernel
theorem dJ6_bitCount_0f7a4_2 : decode cJ6_bitCount_0f7a4 2 = .ok (.iconst 1, 1) := by decide +kernel
theorem dJ6_bitCount_0f7a4_3 : decode cJ6_bitCount_0f7a4 3 = .ok (.iushr, 1) := by decide +kernel
theorem dJ6_bitCount_0f7a4_4 : decode cJ6_bitCount_0f7a4 4 = .ok (.ldc_w 265, 3) := by decide +kernel
theorem dJ6_bitCount_0f7a4_7 : decode cJ6_bitCount_0f7a4 7 = .ok (.iand, 1) := by decide +kernel
theorem dJ6_bitCount_0f7a4_8 : decode cJ6_bitCount_0f7a4 8 = .ok (.isub, 1) := by decide +kernel
theorem dJ6_bitCount_0f7a4_9 : decode cJ6_bitCount_0f7a4 9 = .ok (.istore_n 0, 1) := by decide +kernel
theorem dJ6_bitCount_0f7a4_10 : decode cJ6_bitCount_0f7a4 10 = .ok (.iload_n 0, 1) := by decide +kernel
theorem dJ6_bitCount_0f7a4_11 : decode cJ6_bitCount_0f7a4 11 = .ok (.ldc_w 266, 3) := by decide +kernel
theorem dJ6_bitCount_0f7a4_14 : decode cJ6_bitCount_0f7a4 14 = .ok (.iand, 1) := by decide +kernel
theorem dJ6_bitCount_0f7a4_15 : decode cJ6_bitCount_0f7a4 15 = .ok (.iload_n 0, 1) := by decide +kernel
theorem dJ6_bitCount_0f7a4_16 : decode cJ6_bitCount_0f7a4 16 = .ok (.iconst 2, 1) := by decide +kernel
theorem dJ6_bitCount_0f7a4_17 : decode cJ6_bitCount_0f7a4 17 = .ok (.iushr, 1) := by decide +kernel
theorem dJ6_bitCount_0f7a4_18 : decode cJ6_bitCount_0f7a4 18 = .ok (.ldc_w 266, 3) := by decide +kernel
theorem dJ6_bitCount_0f7a4_21 : decode cJ6_bitCount_0f7a4 21 = .ok (.iand, 1) := by decide +kernel
theorem dJ6_bitCount_0f7a4_22 : decode cJ6_bitCount_0f7a4 22 = .ok (.iadd, 1) := by decide +kernel
theorem dJ6_bitCount_0f7a4_23 : decode cJ6_bitCount_0f7a4 23 = .ok (.istore_n 0, 1) := by decide +kernel
theorem dJ6_bitCount_0f7a4_24 : decode cJ6_bitCount_0f7a4 24 = .ok (.iload_n 0, 1) := by decide +kernel
theorem dJ6_bitCount_0f7a4_25 : decode cJ6_bitCount_0f7a4 25 = .ok (.iload_n 0, 1) := by decide +kernel
theorem dJ6_bitCount_0f7a4_26 : decode cJ6_bitCount_0f7a4 26 = .ok (.iconst 4, 1) := by decide +kernel
theorem dJ6_bitCount_0f7a4_27 : decode cJ6_bitCount_0f7a4 27 = .ok (.iushr, 1) := by decide +kernel
theorem dJ6_bitCount_0f7a4_28 : decode cJ6_bitCount_0f7a4 28 = .ok (.iadd, 1) := by decide +kernel
theorem dJ6_bitCount_0f7a4_29 : decode cJ6_bitCount_0f7a4 29 = .ok (.ldc_w 267, 3) := by decide +kernel
theorem dJ6_bitCount_0f7a4_32 : decode cJ6_bitCount_0f7a4 32 = .ok (.iand, 1) := by decide +kernel
theorem dJ6_bitCount_0f7a4_33 : decode cJ6_bitCount_0f7a4 33 = .ok (.istore_n 0, 1) := by decide +kernel
theorem dJ6_bitCount_0f7a4_34 : decode cJ6_bitCount_0f7a4 34 = .ok (.iload_n 0, 1) := by decide +kernel
theorem dJ6_bitCount_0f7a4_35 : decode cJ6_bitCount_0f7a4 35 = .ok (.iload_n 0, 1) := by decide +kernel
theorem dJ6_bitCount_0f7a4_36 : decode cJ6_bitCount_0f7a4 36 = .ok (.bipush 8, 2) := by decide +kernel
theorem dJ6_bitCount_0f7a4_38 : decode cJ6_bitCount_0f7a4 38 = .ok (.iushr, 1) := by decide +kernel
theorem dJ6_bitCount_0f7a4_39 : decode cJ6_bitCount_0f7a4 39 = .ok (.iadd, 1) := by decide +kernel
theorem dJ6_bitCount_0f7a4_40 : decode cJ6_bitCount_0f7a4 40 = .ok (.istore_n 0, 1) := by decide +kernel
theorem dJ6_bitCount_0f7a4_41 : decode cJ6_bitCount_0f7a4 41 = .ok (.iload_n 0, 1) := by decide +kernel
theorem dJ6_bitCount_0f7a4_42 : decode cJ6_bitCount_0f7a4 42 = .ok (.iload_n 0, 1) := by decide +kernel
theorem dJ6_bitCount_0f7a4_43 : decode cJ6_bitCount_0f7a4 43 = .ok (.bipush 16, 2) := by decide +kernel
theorem dJ6_bitCount_0f7a4_45 : decode cJ6_bitCount_0f7a4 45 = .ok (.iushr, 1) := by decide +kernel
theorem dJ6_bitCount_0f7a4_46 : decode cJ6_bitCount_0f7a4 46 = .ok (.iadd, 1) := by decide +kernel
theorem dJ6_bitCount_0f7a4_47 : decode cJ6_bitCount_0f7a4 47 = .ok (.istore_n 0, 1) := by decide +kernel
theorem dJ6_bitCount_0f7a4_48 : decode cJ6_bitCount_0f7a4 48 = .ok (.iload_n 0, 1) := by decide +kernel
theorem dJ6_bitCount_0f7a4_49 : decode cJ6_bitCount_0f7a4 49 = .ok (.bipush 63, 2) := by decide +kernel
theorem dJ6_bitCount_0f7a4_51 : decode cJ6_bitCount_0f7a4 51 = .ok (.iand, 1) := by decide +kernel
theorem dJ6_bitCount_0f7a4_52 : decode cJ6_bitCount_0f7a4 52 = .ok (.ireturn, 1) := by decide +kernel
theorem dJ9_max_7cf53_0 : decode cJ9_max_7cf53 0 = .ok (.iload_n 0, 1) := by decide +kernel
theorem dJ9_max_7cf53_1 : decode cJ9_max_7cf53 1 = .ok (.iload_n 1, 1) := by decide +kernel
theorem dJ9_max_7cf53_2 : decode cJ9_max_7cf53 2 = .ok (.if_icmp .lt 7, 3) := by decide +kernel
theorem dJ9_max_7cf53_5 : decode cJ9_max_7cf53 5 = .ok (.iload_n 0, 1) := by decide +kernel
theorem dJ9_max_7cf53_6 : decode cJ9_max_7cf53 6 = .ok (.goto 4, 3) := by decide +kernel
theorem dJ9_max_7cf53_9 : decode cJ9_max_7cf53 9 = .ok (.iload_n 1, 1) := by decide +kernel
theorem dJ9_max_7cf53_10 : decode cJ9_max_7cf53 10 = .ok (.ireturn, 1) := by decide +kernel
theorem dJ9_min_7cf53_0 : decode cJ9_min_7cf53 0 = .ok (.iload_n 0, 1) := by decide +kernel
theorem dJ9_min_7cf53_1 : decode cJ9_min_7cf53 1 = .ok (.iload_n 1, 1) := by decide +kernel
theorem dJ9_min_7cf53_2 : decode cJ9_min_7cf53 2 = .ok (.if_icmp .gt 7, 3) := by decide +kernel
theorem dJ9_min_7cf53_5 : decode cJ9_min_7cf53 5 = .ok (.iload_n 0, 1) := by decide +kernel
theorem dJ9_min_7cf53_6 : decode cJ9_min_7cf53 6 = .ok (.goto 4, 3) := by decide +kernel
theorem dJ9_min_7cf53_9 : decode cJ9_min_7cf53 9 = .ok (.iload_n 1, 1) := by decide +kernel
theorem dJ9_min_7cf53_10 : decode cJ9_min_7cf53 10 = .ok (.ireturn, 1) := by decide +kernel
theorem dJ0_length_8abf5_0 : decode cJ0_length_8abf5 0 = .ok (.aload_n 0, 1) := by decide +kernel
theorem dJ0_length_8abf5_1 : decode cJ0_length_8abf5 1 = .ok (.getfield 9, 3) := by decide +kernel
theorem dJ0_length_8abf5_4 : decode cJ0_length_8abf5 4 = .ok (.arraylength, 1) := by decide +kernel
theorem dJ0_length_8abf5_5 : decode cJ0_length_8abf5 5 = .ok (.aload_n 0, 1) := by decide +kernel
theorem dJ0_length_8abf5_6 : decode cJ0_length_8abf5 6 = .ok (.invokevirtual 335, 3) := by decide +kernel
theorem dJ0_length_8abf5_9 : decode cJ0_length_8abf5 9 = .ok (.ishr, 1) := by decide +kernel
theorem dJ0_length_8abf5_10 : decode cJ0_length_8abf5 10 = .ok (.ireturn, 1) := by decide +kernel
theorem dJ0_charAt_5068e_0 : decode cJ0_charAt_5068e 0 = .ok (.aload_n 0, 1) := by decide +kernel
theorem dJ0_charAt_5068e_1 : decode cJ0_charAt_5068e 1 = .ok (.invokevirtual 492, 3) := by decide +kernel
theorem dJ0_charAt_5068e_4 : decode cJ0_charAt_5068e 4 = .ok (.ifCond .eq 12, 3) := by decide +kernel
theorem dJ0_charAt_5068e_7 : decode cJ0_charAt_5068e 7 = .ok (.aload_n 0, 1) := by decide +kernel
theorem dJ0_charAt_5068e_8 : decode cJ0_charAt_5068e 8 = .ok (.getfield 9, 3) := by decide +kernel
theorem dJ0_charAt_5068e_11 : decode cJ0_charAt_5068e 11 = .ok (.iload_n 1, 1) := by decide +kernel
theorem dJ0_charAt_5068e_12 : decode cJ0_charAt_5068e 12 = .ok (.invokestatic 495, 3) := by decide +kernel
theorem dJ0_charAt_5068e_15 : decode cJ0_charAt_5068e 15 = .ok (.ireturn, 1) := by decide +kernel
theorem dJ0_charAt_5068e_16 : decode cJ0_charAt_5068e 16 = .ok (.aload_n 0, 1) := by decide +kernel
theorem dJ0_charAt_5068e_17 : decode cJ0_charAt_5068e 17 = .ok (.getfield 9, 3) := by decide +kernel
theorem dJ0_charAt_5068e_20 : decode cJ0_charAt_5068e 20 = .ok (.iload_n 1, 1) := by decide +kernel
theorem dJ0_charAt_5068e_21 : decode cJ0_charAt_5068e 21 = .ok (.invokestatic 498, 3) := by decide +kernel
theorem dJ0_charAt_5068e_24 : decode cJ0_charAt_5068e 24 = .ok (.ireturn, 1) := by decide +kernel
theorem dJ0_coder_7d493_0 : decode cJ0_coder_7d493 0 = .ok (.getstatic 38, 3) := by decide +kernel
theorem dJ0_coder_7d493_3 : decode cJ0_coder_7d493 3 = .ok (.ifCond .eq 10, 3) := by decide +kernel
theorem dJ0_coder_7d493_6 : decode cJ0_coder_7d493 6 = .ok (.aload_n 0, 1) := by decide +kernel
theorem dJ0_coder_7d493_7 : decode cJ0_coder_7d493 7 = .ok (.getfield 15, 3) := by decide +kernel
theorem dJ0_coder_7d493_10 : decode cJ0_coder_7d493 10 = .ok (.goto 4, 3) := by decide +kernel
theorem dJ0_coder_7d493_13 : decode cJ0_coder_7d493 13 = .ok (.iconst 1, 1) := by decide +kernel
theorem dJ0_coder_7d493_14 : decode cJ0_coder_7d493 14 = .ok (.ireturn, 1) := by decide +kernel
theorem dJ0_isLatin1_aae02_0 : decode cJ0_isLatin1_aae02 0 = .ok (.getstatic 38, 3) := by decide +kernel
theorem dJ0_isLatin1_aae02_3 : decode cJ0_isLatin1_aae02 3 = .ok (.ifCond .eq 14, 3) := by decide +kernel
theorem dJ0_isLatin1_aae02_6 : decode cJ0_isLatin1_aae02 6 = .ok (.aload_n 0, 1) := by decide +kernel
theorem dJ0_isLatin1_aae02_7 : decode cJ0_isLatin1_aae02 7 = .ok (.getfield 15, 3) := by decide +kernel
theorem dJ0_isLatin1_aae02_10 : decode cJ0_isLatin1_aae02 10 = .ok (.ifCond .ne 7, 3) := by decide +kernel
theorem dJ0_isLatin1_aae02_13 : decode cJ0_isLatin1_aae02 13 = .ok (.iconst 1, 1) := by decide +kernel
theorem dJ0_isLatin1_aae02_14 : decode cJ0_isLatin1_aae02 14 = .ok (.goto 4, 3) := by decide +kernel
theorem dJ0_isLatin1_aae02_17 : decode cJ0_isLatin1_aae02 17 = .ok (.iconst 0, 1) := by decide +kernel
theorem dJ0_isLatin1_aae02_18 : decode cJ0_isLatin1_aae02 18 = .ok (.ireturn, 1) := by decide +kernel
theorem dJ0_checkIndex_df160_0 : decode cJ0_checkIndex_df160 0 = .ok (.iload_n 0, 1) := by decide +kernel
theorem dJ0_checkIndex_df160_1 : decode cJ0_checkIndex_df160 1 = .ok (.iload_n 1, 1) := by decide +kernel
theorem dJ0_checkIndex_df160_2 : decode cJ0_checkIndex_df160 2 = .ok (.getstatic 1053, 3) := by decide +kernel
theorem dJ0_checkIndex_df160_5 : decode cJ0_checkIndex_df160 5 = .ok (.invokestatic 1059, 3) := by decide +kernel
theorem dJ0_checkIndex_df160_8 : decode cJ0_checkIndex_df160 8 = .ok (.pop, 1) := by decide +kernel
theorem dJ0_checkIndex_df160_9 : decode cJ0_checkIndex_df160 9 = .ok (.return_, 1) := by decide +kernel
theorem dJ1_charAt_3b067_0 : decode cJ1_charAt_3b067 0 = .ok (.iload_n 1, 1) := by decide +kernel
theorem dJ1_charAt_3b067_1 : decode cJ1_charAt_3b067 1 = .ok (.aload_n 0, 1) := by decide +kernel
theorem dJ1_charAt_3b067_2 : decode cJ1_charAt_3b067 2 = .ok (.arraylength, 1) := by decide +kernel
theorem dJ1_charAt_3b067_3 : decode cJ1_charAt_3b067 3 = .ok (.invokestatic 9, 3) := by decide +kernel
theorem dJ1_charAt_3b067_6 : decode cJ1_charAt_3b067 6 = .ok (.aload_n 0, 1) := by decide +kernel
theorem dJ1_charAt_3b067_7 : decode cJ1_charAt_3b067 7 = .ok (.iload_n 1, 1) := by decide +kernel
theorem dJ1_charAt_3b067_8 : decode cJ1_charAt_3b067 8 = .ok (.baload, 1) := by decide +kernel
theorem dJ1_charAt_3b067_9 : decode cJ1_charAt_3b067 9 = .ok (.sipush 255, 3) := by decide +kernel
theorem dJ1_charAt_3b067_12 : decode cJ1_charAt_3b067 12 = .ok (.iand, 1) := by decide +kernel
theorem dJ1_charAt_3b067_13 : decode cJ1_charAt_3b067 13 = .ok (.i2c, 1) := by decide +kernel
theorem dJ1_charAt_3b067_14 : decode cJ1_charAt_3b067 14 = .ok (.ireturn, 1) := by decide +kernel
theorem dJ2_getChar_3b067_0 : decode cJ2_getChar_3b067 0 = .ok (.getstatic 44, 3) := by decide +kernel
theorem dJ2_getChar_3b067_3 : decode cJ2_getChar_3b067 3 = .ok (.ifCond .ne 25, 3) := by decide +kernel
theorem dJ2_getChar_3b067_6 : decode cJ2_getChar_3b067 6 = .ok (.iload_n 1, 1) := by decide +kernel
theorem dJ2_getChar_3b067_7 : decode cJ2_getChar_3b067 7 = .ok (.ifCond .lt 11, 3) := by decide +kernel
theorem dJ2_getChar_3b067_10 : decode cJ2_getChar_3b067 10 = .ok (.iload_n 1, 1) := by decide +kernel
theorem dJ2_getChar_3b067_11 : decode cJ2_getChar_3b067 11 = .ok (.aload_n 0, 1) := by decide +kernel
theorem dJ2_getChar_3b067_12 : decode cJ2_getChar_3b067 12 = .ok (.invokestatic 48, 3) := by decide +kernel
theorem dJ2_getChar_3b067_15 : decode cJ2_getChar_3b067 15 = .ok (.if_icmp .lt 13, 3) := by decide +kernel
theorem dJ2_getChar_3b067_18 : decode cJ2_getChar_3b067 18 = .ok (.new 52, 3) := by decide +kernel
theorem dJ2_getChar_3b067_21 : decode cJ2_getChar_3b067 21 = .ok (.dup, 1) := by decide +kernel
theorem dJ2_getChar_3b067_22 : decode cJ2_getChar_3b067 22 = .ok (.ldc 54, 2) := by decide +kernel
theorem dJ2_getChar_3b067_24 : decode cJ2_getChar_3b067 24 = .ok (.invokespecial 56, 3) := by decide +kernel
theorem dJ2_getChar_3b067_27 : decode cJ2_getChar_3b067 27 = .ok (.athrow, 1) := by decide +kernel
theorem dJ2_getChar_3b067_28 : decode cJ2_getChar_3b067 28 = .ok (.iload_n 1, 1) := by decide +kernel
theorem dJ2_getChar_3b067_29 : decode cJ2_getChar_3b067 29 = .ok (.iconst 1, 1) := by decide +kernel
theorem dJ2_getChar_3b067_30 : decode cJ2_getChar_3b067 30 = .ok (.ishl, 1) := by decide +kernel
theorem dJ2_getChar_3b067_31 : decode cJ2_getChar_3b067 31 = .ok (.istore_n 1, 1) := by decide +kernel
theorem dJ2_getChar_3b067_32 : decode cJ2_getChar_3b067 32 = .ok (.aload_n 0, 1) := by decide +kernel
theorem dJ2_getChar_3b067_33 : decode cJ2_getChar_3b067 33 = .ok (.iload_n 1, 1) := by decide +kernel
theorem dJ2_getChar_3b067_34 : decode cJ2_getChar_3b067 34 = .ok (.iinc 1 1, 3) := by decide +kernel
theorem dJ2_getChar_3b067_37 : decode cJ2_getChar_3b067 37 = .ok (.baload, 1) := by decide +kernel
theorem dJ2_getChar_3b067_38 : decode cJ2_getChar_3b067 38 = .ok (.sipush 255, 3) := by decide +kernel
theorem dJ2_getChar_3b067_41 : decode cJ2_getChar_3b067 41 = .ok (.iand, 1) := by decide +kernel
theorem dJ2_getChar_3b067_42 : decode cJ2_getChar_3b067 42 = .ok (.getstatic 59, 3) := by decide +kernel
theorem dJ2_getChar_3b067_45 : decode cJ2_getChar_3b067 45 = .ok (.ishl, 1) := by decide +kernel
theorem dJ2_getChar_3b067_46 : decode cJ2_getChar_3b067 46 = .ok (.aload_n 0, 1) := by decide +kernel
theorem dJ2_getChar_3b067_47 : decode cJ2_getChar_3b067 47 = .ok (.iload_n 1, 1) := by decide +kernel
theorem dJ2_getChar_3b067_48 : decode cJ2_getChar_3b067 48 = .ok (.baload, 1) := by decide +kernel
theorem dJ2_getChar_3b067_49 : decode cJ2_getChar_3b067 49 = .ok (.sipush 255, 3) := by decide +kernel
theorem dJ2_getChar_3b067_52 : decode cJ2_getChar_3b067 52 = .ok (.iand, 1) := by decide +kernel
theorem dJ2_getChar_3b067_53 : decode cJ2_getChar_3b067 53 = .ok (.getstatic 63, 3) := by decide +kernel
theorem dJ2_getChar_3b067_56 : decode cJ2_getChar_3b067 56 = .ok (.ishl, 1) := by decide +kernel
theorem dJ2_getChar_3b067_57 : decode cJ2_getChar_3b067 57 = .ok (.ior, 1) := by decide +kernel
theorem dJ2_getChar_3b067_58 : decode cJ2_getChar_3b067 58 = .ok (.i2c, 1) := by decide +kernel
theorem dJ2_getChar_3b067_59 : decode cJ2_getChar_3b067 59 = .ok (.ireturn, 1) := by decide +kernel
theorem dJ2_length_9d52b_0 : decode cJ2_length_9d52b 0 = .ok (.aload_n 0, 1) := by decide +kernel
theorem dJ2_length_9d52b_1 : decode cJ2_length_9d52b 1 = .ok (.arraylength, 1) := by decide +kernel
theorem dJ2_length_9d52b_2 : decode cJ2_length_9d52b 2 = .ok (.iconst 1, 1) := by decide +kernel
theorem dJ2_length_9d52b_3 : decode cJ2_length_9d52b 3 = .ok (.ishr, 1) := by decide +kernel
theorem dJ2_length_9d52b_4 : decode cJ2_length_9d52b 4 = .ok (.ireturn, 1) := by decide +kernel
theorem dJ2_charAt_3b067_0 : decode cJ2_charAt_3b067 0 = .ok (.iload_n 1, 1) := by decide +kernel
theorem dJ2_charAt_3b067_1 : decode cJ2_charAt_3b067 1 = .ok (.aload_n 0, 1) := by decide +kernel
theorem dJ2_charAt_3b067_2 : decode cJ2_charAt_3b067 2 = .ok (.invokestatic 67, 3) := by decide +kernel
theorem dJ2_charAt_3b067_5 : decode cJ2_charAt_3b067 5 = .ok (.aload_n 0, 1) := by decide +kernel
theorem dJ2_charAt_3b067_6 : decode cJ2_charAt_3b067 6 = .ok (.iload_n 1, 1) := by decide +kernel
theorem dJ2_charAt_3b067_7 : decode cJ2_charAt_3b067 7 = .ok (.invokestatic 71, 3) := by decide +kernel
theorem dJ2_charAt_3b067_10 : decode cJ2_charAt_3b067 10 = .ok (.ireturn, 1) := by decide +kernel
theorem dJ2_checkIndex_2214a_0 : decode cJ2_checkIndex_2214a 0 = .ok (.iload_n 0, 1) := by decide +kernel
theorem dJ2_checkIndex_2214a_1 : decode cJ2_checkIndex_2214a 1 = .ok (.aload_n 1, 1) := by decide +kernel
theorem dJ2_checkIndex_2214a_2 : decode cJ2_checkIndex_2214a 2 = .ok (.invokestatic 48, 3) := by decide +kernel
theorem dJ2_checkIndex_2214a_5 : decode cJ2_checkIndex_2214a 5 = .ok (.invokestatic 414, 3) := by decide +kernel
theorem dJ2_checkIndex_2214a_8 : decode cJ2_checkIndex_2214a 8 = .ok (.return_, 1) := by decide +kernel
theorem dJ3_checkIndex_8e157_0 : decode cJ3_checkIndex_8e157 0 = .ok (.iload_n 0, 1) := by decide +kernel
theorem dJ3_checkIndex_8e157_1 : decode cJ3_checkIndex_8e157 1 = .ok (.ifCond .lt 8, 3) := by decide +kernel
theorem dJ3_checkIndex_8e157_4 : decode cJ3_checkIndex_8e157 4 = .ok (.iload_n 0, 1) := by decide +kernel
theorem dJ3_checkIndex_8e157_5 : decode cJ3_checkIndex_8e157 5 = .ok (.iload_n 1, 1) := by decide +kernel
theorem dJ3_checkIndex_8e157_6 : decode cJ3_checkIndex_8e157 6 = .ok (.if_icmp .lt 10, 3) := by decide +kernel
theorem dJ3_checkIndex_8e157_9 : decode cJ3_checkIndex_8e157 9 = .ok (.aload_n 2, 1) := by decide +kernel
theorem dJ3_checkIndex_8e157_10 : decode cJ3_checkIndex_8e157 10 = .ok (.iload_n 0, 1) := by decide +kernel
theorem dJ3_checkIndex_8e157_11 : decode cJ3_checkIndex_8e157 11 = .ok (.iload_n 1, 1) := by decide +kernel
theorem dJ3_checkIndex_8e157_12 : decode cJ3_checkIndex_8e157 12 = .ok (.invokestatic 95, 3) := by decide +kernel
theorem dJ3_checkIndex_8e157_15 : decode cJ3_checkIndex_8e157 15 = .ok (.athrow, 1) := by decide +kernel
theorem dJ3_checkIndex_8e157_16 : decode cJ3_checkIndex_8e157 16 = .ok (.iload_n 0, 1) := by decide +kernel
theorem dJ3_checkIndex_8e157_17 : decode cJ3_checkIndex_8e157 17 = .ok (.ireturn, 1) := by decide +kernel
theorem dL_addBlock_0 : decode cL_addBlock 0 = .ok (.aload_n 2, 1) := by decide +kernel
theorem dL_addBlock_1 : decode cL_addBlock 1 = .ok (.iconst 0, 1) := by decide +kernel
theorem dL_addBlock_2 : decode cL_addBlock 2 = .ok (.aload_n 0, 1) := by decide +kernel
theorem dL_addBlock_3 : decode cL_addBlock 3 = .ok (.iload_n 1, 1) := by decide +kernel
theorem dL_addBlock_4 : decode cL_addBlock 4 = .ok (.invokevirtual 7, 3) := by decide +kernel
theorem dL_addBlock_7 : decode cL_addBlock 7 = .ok (.i2l, 1) := by decide +kernel
theorem dL_addBlock_8 : decode cL_addBlock 8 = .ok (.lastore, 1) := by decide +kernel
theorem dL_addBlock_9 : decode cL_addBlock 9 = .ok (.goto 9, 3) := by decide +kernel
theorem dL_addBlock_12 : decode cL_addBlock 12 = .ok (.astore_n 3, 1) := by decide +kernel
theorem dL_addBlock_13 : decode cL_addBlock 13 = .ok (.iconst 1, 1) := by decide +kernel
theorem dL_addBlock_14 : decode cL_addBlock 14 = .ok (.ireturn, 1) := by decide +kernel
theorem dL_addBlock_15 : decode cL_addBlock 15 = .ok (.astore_n 3, 1) := by decide +kernel
theorem dL_addBlock_16 : decode cL_addBlock 16 = .ok (.iconst 2, 1) := by decide +kernel
theorem dL_addBlock_17 : decode cL_addBlock 17 = .ok (.ireturn, 1) := by decide +kernel
theorem dL_addBlock_18 : decode cL_addBlock 18 = .ok (.iconst 0, 1) := by decide +kernel
theorem dL_addBlock_19 : decode cL_addBlock 19 = .ok (.ireturn, 1) := by decide +kernel
theorem dL_addCushion_0 : decode cL_addCushion 0 = .ok (.aload_n 2, 1) := by decide +kernel
theorem dL_addCushion_1 : decode cL_addCushion 1 = .ok (.iconst 0, 1) := by decide +kernel
theorem dL_addCushion_2 : decode cL_addCushion 2 = .ok (.aload_n 0, 1) := by decide +kernel
theorem dL_addCushion_3 : decode cL_addCushion 3 = .ok (.iload_n 1, 1) := by decide +kernel
theorem dL_addCushion_4 : decode cL_addCushion 4 = .ok (.invokevirtual 17, 3) := by decide +kernel
theorem dL_addCushion_7 : decode cL_addCushion 7 = .ok (.i2l, 1) := by decide +kernel
theorem dL_addCushion_8 : decode cL_addCushion 8 = .ok (.lastore, 1) := by decide +kernel
theorem dL_addCushion_9 : decode cL_addCushion 9 = .ok (.goto 9, 3) := by decide +kernel
theorem dL_addCushion_12 : decode cL_addCushion 12 = .ok (.astore_n 3, 1) := by decide +kernel
theorem dL_addCushion_13 : decode cL_addCushion 13 = .ok (.iconst 1, 1) := by decide +kernel
theorem dL_addCushion_14 : decode cL_addCushion 14 = .ok (.ireturn, 1) := by decide +kernel
theorem dL_addCushion_15 : decode cL_addCushion 15 = .ok (.astore_n 3, 1) := by decide +kernel
theorem dL_addCushion_16 : decode cL_addCushion 16 = .ok (.iconst 2, 1) := by decide +kernel
theorem dL_addCushion_17 : decode cL_addCushion 17 = .ok (.ireturn, 1) := by decide +kernel
theorem dL_addCushion_18 : decode cL_addCushion 18 = .ok (.iconst 0, 1) := by decide +kernel
theorem dL_addCushion_19 : decode cL_addCushion 19 = .ok (.ireturn, 1) := by decide +kernel
theorem dL_link_0 : decode cL_link 0 = .ok (.aload_n 3, 1) := by decide +kernel
theorem dL_link_1 : decode cL_link 1 = .ok (.iconst 0, 1) := by decide +kernel
theorem dL_link_2 : decode cL_link 2 = .ok (.aload_n 0, 1) := by decide +kernel
theorem dL_link_3 : decode cL_link 3 = .ok (.iload_n 1, 1) := by decide +kernel
theorem dL_link_4 : decode cL_link 4 = .ok (.iload_n 2, 1) := by decide +kernel
theorem dL_link_5 : decode cL_link 5 = .ok (.invokevirtual 20, 3) := by decide +kernel
theorem dL_link_8 : decode cL_link 8 = .ok (.i2l, 1) := by decide +kernel
theorem dL_link_9 : decode cL_link 9 = .ok (.lastore, 1) := by decide +kernel
theorem dL_link_10 : decode cL_link 10 = .ok (.goto 15, 3) := by decide +kernel
theorem dL_link_13 : decode cL_link 13 = .ok (.astore 4, 2) := by decide +kernel
theorem dL_link_15 : decode cL_link 15 = .ok (.iconst 1, 1) := by decide +kernel
theorem dL_link_16 : decode cL_link 16 = .ok (.ireturn, 1) := by decide +kernel
theorem dL_link_17 : decode cL_link 17 = .ok (.astore 4, 2) := by decide +kernel
theorem dL_link_19 : decode cL_link 19 = .ok (.iconst 2, 1) := by decide +kernel
theorem dL_link_20 : decode cL_link 20 = .ok (.ireturn, 1) := by decide +kernel
theorem dL_link_21 : decode cL_link 21 = .ok (.astore 4, 2) := by decide +kernel
theorem dL_link_23 : decode cL_link 23 = .ok (.iconst 3, 1) := by decide +kernel
theorem dL_link_24 : decode cL_link 24 = .ok (.ireturn, 1) := by decide +kernel
theorem dL_link_25 : decode cL_link 25 = .ok (.iconst 0, 1) := by decide +kernel
theorem dL_link_26 : decode cL_link 26 = .ok (.ireturn, 1) := by decide +kernel
theorem dL_unlink_0 : decode cL_unlink 0 = .ok (.aload_n 3, 1) := by decide +kernel
theorem dL_unlink_1 : decode cL_unlink 1 = .ok (.iconst 0, 1) := by decide +kernel
theorem dL_unlink_2 : decode cL_unlink 2 = .ok (.aload_n 0, 1) := by decide +kernel
theorem dL_unlink_3 : decode cL_unlink 3 = .ok (.iload_n 1, 1) := by decide +kernel
theorem dL_unlink_4 : decode cL_unlink 4 = .ok (.iload_n 2, 1) := by decide +kernel
theorem dL_unlink_5 : decode cL_unlink 5 = .ok (.invokevirtual 26, 3) := by decide +kernel
theorem dL_unlink_8 : decode cL_unlink 8 = .ok (.i2l, 1) := by decide +kernel
theorem dL_unlink_9 : decode cL_unlink 9 = .ok (.lastore, 1) := by decide +kernel
theorem dL_unlink_10 : decode cL_unlink 10 = .ok (.goto 11, 3) := by decide +kernel
theorem dL_unlink_13 : decode cL_unlink 13 = .ok (.astore 4, 2) := by decide +kernel
theorem dL_unlink_15 : decode cL_unlink 15 = .ok (.iconst 1, 1) := by decide +kernel
theorem dL_unlink_16 : decode cL_unlink 16 = .ok (.ireturn, 1) := by decide +kernel
theorem dL_unlink_17 : decode cL_unlink 17 = .ok (.astore 4, 2) := by decide +kernel
theorem dL_unlink_19 : decode cL_unlink 19 = .ok (.iconst 2, 1) := by decide +kernel
theorem dL_unlink_20 : decode cL_unlink 20 = .ok (.ireturn, 1) := by decide +kernel
theorem dL_unlink_21 : decode cL_unlink 21 = .ok (.iconst 0, 1) := by decide +kernel
theorem dL_unlink_22 : decode cL_unlink 22 = .ok (.ireturn, 1) := by decide +kernel
theorem dL_putCat_0 : decode cL_putCat 0 = .ok (.aload_n 2, 1) := by decide +kernel
theorem dL_putCat_1 : decode cL_putCat 1 = .ok (.iconst 0, 1) := by decide +kernel
theorem dL_putCat_2 : decode cL_putCat 2 = .ok (.aload_n 0, 1) := by decide +kernel
theorem dL_putCat_3 : decode cL_putCat 3 = .ok (.iload_n 1, 1) := by decide +kernel
theorem dL_putCat_4 : decode cL_putCat 4 = .ok (.invokevirtual 31, 3) := by decide +kernel
theorem dL_putCat_7 : decode cL_putCat 7 = .ok (.i2l, 1) := by decide +kernel
theorem dL_putCat_8 : decode cL_putCat 8 = .ok (.lastore, 1) := by decide +kernel
theorem dL_putCat_9 : decode cL_putCat 9 = .ok (.goto 12, 3) := by decide +kernel
theorem dL_putCat_12 : decode cL_putCat 12 = .ok (.astore_n 3, 1) := by decide +kernel
theorem dL_putCat_13 : decode cL_putCat 13 = .ok (.iconst 1, 1) := by decide +kernel
theorem dL_putCat_14 : decode cL_putCat 14 = .ok (.ireturn, 1) := by decide +kernel
theorem dL_putCat_15 : decode cL_putCat 15 = .ok (.astore_n 3, 1) := by decide +kernel
theorem dL_putCat_16 : decode cL_putCat 16 = .ok (.iconst 2, 1) := by decide +kernel
theorem dL_putCat_17 : decode cL_putCat 17 = .ok (.ireturn, 1) := by decide +kernel
theorem dL_putCat_18 : decode cL_putCat 18 = .ok (.astore_n 3, 1) := by decide +kernel
theorem dL_putCat_19 : decode cL_putCat 19 = .ok (.iconst 3, 1) := by decide +kernel
theorem dL_putCat_20 : decode cL_putCat 20 = .ok (.ireturn, 1) := by decide +kernel
theorem dL_putCat_21 : decode cL_putCat 21 = .ok (.iconst 0, 1) := by decide +kernel
theorem dL_putCat_22 : decode cL_putCat 22 = .ok (.ireturn, 1) := by decide +kernel
theorem dL_removeCat_0 : decode cL_removeCat 0 = .ok (.aload_n 2, 1) := by decide +kernel
theorem dL_removeCat_1 : decode cL_removeCat 1 = .ok (.iconst 0, 1) := by decide +kernel
theorem dL_removeCat_2 : decode cL_removeCat 2 = .ok (.aload_n 0, 1) := by decide +kernel
theorem dL_removeCat_3 : decode cL_removeCat 3 = .ok (.iload_n 1, 1) := by decide +kernel
theorem dL_removeCat_4 : decode cL_removeCat 4 = .ok (.invokevirtual 36, 3) := by decide +kernel
theorem dL_removeCat_7 : decode cL_removeCat 7 = .ok (.i2l, 1) := by decide +kernel
theorem dL_removeCat_8 : decode cL_removeCat 8 = .ok (.lastore, 1) := by decide +kernel
theorem dL_removeCat_9 : decode cL_removeCat 9 = .ok (.goto 9, 3) := by decide +kernel
theorem dL_removeCat_12 : decode cL_removeCat 12 = .ok (.astore_n 3, 1) := by decide +kernel
theorem dL_removeCat_13 : decode cL_removeCat 13 = .ok (.iconst 1, 1) := by decide +kernel
theorem dL_removeCat_14 : decode cL_removeCat 14 = .ok (.ireturn, 1) := by decide +kernel
theorem dL_removeCat_15 : decode cL_removeCat 15 = .ok (.astore_n 3, 1) := by decide +kernel
theorem dL_removeCat_16 : decode cL_removeCat 16 = .ok (.iconst 2, 1) := by decide +kernel
theorem dL_removeCat_17 : decode cL_removeCat 17 = .ok (.ireturn, 1) := by decide +kernel
theorem dL_removeCat_18 : decode cL_removeCat 18 = .ok (.iconst 0, 1) := by decide +kernel
theorem dL_removeCat_19 : decode cL_removeCat 19 = .ok (.ireturn, 1) := by decide +kernel
theorem dL_length_0 : decode cL_length 0 = .ok (.aload_n 2, 1) := by decide +kernel
theorem dL_length_1 : decode cL_length 1 = .ok (.iconst 0, 1) := by decide +kernel
theorem dL_length_2 : decode cL_length 2 = .ok (.aload_n 0, 1) := by decide +kernel
theorem dL_length_3 : decode cL_length 3 = .ok (.iload_n 1, 1) := by decide +kernel
theorem dL_length_4 : decode cL_length 4 = .ok (.invokevirtual 39, 3) := by decide +kernel
theorem dL_length_7 : decode cL_length 7 = .ok (.i2l, 1) := by decide +kernel
theorem dL_length_8 : decode cL_length 8 = .ok (.lastore, 1) := by decide +kernel
theorem dL_length_9 : decode cL_length 9 = .ok (.goto 6, 3) := by decide +kernel
theorem dL_length_12 : decode cL_length 12 = .ok (.astore_n 3, 1) := by decide +kernel
theorem dL_length_13 : decode cL_length 13 = .ok (.iconst 1, 1) := by decide +kernel
theorem dL_length_14 : decode cL_length 14 = .ok (.ireturn, 1) := by decide +kernel
theorem dL_length_15 : decode cL_length 15 = .ok (.iconst 0, 1) := by decide +kernel
theorem dL_length_16 : decode cL_length 16 = .ok (.ireturn, 1) := by decide +kernel
theorem dL_isCushion_0 : decode cL_isCushion 0 = .ok (.aload_n 2, 1) := by decide +kernel
theorem dL_isCushion_1 : decode cL_isCushion 1 = .ok (.iconst 0, 1) := by decide +kernel
theorem dL_isCushion_2 : decode cL_isCushion 2 = .ok (.aload_n 0, 1) := by decide +kernel
theorem dL_isCushion_3 : decode cL_isCushion 3 = .ok (.iload_n 1, 1) := by decide +kernel
theorem dL_isCushion_4 : decode cL_isCushion 4 = .ok (.invokevirtual 42, 3) := by decide +kernel
theorem dL_isCushion_7 : decode cL_isCushion 7 = .ok (.ifCond .eq 7, 3) := by decide +kernel
theorem dL_isCushion_10 : decode cL_isCushion 10 = .ok (.lconst 1, 1) := by decide +kernel
theorem dL_isCushion_11 : decode cL_isCushion 11 = .ok (.goto 4, 3) := by decide +kernel
theorem dL_isCushion_14 : decode cL_isCushion 14 = .ok (.lconst 0, 1) := by decide +kernel
theorem dL_isCushion_15 : decode cL_isCushion 15 = .ok (.lastore, 1) := by decide +kernel
theorem dL_isCushion_16 : decode cL_isCushion 16 = .ok (.goto 6, 3) := by decide +kernel
theorem dL_isCushion_19 : decode cL_isCushion 19 = .ok (.astore_n 3, 1) := by decide +kernel
theorem dL_isCushion_20 : decode cL_isCushion 20 = .ok (.iconst 1, 1) := by decide +kernel
theorem dL_isCushion_21 : decode cL_isCushion 21 = .ok (.ireturn, 1) := by decide +kernel
theorem dL_isCushion_22 : decode cL_isCushion 22 = .ok (.iconst 0, 1) := by decide +kernel
theorem dL_isCushion_23 : decode cL_isCushion 23 = .ok (.ireturn, 1) := by decide +kernel
theorem dL_hasCat_0 : decode cL_hasCat 0 = .ok (.aload_n 2, 1) := by decide +kernel
theorem dL_hasCat_1 : decode cL_hasCat 1 = .ok (.iconst 0, 1) := by decide +kernel
theorem dL_hasCat_2 : decode cL_hasCat 2 = .ok (.aload_n 0, 1) := by decide +kernel
theorem dL_hasCat_3 : decode cL_hasCat 3 = .ok (.iload_n 1, 1) := by decide +kernel
theorem dL_hasCat_4 : decode cL_hasCat 4 = .ok (.invokevirtual 46, 3) := by decide +kernel
theorem dL_hasCat_7 : decode cL_hasCat 7 = .ok (.ifCond .eq 7, 3) := by decide +kernel
theorem dL_hasCat_10 : decode cL_hasCat 10 = .ok (.lconst 1, 1) := by decide +kernel
theorem dL_hasCat_11 : decode cL_hasCat 11 = .ok (.goto 4, 3) := by decide +kernel
theorem dL_hasCat_14 : decode cL_hasCat 14 = .ok (.lconst 0, 1) := by decide +kernel
theorem dL_hasCat_15 : decode cL_hasCat 15 = .ok (.lastore, 1) := by decide +kernel
theorem dL_hasCat_16 : decode cL_hasCat 16 = .ok (.goto 6, 3) := by decide +kernel
theorem dL_hasCat_19 : decode cL_hasCat 19 = .ok (.astore_n 3, 1) := by decide +kernel
theorem dL_hasCat_20 : decode cL_hasCat 20 = .ok (.iconst 1, 1) := by decide +kernel
theorem dL_hasCat_21 : decode cL_hasCat 21 = .ok (.ireturn, 1) := by decide +kernel
theorem dL_hasCat_22 : decode cL_hasCat 22 = .ok (.iconst 0, 1) := by decide +kernel
theorem dL_hasCat_23 : decode cL_hasCat 23 = .ok (.ireturn, 1) := by decide +kernel
theorem dL_areLinked_0 : decode cL_areLinked 0 = .ok (.aload_n 3, 1) := by decide +kernel
theorem dL_areLinked_1 : decode cL_areLinked 1 = .ok (.iconst 0, 1) := by decide +kernel
theorem dL_areLinked_2 : decode cL_areLinked 2 = .ok (.aload_n 0, 1) := by decide +kernel
theorem dL_areLinked_3 : decode cL_areLinked 3 = .ok (.iload_n 1, 1) := by decide +kernel
theorem dL_areLinked_4 : decode cL_areLinked 4 = .ok (.iload_n 2, 1) := by decide +kernel
theorem dL_areLinked_5 : decode cL_areLinked 5 = .ok (.invokevirtual 49, 3) := by decide +kernel
theorem dL_areLinked_8 : decode cL_areLinked 8 = .ok (.ifCond .eq 7, 3) := by decide +kernel
theorem dL_areLinked_11 : decode cL_areLinked 11 = .ok (.lconst 1, 1) := by decide +kernel
theorem dL_areLinked_12 : decode cL_areLinked 12 = .ok (.goto 4, 3) := by decide +kernel
theorem dL_areLinked_15 : decode cL_areLinked 15 = .ok (.lconst 0, 1) := by decide +kernel
theorem dL_areLinked_16 : decode cL_areLinked 16 = .ok (.lastore, 1) := by decide +kernel
theorem dL_areLinked_17 : decode cL_areLinked 17 = .ok (.goto 7, 3) := by decide +kernel
theorem dL_areLinked_20 : decode cL_areLinked 20 = .ok (.astore 4, 2) := by decide +kernel
theorem dL_areLinked_22 : decode cL_areLinked 22 = .ok (.iconst 1, 1) := by decide +kernel
theorem dL_areLinked_23 : decode cL_areLinked 23 = .ok (.ireturn, 1) := by decide +kernel
theorem dL_areLinked_24 : decode cL_areLinked 24 = .ok (.iconst 0, 1) := by decide +kernel
theorem dL_areLinked_25 : decode cL_areLinked 25 = .ok (.ireturn, 1) := by decide +kernel
theorem dL_degree_0 : decode cL_degree 0 = .ok (.aload_n 2, 1) := by decide +kernel
theorem dL_degree_1 : decode cL_degree 1 = .ok (.iconst 0, 1) := by decide +kernel
theorem dL_degree_2 : decode cL_degree 2 = .ok (.aload_n 0, 1) := by decide +kernel
theorem dL_degree_3 : decode cL_degree 3 = .ok (.iload_n 1, 1) := by decide +kernel
theorem dL_degree_4 : decode cL_degree 4 = .ok (.invokevirtual 53, 3) := by decide +kernel
theorem dL_degree_7 : decode cL_degree 7 = .ok (.i2l, 1) := by decide +kernel
theorem dL_degree_8 : decode cL_degree 8 = .ok (.lastore, 1) := by decide +kernel
theorem dL_degree_9 : decode cL_degree 9 = .ok (.goto 6, 3) := by decide +kernel
theorem dL_degree_12 : decode cL_degree 12 = .ok (.astore_n 3, 1) := by decide +kernel
theorem dL_degree_13 : decode cL_degree 13 = .ok (.iconst 1, 1) := by decide +kernel
theorem dL_degree_14 : decode cL_degree 14 = .ok (.ireturn, 1) := by decide +kernel
theorem dL_degree_15 : decode cL_degree 15 = .ok (.iconst 0, 1) := by decide +kernel
theorem dL_degree_16 : decode cL_degree 16 = .ok (.ireturn, 1) := by decide +kernel
theorem dL_trainIn_0 : decode cL_trainIn 0 = .ok (.aload_n 2, 1) := by decide +kernel
theorem dL_trainIn_1 : decode cL_trainIn 1 = .ok (.iconst 0, 1) := by decide +kernel
theorem dL_trainIn_2 : decode cL_trainIn 2 = .ok (.aload_n 0, 1) := by decide +kernel
theorem dL_trainIn_3 : decode cL_trainIn 3 = .ok (.iload_n 1, 1) := by decide +kernel
theorem dL_trainIn_4 : decode cL_trainIn 4 = .ok (.invokevirtual 56, 3) := by decide +kernel
theorem dL_trainIn_7 : decode cL_trainIn 7 = .ok (.i2l, 1) := by decide +kernel
theorem dL_trainIn_8 : decode cL_trainIn 8 = .ok (.lastore, 1) := by decide +kernel
theorem dL_trainIn_9 : decode cL_trainIn 9 = .ok (.goto 9, 3) := by decide +kernel
theorem dL_trainIn_12 : decode cL_trainIn 12 = .ok (.astore_n 3, 1) := by decide +kernel
theorem dL_trainIn_13 : decode cL_trainIn 13 = .ok (.iconst 1, 1) := by decide +kernel
theorem dL_trainIn_14 : decode cL_trainIn 14 = .ok (.ireturn, 1) := by decide +kernel
theorem dL_trainIn_15 : decode cL_trainIn 15 = .ok (.astore_n 3, 1) := by decide +kernel
theorem dL_trainIn_16 : decode cL_trainIn 16 = .ok (.iconst 2, 1) := by decide +kernel
theorem dL_trainIn_17 : decode cL_trainIn 17 = .ok (.ireturn, 1) := by decide +kernel
theorem dL_trainIn_18 : decode cL_trainIn 18 = .ok (.iconst 0, 1) := by decide +kernel
theorem dL_trainIn_19 : decode cL_trainIn 19 = .ok (.ireturn, 1) := by decide +kernel
theorem dL_reservedBy_0 : decode cL_reservedBy 0 = .ok (.aload_n 2, 1) := by decide +kernel
theorem dL_reservedBy_1 : decode cL_reservedBy 1 = .ok (.iconst 0, 1) := by decide +kernel
theorem dL_reservedBy_2 : decode cL_reservedBy 2 = .ok (.aload_n 0, 1) := by decide +kernel
theorem dL_reservedBy_3 : decode cL_reservedBy 3 = .ok (.iload_n 1, 1) := by decide +kernel
theorem dL_reservedBy_4 : decode cL_reservedBy 4 = .ok (.invokevirtual 59, 3) := by decide +kernel
theorem dL_reservedBy_7 : decode cL_reservedBy 7 = .ok (.i2l, 1) := by decide +kernel
theorem dL_reservedBy_8 : decode cL_reservedBy 8 = .ok (.lastore, 1) := by decide +kernel
theorem dL_reservedBy_9 : decode cL_reservedBy 9 = .ok (.goto 9, 3) := by decide +kernel
theorem dL_reservedBy_12 : decode cL_reservedBy 12 = .ok (.astore_n 3, 1) := by decide +kernel
theorem dL_reservedBy_13 : decode cL_reservedBy 13 = .ok (.iconst 1, 1) := by decide +kernel
theorem dL_reservedBy_14 : decode cL_reservedBy 14 = .ok (.ireturn, 1) := by decide +kernel
theorem dL_reservedBy_15 : decode cL_reservedBy 15 = .ok (.astore_n 3, 1) := by decide +kernel
theorem dL_reservedBy_16 : decode cL_reservedBy 16 = .ok (.iconst 2, 1) := by decide +kernel
theorem dL_reservedBy_17 : decode cL_reservedBy 17 = .ok (.ireturn, 1) := by decide +kernel
theorem dL_reservedBy_18 : decode cL_reservedBy 18 = .ok (.iconst 0, 1) := by decide +kernel
theorem dL_reservedBy_19 : decode cL_reservedBy 19 = .ok (.ireturn, 1) := by decide +kernel
theorem dL_signal_0 : decode cL_signal 0 = .ok (.aload_n 2, 1) := by decide +kernel
theorem dL_signal_1 : decode cL_signal 1 = .ok (.iconst 0, 1) := by decide +kernel
theorem dL_signal_2 : decode cL_signal 2 = .ok (.aload_n 0, 1) := by decide +kernel
theorem dL_signal_3 : decode cL_signal 3 = .ok (.iload_n 1, 1) := by decide +kernel
theorem dL_signal_4 : decode cL_signal 4 = .ok (.invokevirtual 62, 3) := by decide +kernel
theorem dL_signal_7 : decode cL_signal 7 = .ok (.i2l, 1) := by decide +kernel
theorem dL_signal_8 : decode cL_signal 8 = .ok (.lastore, 1) := by decide +kernel
theorem dL_signal_9 : decode cL_signal 9 = .ok (.goto 6, 3) := by decide +kernel
theorem dL_signal_12 : decode cL_signal 12 = .ok (.astore_n 3, 1) := by decide +kernel
theorem dL_signal_13 : decode cL_signal 13 = .ok (.iconst 1, 1) := by decide +kernel
theorem dL_signal_14 : decode cL_signal 14 = .ok (.ireturn, 1) := by decide +kernel
theorem dL_signal_15 : decode cL_signal 15 = .ok (.iconst 0, 1) := by decide +kernel
theorem dL_signal_16 : decode cL_signal 16 = .ok (.ireturn, 1) := by decide +kernel
theorem dL_distance_0 : decode cL_distance 0 = .ok (.aload_n 3, 1) := by decide +kernel
theorem dL_distance_1 : decode cL_distance 1 = .ok (.iconst 0, 1) := by decide +kernel
theorem dL_distance_2 : decode cL_distance 2 = .ok (.aload_n 0, 1) := by decide +kernel
theorem dL_distance_3 : decode cL_distance 3 = .ok (.iload_n 1, 1) := by decide +kernel
theorem dL_distance_4 : decode cL_distance 4 = .ok (.iload_n 2, 1) := by decide +kernel
theorem dL_distance_5 : decode cL_distance 5 = .ok (.invokevirtual 66, 3) := by decide +kernel
theorem dL_distance_8 : decode cL_distance 8 = .ok (.i2l, 1) := by decide +kernel
theorem dL_distance_9 : decode cL_distance 9 = .ok (.lastore, 1) := by decide +kernel
theorem dL_distance_10 : decode cL_distance 10 = .ok (.goto 11, 3) := by decide +kernel
theorem dL_distance_13 : decode cL_distance 13 = .ok (.astore 4, 2) := by decide +kernel
theorem dL_distance_15 : decode cL_distance 15 = .ok (.iconst 1, 1) := by decide +kernel
theorem dL_distance_16 : decode cL_distance 16 = .ok (.ireturn, 1) := by decide +kernel
theorem dL_distance_17 : decode cL_distance 17 = .ok (.astore 4, 2) := by decide +kernel
theorem dL_distance_19 : decode cL_distance 19 = .ok (.iconst 2, 1) := by decide +kernel
theorem dL_distance_20 : decode cL_distance 20 = .ok (.ireturn, 1) := by decide +kernel
theorem dL_distance_21 : decode cL_distance 21 = .ok (.iconst 0, 1) := by decide +kernel
theorem dL_distance_22 : decode cL_distance 22 = .ok (.ireturn, 1) := by decide +kernel
theorem dL_distanceByRounds_0 : decode cL_distanceByRounds 0 = .ok (.aload_n 3, 1) := by decide +kernel
theorem dL_distanceByRounds_1 : decode cL_distanceByRounds 1 = .ok (.iconst 0, 1) := by decide +kernel
theorem dL_distanceByRounds_2 : decode cL_distanceByRounds 2 = .ok (.aload_n 0, 1) := by decide +kernel
theorem dL_distanceByRounds_3 : decode cL_distanceByRounds 3 = .ok (.iload_n 1, 1) := by decide +kernel
theorem dL_distanceByRounds_4 : decode cL_distanceByRounds 4 = .ok (.iload_n 2, 1) := by decide +kernel
theorem dL_distanceByRounds_5 : decode cL_distanceByRounds 5 = .ok (.invokevirtual 69, 3) := by decide +kernel
theorem dL_distanceByRounds_8 : decode cL_distanceByRounds 8 = .ok (.i2l, 1) := by decide +kernel
theorem dL_distanceByRounds_9 : decode cL_distanceByRounds 9 = .ok (.lastore, 1) := by decide +kernel
theorem dL_distanceByRounds_10 : decode cL_distanceByRounds 10 = .ok (.goto 11, 3) := by decide +kernel
theorem dL_distanceByRounds_13 : decode cL_distanceByRounds 13 = .ok (.astore 4, 2) := by decide +kernel
theorem dL_distanceByRounds_15 : decode cL_distanceByRounds 15 = .ok (.iconst 1, 1) := by decide +kernel
theorem dL_distanceByRounds_16 : decode cL_distanceByRounds 16 = .ok (.ireturn, 1) := by decide +kernel
theorem dL_distanceByRounds_17 : decode cL_distanceByRounds 17 = .ok (.astore 4, 2) := by decide +kernel
theorem dL_distanceByRounds_19 : decode cL_distanceByRounds 19 = .ok (.iconst 2, 1) := by decide +kernel
theorem dL_distanceByRounds_20 : decode cL_distanceByRounds 20 = .ok (.ireturn, 1) := by decide +kernel
theorem dL_distanceByRounds_21 : decode cL_distanceByRounds 21 = .ok (.iconst 0, 1) := by decide +kernel
theorem dL_distanceByRounds_22 : decode cL_distanceByRounds 22 = .ok (.ireturn, 1) := by decide +kernel
theorem dL_nextBlock_0 : decode cL_nextBlock 0 = .ok (.aload_n 2, 1) := by decide +kernel
theorem dL_nextBlock_1 : decode cL_nextBlock 1 = .ok (.iconst 0, 1) := by decide +kernel
theorem dL_nextBlock_2 : decode cL_nextBlock 2 = .ok (.aload_n 0, 1) := by decide +kernel
theorem dL_nextBlock_3 : decode cL_nextBlock 3 = .ok (.iload_n 1, 1) := by decide +kernel
theorem dL_nextBlock_4 : decode cL_nextBlock 4 = .ok (.invokevirtual 72, 3) := by decide +kernel
theorem dL_nextBlock_7 : decode cL_nextBlock 7 = .ok (.i2l, 1) := by decide +kernel
theorem dL_nextBlock_8 : decode cL_nextBlock 8 = .ok (.lastore, 1) := by decide +kernel
theorem dL_nextBlock_9 : decode cL_nextBlock 9 = .ok (.goto 9, 3) := by decide +kernel
theorem dL_nextBlock_12 : decode cL_nextBlock 12 = .ok (.astore_n 3, 1) := by decide +kernel
theorem dL_nextBlock_13 : decode cL_nextBlock 13 = .ok (.iconst 1, 1) := by decide +kernel
theorem dL_nextBlock_14 : decode cL_nextBlock 14 = .ok (.ireturn, 1) := by decide +kernel
theorem dL_nextBlock_15 : decode cL_nextBlock 15 = .ok (.astore_n 3, 1) := by decide +kernel
theorem dL_nextBlock_16 : decode cL_nextBlock 16 = .ok (.iconst 2, 1) := by decide +kernel
theorem dL_nextBlock_17 : decode cL_nextBlock 17 = .ok (.ireturn, 1) := by decide +kernel
theorem dL_nextBlock_18 : decode cL_nextBlock 18 = .ok (.iconst 0, 1) := by decide +kernel
theorem dL_nextBlock_19 : decode cL_nextBlock 19 = .ok (.ireturn, 1) := by decide +kernel
theorem dL_nearestCushion_0 : decode cL_nearestCushion 0 = .ok (.aload_n 2, 1) := by decide +kernel
theorem dL_nearestCushion_1 : decode cL_nearestCushion 1 = .ok (.iconst 0, 1) := by decide +kernel
theorem dL_nearestCushion_2 : decode cL_nearestCushion 2 = .ok (.aload_n 0, 1) := by decide +kernel
theorem dL_nearestCushion_3 : decode cL_nearestCushion 3 = .ok (.iload_n 1, 1) := by decide +kernel
theorem dL_nearestCushion_4 : decode cL_nearestCushion 4 = .ok (.invokevirtual 75, 3) := by decide +kernel
theorem dL_nearestCushion_7 : decode cL_nearestCushion 7 = .ok (.i2l, 1) := by decide +kernel
theorem dL_nearestCushion_8 : decode cL_nearestCushion 8 = .ok (.lastore, 1) := by decide +kernel
theorem dL_nearestCushion_9 : decode cL_nearestCushion 9 = .ok (.goto 9, 3) := by decide +kernel
theorem dL_nearestCushion_12 : decode cL_nearestCushion 12 = .ok (.astore_n 3, 1) := by decide +kernel
theorem dL_nearestCushion_13 : decode cL_nearestCushion 13 = .ok (.iconst 1, 1) := by decide +kernel
theorem dL_nearestCushion_14 : decode cL_nearestCushion 14 = .ok (.ireturn, 1) := by decide +kernel
theorem dL_nearestCushion_15 : decode cL_nearestCushion 15 = .ok (.astore_n 3, 1) := by decide +kernel
theorem dL_nearestCushion_16 : decode cL_nearestCushion 16 = .ok (.iconst 2, 1) := by decide +kernel
theorem dL_nearestCushion_17 : decode cL_nearestCushion 17 = .ok (.ireturn, 1) := by decide +kernel
theorem dL_nearestCushion_18 : decode cL_nearestCushion 18 = .ok (.iconst 0, 1) := by decide +kernel
theorem dL_nearestCushion_19 : decode cL_nearestCushion 19 = .ok (.ireturn, 1) := by decide +kernel
theorem dL_addTrain_0 : decode cL_addTrain 0 = .ok (.aload_n 3, 1) := by decide +kernel
theorem dL_addTrain_1 : decode cL_addTrain 1 = .ok (.iconst 0, 1) := by decide +kernel
theorem dL_addTrain_2 : decode cL_addTrain 2 = .ok (.aload_n 0, 1) := by decide +kernel
theorem dL_addTrain_3 : decode cL_addTrain 3 = .ok (.iload_n 1, 1) := by decide +kernel
theorem dL_addTrain_4 : decode cL_addTrain 4 = .ok (.iload_n 2, 1) := by decide +kernel
theorem dL_addTrain_5 : decode cL_addTrain 5 = .ok (.invokevirtual 78, 3) := by decide +kernel
theorem dL_addTrain_8 : decode cL_addTrain 8 = .ok (.i2l, 1) := by decide +kernel
theorem dL_addTrain_9 : decode cL_addTrain 9 = .ok (.lastore, 1) := by decide +kernel
theorem dL_addTrain_10 : decode cL_addTrain 10 = .ok (.goto 19, 3) := by decide +kernel
theorem dL_addTrain_13 : decode cL_addTrain 13 = .ok (.astore 4, 2) := by decide +kernel
theorem dL_addTrain_15 : decode cL_addTrain 15 = .ok (.iconst 1, 1) := by decide +kernel
theorem dL_addTrain_16 : decode cL_addTrain 16 = .ok (.ireturn, 1) := by decide +kernel
theorem dL_addTrain_17 : decode cL_addTrain 17 = .ok (.astore 4, 2) := by decide +kernel
theorem dL_addTrain_19 : decode cL_addTrain 19 = .ok (.iconst 2, 1) := by decide +kernel
theorem dL_addTrain_20 : decode cL_addTrain 20 = .ok (.ireturn, 1) := by decide +kernel
theorem dL_addTrain_21 : decode cL_addTrain 21 = .ok (.astore 4, 2) := by decide +kernel
theorem dL_addTrain_23 : decode cL_addTrain 23 = .ok (.iconst 3, 1) := by decide +kernel
theorem dL_addTrain_24 : decode cL_addTrain 24 = .ok (.ireturn, 1) := by decide +kernel
theorem dL_addTrain_25 : decode cL_addTrain 25 = .ok (.astore 4, 2) := by decide +kernel
theorem dL_addTrain_27 : decode cL_addTrain 27 = .ok (.iconst 4, 1) := by decide +kernel
theorem dL_addTrain_28 : decode cL_addTrain 28 = .ok (.ireturn, 1) := by decide +kernel
theorem dL_addTrain_29 : decode cL_addTrain 29 = .ok (.iconst 0, 1) := by decide +kernel
theorem dL_addTrain_30 : decode cL_addTrain 30 = .ok (.ireturn, 1) := by decide +kernel
theorem dL_setGoal_0 : decode cL_setGoal 0 = .ok (.aload_n 3, 1) := by decide +kernel
theorem dL_setGoal_1 : decode cL_setGoal 1 = .ok (.iconst 0, 1) := by decide +kernel
theorem dL_setGoal_2 : decode cL_setGoal 2 = .ok (.aload_n 0, 1) := by decide +kernel
theorem dL_setGoal_3 : decode cL_setGoal 3 = .ok (.iload_n 1, 1) := by decide +kernel
theorem dL_setGoal_4 : decode cL_setGoal 4 = .ok (.iload_n 2, 1) := by decide +kernel
theorem dL_setGoal_5 : decode cL_setGoal 5 = .ok (.invokevirtual 81, 3) := by decide +kernel
theorem dL_setGoal_8 : decode cL_setGoal 8 = .ok (.i2l, 1) := by decide +kernel
theorem dL_setGoal_9 : decode cL_setGoal 9 = .ok (.lastore, 1) := by decide +kernel
theorem dL_setGoal_10 : decode cL_setGoal 10 = .ok (.goto 19, 3) := by decide +kernel
theorem dL_setGoal_13 : decode cL_setGoal 13 = .ok (.astore 4, 2) := by decide +kernel
theorem dL_setGoal_15 : decode cL_setGoal 15 = .ok (.iconst 1, 1) := by decide +kernel
theorem dL_setGoal_16 : decode cL_setGoal 16 = .ok (.ireturn, 1) := by decide +kernel
theorem dL_setGoal_17 : decode cL_setGoal 17 = .ok (.astore 4, 2) := by decide +kernel
theorem dL_setGoal_19 : decode cL_setGoal 19 = .ok (.iconst 2, 1) := by decide +kernel
theorem dL_setGoal_20 : decode cL_setGoal 20 = .ok (.ireturn, 1) := by decide +kernel
theorem dL_setGoal_21 : decode cL_setGoal 21 = .ok (.astore 4, 2) := by decide +kernel
theorem dL_setGoal_23 : decode cL_setGoal 23 = .ok (.iconst 3, 1) := by decide +kernel
theorem dL_setGoal_24 : decode cL_setGoal 24 = .ok (.ireturn, 1) := by decide +kernel
theorem dL_setGoal_25 : decode cL_setGoal 25 = .ok (.astore 4, 2) := by decide +kernel
theorem dL_setGoal_27 : decode cL_setGoal 27 = .ok (.iconst 4, 1) := by decide +kernel
theorem dL_setGoal_28 : decode cL_setGoal 28 = .ok (.ireturn, 1) := by decide +kernel
theorem dL_setGoal_29 : decode cL_setGoal 29 = .ok (.iconst 0, 1) := by decide +kernel
theorem dL_setGoal_30 : decode cL_setGoal 30 = .ok (.ireturn, 1) := by decide +kernel
theorem dL_clearGoal_0 : decode cL_clearGoal 0 = .ok (.aload_n 2, 1) := by decide +kernel
theorem dL_clearGoal_1 : decode cL_clearGoal 1 = .ok (.iconst 0, 1) := by decide +kernel
theorem dL_clearGoal_2 : decode cL_clearGoal 2 = .ok (.aload_n 0, 1) := by decide +kernel
theorem dL_clearGoal_3 : decode cL_clearGoal 3 = .ok (.iload_n 1, 1) := by decide +kernel
theorem dL_clearGoal_4 : decode cL_clearGoal 4 = .ok (.invokevirtual 84, 3) := by decide +kernel
theorem dL_clearGoal_7 : decode cL_clearGoal 7 = .ok (.i2l, 1) := by decide +kernel
theorem dL_clearGoal_8 : decode cL_clearGoal 8 = .ok (.lastore, 1) := by decide +kernel
theorem dL_clearGoal_9 : decode cL_clearGoal 9 = .ok (.goto 9, 3) := by decide +kernel
theorem dL_clearGoal_12 : decode cL_clearGoal 12 = .ok (.astore_n 3, 1) := by decide +kernel
theorem dL_clearGoal_13 : decode cL_clearGoal 13 = .ok (.iconst 1, 1) := by decide +kernel
theorem dL_clearGoal_14 : decode cL_clearGoal 14 = .ok (.ireturn, 1) := by decide +kernel
theorem dL_clearGoal_15 : decode cL_clearGoal 15 = .ok (.astore_n 3, 1) := by decide +kernel
theorem dL_clearGoal_16 : decode cL_clearGoal 16 = .ok (.iconst 2, 1) := by decide +kernel
theorem dL_clearGoal_17 : decode cL_clearGoal 17 = .ok (.ireturn, 1) := by decide +kernel
theorem dL_clearGoal_18 : decode cL_clearGoal 18 = .ok (.iconst 0, 1) := by decide +kernel
theorem dL_clearGoal_19 : decode cL_clearGoal 19 = .ok (.ireturn, 1) := by decide +kernel
theorem dL_reserve_0 : decode cL_reserve 0 = .ok (.aload_n 3, 1) := by decide +kernel
theorem dL_reserve_1 : decode cL_reserve 1 = .ok (.iconst 0, 1) := by decide +kernel
theorem dL_reserve_2 : decode cL_reserve 2 = .ok (.aload_n 0, 1) := by decide +kernel
theorem dL_reserve_3 : decode cL_reserve 3 = .ok (.iload_n 1, 1) := by decide +kernel
theorem dL_reserve_4 : decode cL_reserve 4 = .ok (.iload_n 2, 1) := by decide +kernel
theorem dL_reserve_5 : decode cL_reserve 5 = .ok (.invokevirtual 87, 3) := by decide +kernel
theorem dL_reserve_8 : decode cL_reserve 8 = .ok (.i2l, 1) := by decide +kernel
theorem dL_reserve_9 : decode cL_reserve 9 = .ok (.lastore, 1) := by decide +kernel
theorem dL_reserve_10 : decode cL_reserve 10 = .ok (.goto 19, 3) := by decide +kernel
theorem dL_reserve_13 : decode cL_reserve 13 = .ok (.astore 4, 2) := by decide +kernel
theorem dL_reserve_15 : decode cL_reserve 15 = .ok (.iconst 1, 1) := by decide +kernel
theorem dL_reserve_16 : decode cL_reserve 16 = .ok (.ireturn, 1) := by decide +kernel
theorem dL_reserve_17 : decode cL_reserve 17 = .ok (.astore 4, 2) := by decide +kernel
theorem dL_reserve_19 : decode cL_reserve 19 = .ok (.iconst 2, 1) := by decide +kernel
theorem dL_reserve_20 : decode cL_reserve 20 = .ok (.ireturn, 1) := by decide +kernel
theorem dL_reserve_21 : decode cL_reserve 21 = .ok (.astore 4, 2) := by decide +kernel
theorem dL_reserve_23 : decode cL_reserve 23 = .ok (.iconst 3, 1) := by decide +kernel
theorem dL_reserve_24 : decode cL_reserve 24 = .ok (.ireturn, 1) := by decide +kernel
theorem dL_reserve_25 : decode cL_reserve 25 = .ok (.astore 4, 2) := by decide +kernel
theorem dL_reserve_27 : decode cL_reserve 27 = .ok (.iconst 4, 1) := by decide +kernel
theorem dL_reserve_28 : decode cL_reserve 28 = .ok (.ireturn, 1) := by decide +kernel
theorem dL_reserve_29 : decode cL_reserve 29 = .ok (.iconst 0, 1) := by decide +kernel
theorem dL_reserve_30 : decode cL_reserve 30 = .ok (.ireturn, 1) := by decide +kernel
theorem dL_cancelReservation_0 : decode cL_cancelReservation 0 = .ok (.aload_n 2, 1) := by decide +kernel
theorem dL_cancelReservation_1 : decode cL_cancelReservation 1 = .ok (.iconst 0, 1) := by decide +kernel
theorem dL_cancelReservation_2 : decode cL_cancelReservation 2 = .ok (.aload_n 0, 1) := by decide +kernel
theorem dL_cancelReservation_3 : decode cL_cancelReservation 3 = .ok (.iload_n 1, 1) := by decide +kernel
theorem dL_cancelReservation_4 : decode cL_cancelReservation 4 = .ok (.invokevirtual 90, 3) := by decide +kernel
theorem dL_cancelReservation_7 : decode cL_cancelReservation 7 = .ok (.i2l, 1) := by decide +kernel
theorem dL_cancelReservation_8 : decode cL_cancelReservation 8 = .ok (.lastore, 1) := by decide +kernel
theorem dL_cancelReservation_9 : decode cL_cancelReservation 9 = .ok (.goto 9, 3) := by decide +kernel
theorem dL_cancelReservation_12 : decode cL_cancelReservation 12 = .ok (.astore_n 3, 1) := by decide +kernel
theorem dL_cancelReservation_13 : decode cL_cancelReservation 13 = .ok (.iconst 1, 1) := by decide +kernel
theorem dL_cancelReservation_14 : decode cL_cancelReservation 14 = .ok (.ireturn, 1) := by decide +kernel
theorem dL_cancelReservation_15 : decode cL_cancelReservation 15 = .ok (.astore_n 3, 1) := by decide +kernel
theorem dL_cancelReservation_16 : decode cL_cancelReservation 16 = .ok (.iconst 2, 1) := by decide +kernel
theorem dL_cancelReservation_17 : decode cL_cancelReservation 17 = .ok (.ireturn, 1) := by decide +kernel
theorem dL_cancelReservation_18 : decode cL_cancelReservation 18 = .ok (.iconst 0, 1) := by decide +kernel
theorem dL_cancelReservation_19 : decode cL_cancelReservation 19 = .ok (.ireturn, 1) := by decide +kernel
theorem dL_rescue_0 : decode cL_rescue 0 = .ok (.aload_n 2, 1) := by decide +kernel
theorem dL_rescue_1 : decode cL_rescue 1 = .ok (.iconst 0, 1) := by decide +kernel
theorem dL_rescue_2 : decode cL_rescue 2 = .ok (.aload_n 0, 1) := by decide +kernel
theorem dL_rescue_3 : decode cL_rescue 3 = .ok (.iload_n 1, 1) := by decide +kernel
theorem dL_rescue_4 : decode cL_rescue 4 = .ok (.invokevirtual 93, 3) := by decide +kernel
theorem dL_rescue_7 : decode cL_rescue 7 = .ok (.i2l, 1) := by decide +kernel
theorem dL_rescue_8 : decode cL_rescue 8 = .ok (.lastore, 1) := by decide +kernel
theorem dL_rescue_9 : decode cL_rescue 9 = .ok (.goto 9, 3) := by decide +kernel
theorem dL_rescue_12 : decode cL_rescue 12 = .ok (.astore_n 3, 1) := by decide +kernel
theorem dL_rescue_13 : decode cL_rescue 13 = .ok (.iconst 1, 1) := by decide +kernel
theorem dL_rescue_14 : decode cL_rescue 14 = .ok (.ireturn, 1) := by decide +kernel
theorem dL_rescue_15 : decode cL_rescue 15 = .ok (.astore_n 3, 1) := by decide +kernel
theorem dL_rescue_16 : decode cL_rescue 16 = .ok (.iconst 2, 1) := by decide +kernel
theorem dL_rescue_17 : decode cL_rescue 17 = .ok (.ireturn, 1) := by decide +kernel
theorem dL_rescue_18 : decode cL_rescue 18 = .ok (.iconst 0, 1) := by decide +kernel
theorem dL_rescue_19 : decode cL_rescue 19 = .ok (.ireturn, 1) := by decide +kernel
theorem dL_blockOf_0 : decode cL_blockOf 0 = .ok (.aload_n 2, 1) := by decide +kernel
theorem dL_blockOf_1 : decode cL_blockOf 1 = .ok (.iconst 0, 1) := by decide +kernel
theorem dL_blockOf_2 : decode cL_blockOf 2 = .ok (.aload_n 0, 1) := by decide +kernel
theorem dL_blockOf_3 : decode cL_blockOf 3 = .ok (.iload_n 1, 1) := by decide +kernel
theorem dL_blockOf_4 : decode cL_blockOf 4 = .ok (.invokevirtual 96, 3) := by decide +kernel
theorem dL_blockOf_7 : decode cL_blockOf 7 = .ok (.i2l, 1) := by decide +kernel
theorem dL_blockOf_8 : decode cL_blockOf 8 = .ok (.lastore, 1) := by decide +kernel
theorem dL_blockOf_9 : decode cL_blockOf 9 = .ok (.goto 6, 3) := by decide +kernel
theorem dL_blockOf_12 : decode cL_blockOf 12 = .ok (.astore_n 3, 1) := by decide +kernel
theorem dL_blockOf_13 : decode cL_blockOf 13 = .ok (.iconst 1, 1) := by decide +kernel
theorem dL_blockOf_14 : decode cL_blockOf 14 = .ok (.ireturn, 1) := by decide +kernel
theorem dL_blockOf_15 : decode cL_blockOf 15 = .ok (.iconst 0, 1) := by decide +kernel
theorem dL_blockOf_16 : decode cL_blockOf 16 = .ok (.ireturn, 1) := by decide +kernel
theorem dL_priority_0 : decode cL_priority 0 = .ok (.aload_n 2, 1) := by decide +kernel
theorem dL_priority_1 : decode cL_priority 1 = .ok (.iconst 0, 1) := by decide +kernel
theorem dL_priority_2 : decode cL_priority 2 = .ok (.aload_n 0, 1) := by decide +kernel
theorem dL_priority_3 : decode cL_priority 3 = .ok (.iload_n 1, 1) := by decide +kernel
theorem dL_priority_4 : decode cL_priority 4 = .ok (.invokevirtual 99, 3) := by decide +kernel
theorem dL_priority_7 : decode cL_priority 7 = .ok (.i2l, 1) := by decide +kernel
theorem dL_priority_8 : decode cL_priority 8 = .ok (.lastore, 1) := by decide +kernel
theorem dL_priority_9 : decode cL_priority 9 = .ok (.goto 6, 3) := by decide +kernel
theorem dL_priority_12 : decode cL_priority 12 = .ok (.astore_n 3, 1) := by decide +kernel
theorem dL_priority_13 : decode cL_priority 13 = .ok (.iconst 1, 1) := by decide +kernel
theorem dL_priority_14 : decode cL_priority 14 = .ok (.ireturn, 1) := by decide +kernel
theorem dL_priority_15 : decode cL_priority 15 = .ok (.iconst 0, 1) := by decide +kernel
theorem dL_priority_16 : decode cL_priority 16 = .ok (.ireturn, 1) := by decide +kernel
theorem dL_remainingTicks_0 : decode cL_remainingTicks 0 = .ok (.aload_n 2, 1) := by decide +kernel
theorem dL_remainingTicks_1 : decode cL_remainingTicks 1 = .ok (.iconst 0, 1) := by decide +kernel
theorem dL_remainingTicks_2 : decode cL_remainingTicks 2 = .ok (.aload_n 0, 1) := by decide +kernel
theorem dL_remainingTicks_3 : decode cL_remainingTicks 3 = .ok (.iload_n 1, 1) := by decide +kernel
theorem dL_remainingTicks_4 : decode cL_remainingTicks 4 = .ok (.invokevirtual 102, 3) := by decide +kernel
theorem dL_remainingTicks_7 : decode cL_remainingTicks 7 = .ok (.i2l, 1) := by decide +kernel
theorem dL_remainingTicks_8 : decode cL_remainingTicks 8 = .ok (.lastore, 1) := by decide +kernel
theorem dL_remainingTicks_9 : decode cL_remainingTicks 9 = .ok (.goto 6, 3) := by decide +kernel
theorem dL_remainingTicks_12 : decode cL_remainingTicks 12 = .ok (.astore_n 3, 1) := by decide +kernel
theorem dL_remainingTicks_13 : decode cL_remainingTicks 13 = .ok (.iconst 1, 1) := by decide +kernel
theorem dL_remainingTicks_14 : decode cL_remainingTicks 14 = .ok (.ireturn, 1) := by decide +kernel
theorem dL_remainingTicks_15 : decode cL_remainingTicks 15 = .ok (.iconst 0, 1) := by decide +kernel
theorem dL_remainingTicks_16 : decode cL_remainingTicks 16 = .ok (.ireturn, 1) := by decide +kernel
theorem dL_goal_0 : decode cL_goal 0 = .ok (.aload_n 2, 1) := by decide +kernel
theorem dL_goal_1 : decode cL_goal 1 = .ok (.iconst 0, 1) := by decide +kernel
theorem dL_goal_2 : decode cL_goal 2 = .ok (.aload_n 0, 1) := by decide +kernel
theorem dL_goal_3 : decode cL_goal 3 = .ok (.iload_n 1, 1) := by decide +kernel
theorem dL_goal_4 : decode cL_goal 4 = .ok (.invokevirtual 105, 3) := by decide +kernel
theorem dL_goal_7 : decode cL_goal 7 = .ok (.i2l, 1) := by decide +kernel
theorem dL_goal_8 : decode cL_goal 8 = .ok (.lastore, 1) := by decide +kernel
theorem dL_goal_9 : decode cL_goal 9 = .ok (.goto 9, 3) := by decide +kernel
theorem dL_goal_12 : decode cL_goal 12 = .ok (.astore_n 3, 1) := by decide +kernel
theorem dL_goal_13 : decode cL_goal 13 = .ok (.iconst 1, 1) := by decide +kernel
theorem dL_goal_14 : decode cL_goal 14 = .ok (.ireturn, 1) := by decide +kernel
theorem dL_goal_15 : decode cL_goal 15 = .ok (.astore_n 3, 1) := by decide +kernel
theorem dL_goal_16 : decode cL_goal 16 = .ok (.iconst 2, 1) := by decide +kernel
theorem dL_goal_17 : decode cL_goal 17 = .ok (.ireturn, 1) := by decide +kernel
theorem dL_goal_18 : decode cL_goal 18 = .ok (.iconst 0, 1) := by decide +kernel
theorem dL_goal_19 : decode cL_goal 19 = .ok (.ireturn, 1) := by decide +kernel
theorem dL_isDerailed_0 : decode cL_isDerailed 0 = .ok (.aload_n 2, 1) := by decide +kernel
theorem dL_isDerailed_1 : decode cL_isDerailed 1 = .ok (.iconst 0, 1) := by decide +kernel
theorem dL_isDerailed_2 : decode cL_isDerailed 2 = .ok (.aload_n 0, 1) := by decide +kernel
theorem dL_isDerailed_3 : decode cL_isDerailed 3 = .ok (.iload_n 1, 1) := by decide +kernel
theorem dL_isDerailed_4 : decode cL_isDerailed 4 = .ok (.invokevirtual 108, 3) := by decide +kernel
theorem dL_isDerailed_7 : decode cL_isDerailed 7 = .ok (.ifCond .eq 7, 3) := by decide +kernel
theorem dL_isDerailed_10 : decode cL_isDerailed 10 = .ok (.lconst 1, 1) := by decide +kernel
theorem dL_isDerailed_11 : decode cL_isDerailed 11 = .ok (.goto 4, 3) := by decide +kernel
theorem dL_isDerailed_14 : decode cL_isDerailed 14 = .ok (.lconst 0, 1) := by decide +kernel
theorem dL_isDerailed_15 : decode cL_isDerailed 15 = .ok (.lastore, 1) := by decide +kernel
theorem dL_isDerailed_16 : decode cL_isDerailed 16 = .ok (.goto 6, 3) := by decide +kernel
theorem dL_isDerailed_19 : decode cL_isDerailed 19 = .ok (.astore_n 3, 1) := by decide +kernel
theorem dL_isDerailed_20 : decode cL_isDerailed 20 = .ok (.iconst 1, 1) := by decide +kernel
theorem dL_isDerailed_21 : decode cL_isDerailed 21 = .ok (.ireturn, 1) := by decide +kernel
theorem dL_isDerailed_22 : decode cL_isDerailed 22 = .ok (.iconst 0, 1) := by decide +kernel
theorem dL_isDerailed_23 : decode cL_isDerailed 23 = .ok (.ireturn, 1) := by decide +kernel
theorem dL_waits_0 : decode cL_waits 0 = .ok (.aload_n 2, 1) := by decide +kernel
theorem dL_waits_1 : decode cL_waits 1 = .ok (.iconst 0, 1) := by decide +kernel
theorem dL_waits_2 : decode cL_waits 2 = .ok (.aload_n 0, 1) := by decide +kernel
theorem dL_waits_3 : decode cL_waits 3 = .ok (.iload_n 1, 1) := by decide +kernel
theorem dL_waits_4 : decode cL_waits 4 = .ok (.invokevirtual 111, 3) := by decide +kernel
theorem dL_waits_7 : decode cL_waits 7 = .ok (.i2l, 1) := by decide +kernel
theorem dL_waits_8 : decode cL_waits 8 = .ok (.lastore, 1) := by decide +kernel
theorem dL_waits_9 : decode cL_waits 9 = .ok (.goto 6, 3) := by decide +kernel
theorem dL_waits_12 : decode cL_waits 12 = .ok (.astore_n 3, 1) := by decide +kernel
theorem dL_waits_13 : decode cL_waits 13 = .ok (.iconst 1, 1) := by decide +kernel
theorem dL_waits_14 : decode cL_waits 14 = .ok (.ireturn, 1) := by decide +kernel
theorem dL_waits_15 : decode cL_waits 15 = .ok (.iconst 0, 1) := by decide +kernel
theorem dL_waits_16 : decode cL_waits 16 = .ok (.ireturn, 1) := by decide +kernel
theorem dL_trainByPriority_0 : decode cL_trainByPriority 0 = .ok (.aload_n 2, 1) := by decide +kernel
theorem dL_trainByPriority_1 : decode cL_trainByPriority 1 = .ok (.iconst 0, 1) := by decide +kernel
theorem dL_trainByPriority_2 : decode cL_trainByPriority 2 = .ok (.aload_n 0, 1) := by decide +kernel
theorem dL_trainByPriority_3 : decode cL_trainByPriority 3 = .ok (.iload_n 1, 1) := by decide +kernel
theorem dL_trainByPriority_4 : decode cL_trainByPriority 4 = .ok (.invokevirtual 114, 3) := by decide +kernel
theorem dL_trainByPriority_7 : decode cL_trainByPriority 7 = .ok (.i2l, 1) := by decide +kernel
theorem dL_trainByPriority_8 : decode cL_trainByPriority 8 = .ok (.lastore, 1) := by decide +kernel
theorem dL_trainByPriority_9 : decode cL_trainByPriority 9 = .ok (.goto 6, 3) := by decide +kernel
theorem dL_trainByPriority_12 : decode cL_trainByPriority 12 = .ok (.astore_n 3, 1) := by decide +kernel
theorem dL_trainByPriority_13 : decode cL_trainByPriority 13 = .ok (.iconst 1, 1) := by decide +kernel
theorem dL_trainByPriority_14 : decode cL_trainByPriority 14 = .ok (.ireturn, 1) := by decide +kernel
theorem dL_trainByPriority_15 : decode cL_trainByPriority 15 = .ok (.iconst 0, 1) := by decide +kernel
theorem dL_trainByPriority_16 : decode cL_trainByPriority 16 = .ok (.ireturn, 1) := by decide +kernel
theorem dL_blockedBy_0 : decode cL_blockedBy 0 = .ok (.aload_n 2, 1) := by decide +kernel
theorem dL_blockedBy_1 : decode cL_blockedBy 1 = .ok (.iconst 0, 1) := by decide +kernel
theorem dL_blockedBy_2 : decode cL_blockedBy 2 = .ok (.aload_n 0, 1) := by decide +kernel
theorem dL_blockedBy_3 : decode cL_blockedBy 3 = .ok (.iload_n 1, 1) := by decide +kernel
theorem dL_blockedBy_4 : decode cL_blockedBy 4 = .ok (.invokevirtual 117, 3) := by decide +kernel
theorem dL_blockedBy_7 : decode cL_blockedBy 7 = .ok (.i2l, 1) := by decide +kernel
theorem dL_blockedBy_8 : decode cL_blockedBy 8 = .ok (.lastore, 1) := by decide +kernel
theorem dL_blockedBy_9 : decode cL_blockedBy 9 = .ok (.goto 9, 3) := by decide +kernel
theorem dL_blockedBy_12 : decode cL_blockedBy 12 = .ok (.astore_n 3, 1) := by decide +kernel
theorem dL_blockedBy_13 : decode cL_blockedBy 13 = .ok (.iconst 1, 1) := by decide +kernel
theorem dL_blockedBy_14 : decode cL_blockedBy 14 = .ok (.ireturn, 1) := by decide +kernel
theorem dL_blockedBy_15 : decode cL_blockedBy 15 = .ok (.astore_n 3, 1) := by decide +kernel
theorem dL_blockedBy_16 : decode cL_blockedBy 16 = .ok (.iconst 2, 1) := by decide +kernel
theorem dL_blockedBy_17 : decode cL_blockedBy 17 = .ok (.ireturn, 1) := by decide +kernel
theorem dL_blockedBy_18 : decode cL_blockedBy 18 = .ok (.iconst 0, 1) := by decide +kernel
theorem dL_blockedBy_19 : decode cL_blockedBy 19 = .ok (.ireturn, 1) := by decide +kernel
theorem dL_passTicks_0 : decode cL_passTicks 0 = .ok (.aload_n 2, 1) := by decide +kernel
theorem dL_passTicks_1 : decode cL_passTicks 1 = .ok (.iconst 0, 1) := by decide +kernel
theorem dL_passTicks_2 : decode cL_passTicks 2 = .ok (.aload_n 0, 1) := by decide +kernel
theorem dL_passTicks_3 : decode cL_passTicks 3 = .ok (.iload_n 1, 1) := by decide +kernel
theorem dL_passTicks_4 : decode cL_passTicks 4 = .ok (.invokevirtual 120, 3) := by decide +kernel
theorem dL_passTicks_7 : decode cL_passTicks 7 = .ok (.i2l, 1) := by decide +kernel
theorem dL_passTicks_8 : decode cL_passTicks 8 = .ok (.lastore, 1) := by decide +kernel
theorem dL_passTicks_9 : decode cL_passTicks 9 = .ok (.goto 6, 3) := by decide +kernel
theorem dL_passTicks_12 : decode cL_passTicks 12 = .ok (.astore_n 3, 1) := by decide +kernel
theorem dL_passTicks_13 : decode cL_passTicks 13 = .ok (.iconst 1, 1) := by decide +kernel
theorem dL_passTicks_14 : decode cL_passTicks 14 = .ok (.ireturn, 1) := by decide +kernel
theorem dL_passTicks_15 : decode cL_passTicks 15 = .ok (.iconst 0, 1) := by decide +kernel
theorem dL_passTicks_16 : decode cL_passTicks 16 = .ok (.ireturn, 1) := by decide +kernel
theorem dL_ticksUntilArrival_0 : decode cL_ticksUntilArrival 0 = .ok (.aload_n 2, 1) := by decide +kernel
theorem dL_ticksUntilArrival_1 : decode cL_ticksUntilArrival 1 = .ok (.iconst 0, 1) := by decide +kernel
theorem dL_ticksUntilArrival_2 : decode cL_ticksUntilArrival 2 = .ok (.aload_n 0, 1) := by decide +kernel
theorem dL_ticksUntilArrival_3 : decode cL_ticksUntilArrival 3 = .ok (.iload_n 1, 1) := by decide +kernel
theorem dL_ticksUntilArrival_4 : decode cL_ticksUntilArrival 4 = .ok (.invokevirtual 123, 3) := by decide +kernel
theorem dL_ticksUntilArrival_7 : decode cL_ticksUntilArrival 7 = .ok (.i2l, 1) := by decide +kernel
theorem dL_ticksUntilArrival_8 : decode cL_ticksUntilArrival 8 = .ok (.lastore, 1) := by decide +kernel
theorem dL_ticksUntilArrival_9 : decode cL_ticksUntilArrival 9 = .ok (.goto 9, 3) := by decide +kernel
theorem dL_ticksUntilArrival_12 : decode cL_ticksUntilArrival 12 = .ok (.astore_n 3, 1) := by decide +kernel
theorem dL_ticksUntilArrival_13 : decode cL_ticksUntilArrival 13 = .ok (.iconst 1, 1) := by decide +kernel
theorem dL_ticksUntilArrival_14 : decode cL_ticksUntilArrival 14 = .ok (.ireturn, 1) := by decide +kernel
theorem dL_ticksUntilArrival_15 : decode cL_ticksUntilArrival 15 = .ok (.astore_n 3, 1) := by decide +kernel
theorem dL_ticksUntilArrival_16 : decode cL_ticksUntilArrival 16 = .ok (.iconst 2, 1) := by decide +kernel
theorem dL_ticksUntilArrival_17 : decode cL_ticksUntilArrival 17 = .ok (.ireturn, 1) := by decide +kernel
theorem dL_ticksUntilArrival_18 : decode cL_ticksUntilArrival 18 = .ok (.iconst 0, 1) := by decide +kernel
theorem dL_ticksUntilArrival_19 : decode cL_ticksUntilArrival 19 = .ok (.ireturn, 1) := by decide +kernel
theorem dL_meanWaits_0 : decode cL_meanWaits 0 = .ok (.aload_n 1, 1) := by decide +kernel
theorem dL_meanWaits_1 : decode cL_meanWaits 1 = .ok (.iconst 0, 1) := by decide +kernel
theorem dL_meanWaits_2 : decode cL_meanWaits 2 = .ok (.aload_n 0, 1) := by decide +kernel
theorem dL_meanWaits_3 : decode cL_meanWaits 3 = .ok (.invokevirtual 126, 3) := by decide +kernel
theorem dL_meanWaits_6 : decode cL_meanWaits 6 = .ok (.dastore, 1) := by decide +kernel
theorem dL_meanWaits_7 : decode cL_meanWaits 7 = .ok (.goto 6, 3) := by decide +kernel
theorem dL_meanWaits_10 : decode cL_meanWaits 10 = .ok (.astore_n 2, 1) := by decide +kernel
theorem dL_meanWaits_11 : decode cL_meanWaits 11 = .ok (.iconst 1, 1) := by decide +kernel
theorem dL_meanWaits_12 : decode cL_meanWaits 12 = .ok (.ireturn, 1) := by decide +kernel
theorem dL_meanWaits_13 : decode cL_meanWaits 13 = .ok (.iconst 0, 1) := by decide +kernel
theorem dL_meanWaits_14 : decode cL_meanWaits 14 = .ok (.ireturn, 1) := by decide +kernel
theorem dL_occupiedFraction_0 : decode cL_occupiedFraction 0 = .ok (.aload_n 1, 1) := by decide +kernel
theorem dL_occupiedFraction_1 : decode cL_occupiedFraction 1 = .ok (.iconst 0, 1) := by decide +kernel
theorem dL_occupiedFraction_2 : decode cL_occupiedFraction 2 = .ok (.aload_n 0, 1) := by decide +kernel
theorem dL_occupiedFraction_3 : decode cL_occupiedFraction 3 = .ok (.invokevirtual 132, 3) := by decide +kernel
theorem dL_occupiedFraction_6 : decode cL_occupiedFraction 6 = .ok (.f2d, 1) := by decide +kernel
theorem dL_occupiedFraction_7 : decode cL_occupiedFraction 7 = .ok (.dastore, 1) := by decide +kernel
theorem dL_occupiedFraction_8 : decode cL_occupiedFraction 8 = .ok (.goto 6, 3) := by decide +kernel
theorem dL_occupiedFraction_11 : decode cL_occupiedFraction 11 = .ok (.astore_n 2, 1) := by decide +kernel
theorem dL_occupiedFraction_12 : decode cL_occupiedFraction 12 = .ok (.iconst 1, 1) := by decide +kernel
theorem dL_occupiedFraction_13 : decode cL_occupiedFraction 13 = .ok (.ireturn, 1) := by decide +kernel
theorem dL_occupiedFraction_14 : decode cL_occupiedFraction 14 = .ok (.iconst 0, 1) := by decide +kernel
theorem dL_occupiedFraction_15 : decode cL_occupiedFraction 15 = .ok (.ireturn, 1) := by decide +kernel
theorem dL_writeTrain_0 : decode cL_writeTrain 0 = .ok (.aload_n 2, 1) := by decide +kernel
theorem dL_writeTrain_1 : decode cL_writeTrain 1 = .ok (.iconst 0, 1) := by decide +kernel
theorem dL_writeTrain_2 : decode cL_writeTrain 2 = .ok (.aload_n 0, 1) := by decide +kernel
theorem dL_writeTrain_3 : decode cL_writeTrain 3 = .ok (.iload_n 1, 1) := by decide +kernel
theorem dL_writeTrain_4 : decode cL_writeTrain 4 = .ok (.invokevirtual 136, 3) := by decide +kernel
theorem dL_writeTrain_7 : decode cL_writeTrain 7 = .ok (.i2l, 1) := by decide +kernel
theorem dL_writeTrain_8 : decode cL_writeTrain 8 = .ok (.lastore, 1) := by decide +kernel
theorem dL_writeTrain_9 : decode cL_writeTrain 9 = .ok (.goto 6, 3) := by decide +kernel
theorem dL_writeTrain_12 : decode cL_writeTrain 12 = .ok (.astore_n 3, 1) := by decide +kernel
theorem dL_writeTrain_13 : decode cL_writeTrain 13 = .ok (.iconst 1, 1) := by decide +kernel
theorem dL_writeTrain_14 : decode cL_writeTrain 14 = .ok (.ireturn, 1) := by decide +kernel
theorem dL_writeTrain_15 : decode cL_writeTrain 15 = .ok (.iconst 0, 1) := by decide +kernel
theorem dL_writeTrain_16 : decode cL_writeTrain 16 = .ok (.ireturn, 1) := by decide +kernel
theorem dL_outputCharacter_0 : decode cL_outputCharacter 0 = .ok (.aload_n 2, 1) := by decide +kernel
theorem dL_outputCharacter_1 : decode cL_outputCharacter 1 = .ok (.iconst 0, 1) := by decide +kernel
theorem dL_outputCharacter_2 : decode cL_outputCharacter 2 = .ok (.aload_n 0, 1) := by decide +kernel
theorem dL_outputCharacter_3 : decode cL_outputCharacter 3 = .ok (.iload_n 1, 1) := by decide +kernel
theorem dL_outputCharacter_4 : decode cL_outputCharacter 4 = .ok (.invokevirtual 139, 3) := by decide +kernel
theorem dL_outputCharacter_7 : decode cL_outputCharacter 7 = .ok (.i2l, 1) := by decide +kernel
theorem dL_outputCharacter_8 : decode cL_outputCharacter 8 = .ok (.lastore, 1) := by decide +kernel
theorem dL_outputCharacter_9 : decode cL_outputCharacter 9 = .ok (.goto 6, 3) := by decide +kernel
theorem dL_outputCharacter_12 : decode cL_outputCharacter 12 = .ok (.astore_n 3, 1) := by decide +kernel
theorem dL_outputCharacter_13 : decode cL_outputCharacter 13 = .ok (.iconst 1, 1) := by decide +kernel
theorem dL_outputCharacter_14 : decode cL_outputCharacter 14 = .ok (.ireturn, 1) := by decide +kernel
theorem dL_outputCharacter_15 : decode cL_outputCharacter 15 = .ok (.iconst 0, 1) := by decide +kernel
theorem dL_outputCharacter_16 : decode cL_outputCharacter 16 = .ok (.ireturn, 1) := by decide +kernel
theorem dL_feed_0 : decode cL_feed 0 = .ok (.aload_n 2, 1) := by decide +kernel
theorem dL_feed_1 : decode cL_feed 1 = .ok (.iconst 0, 1) := by decide +kernel
theorem dL_feed_2 : decode cL_feed 2 = .ok (.aload_n 0, 1) := by decide +kernel
theorem dL_feed_3 : decode cL_feed 3 = .ok (.iload_n 1, 1) := by decide +kernel
theorem dL_feed_4 : decode cL_feed 4 = .ok (.invokevirtual 142, 3) := by decide +kernel
theorem dL_feed_7 : decode cL_feed 7 = .ok (.i2l, 1) := by decide +kernel
theorem dL_feed_8 : decode cL_feed 8 = .ok (.lastore, 1) := by decide +kernel
theorem dL_feed_9 : decode cL_feed 9 = .ok (.goto 6, 3) := by decide +kernel
theorem dL_feed_12 : decode cL_feed 12 = .ok (.astore_n 3, 1) := by decide +kernel
theorem dL_feed_13 : decode cL_feed 13 = .ok (.iconst 1, 1) := by decide +kernel
theorem dL_feed_14 : decode cL_feed 14 = .ok (.ireturn, 1) := by decide +kernel
theorem dL_feed_15 : decode cL_feed 15 = .ok (.iconst 0, 1) := by decide +kernel
theorem dL_feed_16 : decode cL_feed 16 = .ok (.ireturn, 1) := by decide +kernel
theorem dL_execute_0 : decode cL_execute 0 = .ok (.aload_n 1, 1) := by decide +kernel
theorem dL_execute_1 : decode cL_execute 1 = .ok (.iconst 0, 1) := by decide +kernel
theorem dL_execute_2 : decode cL_execute 2 = .ok (.aload_n 0, 1) := by decide +kernel
theorem dL_execute_3 : decode cL_execute 3 = .ok (.invokevirtual 146, 3) := by decide +kernel
theorem dL_execute_6 : decode cL_execute 6 = .ok (.i2l, 1) := by decide +kernel
theorem dL_execute_7 : decode cL_execute 7 = .ok (.lastore, 1) := by decide +kernel
theorem dL_execute_8 : decode cL_execute 8 = .ok (.goto 9, 3) := by decide +kernel
theorem dL_execute_11 : decode cL_execute 11 = .ok (.astore_n 2, 1) := by decide +kernel
theorem dL_execute_12 : decode cL_execute 12 = .ok (.iconst 1, 1) := by decide +kernel
theorem dL_execute_13 : decode cL_execute 13 = .ok (.ireturn, 1) := by decide +kernel
theorem dL_execute_14 : decode cL_execute 14 = .ok (.astore_n 2, 1) := by decide +kernel
theorem dL_execute_15 : decode cL_execute 15 = .ok (.iconst 2, 1) := by decide +kernel
theorem dL_execute_16 : decode cL_execute 16 = .ok (.ireturn, 1) := by decide +kernel
theorem dL_execute_17 : decode cL_execute 17 = .ok (.iconst 0, 1) := by decide +kernel
theorem dL_execute_18 : decode cL_execute 18 = .ok (.ireturn, 1) := by decide +kernel
theorem dL_errorPosition_0 : decode cL_errorPosition 0 = .ok (.aload_n 1, 1) := by decide +kernel
theorem dL_errorPosition_1 : decode cL_errorPosition 1 = .ok (.iconst 0, 1) := by decide +kernel
theorem dL_errorPosition_2 : decode cL_errorPosition 2 = .ok (.aload_n 0, 1) := by decide +kernel
theorem dL_errorPosition_3 : decode cL_errorPosition 3 = .ok (.invokevirtual 150, 3) := by decide +kernel
theorem dL_errorPosition_6 : decode cL_errorPosition 6 = .ok (.i2l, 1) := by decide +kernel
theorem dL_errorPosition_7 : decode cL_errorPosition 7 = .ok (.lastore, 1) := by decide +kernel
theorem dL_errorPosition_8 : decode cL_errorPosition 8 = .ok (.goto 6, 3) := by decide +kernel
theorem dL_errorPosition_11 : decode cL_errorPosition 11 = .ok (.astore_n 2, 1) := by decide +kernel
theorem dL_errorPosition_12 : decode cL_errorPosition 12 = .ok (.iconst 1, 1) := by decide +kernel
theorem dL_errorPosition_13 : decode cL_errorPosition 13 = .ok (.ireturn, 1) := by decide +kernel
theorem dL_errorPosition_14 : decode cL_errorPosition 14 = .ok (.iconst 0, 1) := by decide +kernel
theorem dL_errorPosition_15 : decode cL_errorPosition 15 = .ok (.ireturn, 1) := by decide +kernel
theorem dL_failedCommand_0 : decode cL_failedCommand 0 = .ok (.aload_n 1, 1) := by decide +kernel
theorem dL_failedCommand_1 : decode cL_failedCommand 1 = .ok (.iconst 0, 1) := by decide +kernel
theorem dL_failedCommand_2 : decode cL_failedCommand 2 = .ok (.aload_n 0, 1) := by decide +kernel
theorem dL_failedCommand_3 : decode cL_failedCommand 3 = .ok (.invokevirtual 153, 3) := by decide +kernel
theorem dL_failedCommand_6 : decode cL_failedCommand 6 = .ok (.i2l, 1) := by decide +kernel
theorem dL_failedCommand_7 : decode cL_failedCommand 7 = .ok (.lastore, 1) := by decide +kernel
theorem dL_failedCommand_8 : decode cL_failedCommand 8 = .ok (.goto 6, 3) := by decide +kernel
theorem dL_failedCommand_11 : decode cL_failedCommand 11 = .ok (.astore_n 2, 1) := by decide +kernel
theorem dL_failedCommand_12 : decode cL_failedCommand 12 = .ok (.iconst 1, 1) := by decide +kernel
theorem dL_failedCommand_13 : decode cL_failedCommand 13 = .ok (.ireturn, 1) := by decide +kernel
theorem dL_failedCommand_14 : decode cL_failedCommand 14 = .ok (.iconst 0, 1) := by decide +kernel
theorem dL_failedCommand_15 : decode cL_failedCommand 15 = .ok (.ireturn, 1) := by decide +kernel
theorem dL_undo_0 : decode cL_undo 0 = .ok (.aload_n 1, 1) := by decide +kernel
theorem dL_undo_1 : decode cL_undo 1 = .ok (.iconst 0, 1) := by decide +kernel
theorem dL_undo_2 : decode cL_undo 2 = .ok (.aload_n 0, 1) := by decide +kernel
theorem dL_undo_3 : decode cL_undo 3 = .ok (.invokevirtual 156, 3) := by decide +kernel
theorem dL_undo_6 : decode cL_undo 6 = .ok (.i2l, 1) := by decide +kernel
theorem dL_undo_7 : decode cL_undo 7 = .ok (.lastore, 1) := by decide +kernel
theorem dL_undo_8 : decode cL_undo 8 = .ok (.goto 6, 3) := by decide +kernel
theorem dL_undo_11 : decode cL_undo 11 = .ok (.astore_n 2, 1) := by decide +kernel
theorem dL_undo_12 : decode cL_undo 12 = .ok (.iconst 1, 1) := by decide +kernel
theorem dL_undo_13 : decode cL_undo 13 = .ok (.ireturn, 1) := by decide +kernel
theorem dL_undo_14 : decode cL_undo 14 = .ok (.iconst 0, 1) := by decide +kernel
theorem dL_undo_15 : decode cL_undo 15 = .ok (.ireturn, 1) := by decide +kernel
theorem dL_restore_0 : decode cL_restore 0 = .ok (.aload_n 1, 1) := by decide +kernel
theorem dL_restore_1 : decode cL_restore 1 = .ok (.iconst 0, 1) := by decide +kernel
theorem dL_restore_2 : decode cL_restore 2 = .ok (.aload_n 0, 1) := by decide +kernel
theorem dL_restore_3 : decode cL_restore 3 = .ok (.invokevirtual 159, 3) := by decide +kernel
theorem dL_restore_6 : decode cL_restore 6 = .ok (.i2l, 1) := by decide +kernel
theorem dL_restore_7 : decode cL_restore 7 = .ok (.lastore, 1) := by decide +kernel
theorem dL_restore_8 : decode cL_restore 8 = .ok (.goto 6, 3) := by decide +kernel
theorem dL_restore_11 : decode cL_restore 11 = .ok (.astore_n 2, 1) := by decide +kernel
theorem dL_restore_12 : decode cL_restore 12 = .ok (.iconst 1, 1) := by decide +kernel
theorem dL_restore_13 : decode cL_restore 13 = .ok (.ireturn, 1) := by decide +kernel
theorem dL_restore_14 : decode cL_restore 14 = .ok (.iconst 0, 1) := by decide +kernel
theorem dL_restore_15 : decode cL_restore 15 = .ok (.ireturn, 1) := by decide +kernel
theorem dL_law_0 : decode cL_law 0 = .ok (.new 8, 3) := by decide +kernel
theorem dL_law_3 : decode cL_law 3 = .ok (.dup, 1) := by decide +kernel
theorem dL_law_4 : decode cL_law 4 = .ok (.invokespecial 162, 3) := by decide +kernel
theorem dL_law_7 : decode cL_law 7 = .ok (.astore_n 1, 1) := by decide +kernel
theorem dL_law_8 : decode cL_law 8 = .ok (.new 163, 3) := by decide +kernel
theorem dL_law_11 : decode cL_law 11 = .ok (.dup, 1) := by decide +kernel
theorem dL_law_12 : decode cL_law 12 = .ok (.invokespecial 165, 3) := by decide +kernel
theorem dL_law_15 : decode cL_law 15 = .ok (.astore_n 2, 1) := by decide +kernel
theorem dL_law_16 : decode cL_law 16 = .ok (.iconst 1, 1) := by decide +kernel
theorem dL_law_17 : decode cL_law 17 = .ok (.newarray .long, 2) := by decide +kernel
theorem dL_law_19 : decode cL_law 19 = .ok (.astore_n 3, 1) := by decide +kernel
theorem dL_law_20 : decode cL_law 20 = .ok (.iconst 1, 1) := by decide +kernel
theorem dL_law_21 : decode cL_law 21 = .ok (.newarray .double, 2) := by decide +kernel
theorem dL_law_23 : decode cL_law 23 = .ok (.astore 4, 2) := by decide +kernel
theorem dL_law_25 : decode cL_law 25 = .ok (.iconst 0, 1) := by decide +kernel
theorem dL_law_26 : decode cL_law 26 = .ok (.istore 5, 2) := by decide +kernel
theorem dL_law_28 : decode cL_law 28 = .ok (.iload 5, 2) := by decide +kernel
theorem dL_law_30 : decode cL_law 30 = .ok (.aload_n 0, 1) := by decide +kernel
theorem dL_law_31 : decode cL_law 31 = .ok (.arraylength, 1) := by decide +kernel
theorem dL_law_32 : decode cL_law 32 = .ok (.iconst 3, 1) := by decide +kernel
theorem dL_law_33 : decode cL_law 33 = .ok (.isub, 1) := by decide +kernel
theorem dL_law_34 : decode cL_law 34 = .ok (.if_icmp .gt 2961, 3) := by decide +kernel
theorem dL_law_37 : decode cL_law 37 = .ok (.aload_n 0, 1) := by decide +kernel
theorem dL_law_38 : decode cL_law 38 = .ok (.iload 5, 2) := by decide +kernel
theorem dL_law_40 : decode cL_law 40 = .ok (.iaload, 1) := by decide +kernel
theorem dL_law_41 : decode cL_law 41 = .ok (.bipush 63, 2) := by decide +kernel
theorem dL_law_43 : decode cL_law 43 = .ok (.iand, 1) := by decide +kernel
theorem dL_law_44 : decode cL_law 44 = .ok (.tableswitch 2945 0 55 #[240, 296, 352, 420, 488, 544, 600, 613, 669, 732, 795, 870, 926, 982, 1038, 1094, 1162, 1230, 1286, 1299, 1312, 1368, 1436, 1504, 1560, 1628, 1684, 1740, 1753, 1809, 1865, 1921, 1977, 2040, 2096, 2152, 2208, 2221, 2234, 2290, 2303, 2316, 2372, 2437, 2503, 2559, 2572, 2628, 2641, 2699, 2743, 2787, 2831, 2875, 2888, 2901], 240) := by decide +kernel
theorem dL_law_284 : decode cL_law 284 = .ok (.aload_n 1, 1) := by decide +kernel
theorem dL_law_285 : decode cL_law 285 = .ok (.aload_n 0, 1) := by decide +kernel
theorem dL_law_286 : decode cL_law 286 = .ok (.iload 5, 2) := by decide +kernel
theorem dL_law_288 : decode cL_law 288 = .ok (.iconst 1, 1) := by decide +kernel
theorem dL_law_289 : decode cL_law 289 = .ok (.iadd, 1) := by decide +kernel
theorem dL_law_290 : decode cL_law 290 = .ok (.iaload, 1) := by decide +kernel
theorem dL_law_291 : decode cL_law 291 = .ok (.aload_n 3, 1) := by decide +kernel
theorem dL_law_292 : decode cL_law 292 = .ok (.invokestatic 166, 3) := by decide +kernel
theorem dL_law_295 : decode cL_law 295 = .ok (.istore 6, 2) := by decide +kernel
theorem dL_law_297 : decode cL_law 297 = .ok (.aload_n 2, 1) := by decide +kernel
theorem dL_law_298 : decode cL_law 298 = .ok (.aload_n 0, 1) := by decide +kernel
theorem dL_law_299 : decode cL_law 299 = .ok (.iload 5, 2) := by decide +kernel
theorem dL_law_301 : decode cL_law 301 = .ok (.iconst 1, 1) := by decide +kernel
theorem dL_law_302 : decode cL_law 302 = .ok (.iadd, 1) := by decide +kernel
theorem dL_law_303 : decode cL_law 303 = .ok (.iaload, 1) := by decide +kernel
theorem dL_law_304 : decode cL_law 304 = .ok (.invokevirtual 171, 3) := by decide +kernel
theorem dL_law_307 : decode cL_law 307 = .ok (.istore 7, 2) := by decide +kernel
theorem dL_law_309 : decode cL_law 309 = .ok (.aload_n 2, 1) := by decide +kernel
theorem dL_law_310 : decode cL_law 310 = .ok (.invokevirtual 172, 3) := by decide +kernel
theorem dL_law_313 : decode cL_law 313 = .ok (.iload 6, 2) := by decide +kernel
theorem dL_law_315 : decode cL_law 315 = .ok (.if_icmp .eq 5, 3) := by decide +kernel
theorem dL_law_318 : decode cL_law 318 = .ok (.iconst 0, 1) := by decide +kernel
theorem dL_law_319 : decode cL_law 319 = .ok (.ireturn, 1) := by decide +kernel
theorem dL_law_320 : decode cL_law 320 = .ok (.iload 6, 2) := by decide +kernel
theorem dL_law_322 : decode cL_law 322 = .ok (.ifCond .ne 15, 3) := by decide +kernel
theorem dL_law_325 : decode cL_law 325 = .ok (.aload_n 3, 1) := by decide +kernel
theorem dL_law_326 : decode cL_law 326 = .ok (.iconst 0, 1) := by decide +kernel
theorem dL_law_327 : decode cL_law 327 = .ok (.laload, 1) := by decide +kernel
theorem dL_law_328 : decode cL_law 328 = .ok (.iload 7, 2) := by decide +kernel
theorem dL_law_330 : decode cL_law 330 = .ok (.i2l, 1) := by decide +kernel
theorem dL_law_331 : decode cL_law 331 = .ok (.lcmp, 1) := by decide +kernel
theorem dL_law_332 : decode cL_law 332 = .ok (.ifCond .eq 5, 3) := by decide +kernel
theorem dL_law_335 : decode cL_law 335 = .ok (.iconst 0, 1) := by decide +kernel
theorem dL_law_336 : decode cL_law 336 = .ok (.ireturn, 1) := by decide +kernel
theorem dL_law_337 : decode cL_law 337 = .ok (.goto 2652, 3) := by decide +kernel
theorem dL_law_340 : decode cL_law 340 = .ok (.aload_n 1, 1) := by decide +kernel
theorem dL_law_341 : decode cL_law 341 = .ok (.aload_n 0, 1) := by decide +kernel
theorem dL_law_342 : decode cL_law 342 = .ok (.iload 5, 2) := by decide +kernel
theorem dL_law_344 : decode cL_law 344 = .ok (.iconst 1, 1) := by decide +kernel
theorem dL_law_345 : decode cL_law 345 = .ok (.iadd, 1) := by decide +kernel
theorem dL_law_346 : decode cL_law 346 = .ok (.iaload, 1) := by decide +kernel
theorem dL_law_347 : decode cL_law 347 = .ok (.aload_n 3, 1) := by decide +kernel
theorem dL_law_348 : decode cL_law 348 = .ok (.invokestatic 175, 3) := by decide +kernel
theorem dL_law_351 : decode cL_law 351 = .ok (.istore 6, 2) := by decide +kernel
theorem dL_law_353 : decode cL_law 353 = .ok (.aload_n 2, 1) := by decide +kernel
theorem dL_law_354 : decode cL_law 354 = .ok (.aload_n 0, 1) := by decide +kernel
theorem dL_law_355 : decode cL_law 355 = .ok (.iload 5, 2) := by decide +kernel
theorem dL_law_357 : decode cL_law 357 = .ok (.iconst 1, 1) := by decide +kernel
theorem dL_law_358 : decode cL_law 358 = .ok (.iadd, 1) := by decide +kernel
theorem dL_law_359 : decode cL_law 359 = .ok (.iaload, 1) := by decide +kernel
theorem dL_law_360 : decode cL_law 360 = .ok (.invokevirtual 177, 3) := by decide +kernel
theorem dL_law_363 : decode cL_law 363 = .ok (.istore 7, 2) := by decide +kernel
theorem dL_law_365 : decode cL_law 365 = .ok (.aload_n 2, 1) := by decide +kernel
theorem dL_law_366 : decode cL_law 366 = .ok (.invokevirtual 172, 3) := by decide +kernel
theorem dL_law_369 : decode cL_law 369 = .ok (.iload 6, 2) := by decide +kernel
theorem dL_law_371 : decode cL_law 371 = .ok (.if_icmp .eq 5, 3) := by decide +kernel
theorem dL_law_374 : decode cL_law 374 = .ok (.iconst 0, 1) := by decide +kernel
theorem dL_law_375 : decode cL_law 375 = .ok (.ireturn, 1) := by decide +kernel
theorem dL_law_376 : decode cL_law 376 = .ok (.iload 6, 2) := by decide +kernel
theorem dL_law_378 : decode cL_law 378 = .ok (.ifCond .ne 15, 3) := by decide +kernel
theorem dL_law_381 : decode cL_law 381 = .ok (.aload_n 3, 1) := by decide +kernel
theorem dL_law_382 : decode cL_law 382 = .ok (.iconst 0, 1) := by decide +kernel
theorem dL_law_383 : decode cL_law 383 = .ok (.laload, 1) := by decide +kernel
theorem dL_law_384 : decode cL_law 384 = .ok (.iload 7, 2) := by decide +kernel
theorem dL_law_386 : decode cL_law 386 = .ok (.i2l, 1) := by decide +kernel
theorem dL_law_387 : decode cL_law 387 = .ok (.lcmp, 1) := by decide +kernel
theorem dL_law_388 : decode cL_law 388 = .ok (.ifCond .eq 5, 3) := by decide +kernel
theorem dL_law_391 : decode cL_law 391 = .ok (.iconst 0, 1) := by decide +kernel
theorem dL_law_392 : decode cL_law 392 = .ok (.ireturn, 1) := by decide +kernel
theorem dL_law_393 : decode cL_law 393 = .ok (.goto 2596, 3) := by decide +kernel
theorem dL_law_396 : decode cL_law 396 = .ok (.aload_n 1, 1) := by decide +kernel
theorem dL_law_397 : decode cL_law 397 = .ok (.aload_n 0, 1) := by decide +kernel
theorem dL_law_398 : decode cL_law 398 = .ok (.iload 5, 2) := by decide +kernel
theorem dL_law_400 : decode cL_law 400 = .ok (.iconst 1, 1) := by decide +kernel
theorem dL_law_401 : decode cL_law 401 = .ok (.iadd, 1) := by decide +kernel
theorem dL_law_402 : decode cL_law 402 = .ok (.iaload, 1) := by decide +kernel
theorem dL_law_403 : decode cL_law 403 = .ok (.aload_n 0, 1) := by decide +kernel
theorem dL_law_404 : decode cL_law 404 = .ok (.iload 5, 2) := by decide +kernel
theorem dL_law_406 : decode cL_law 406 = .ok (.iconst 2, 1) := by decide +kernel
theorem dL_law_407 : decode cL_law 407 = .ok (.iadd, 1) := by decide +kernel
theorem dL_law_408 : decode cL_law 408 = .ok (.iaload, 1) := by decide +kernel
theorem dL_law_409 : decode cL_law 409 = .ok (.aload_n 3, 1) := by decide +kernel
theorem dL_law_410 : decode cL_law 410 = .ok (.invokestatic 178, 3) := by decide +kernel
theorem dL_law_413 : decode cL_law 413 = .ok (.istore 6, 2) := by decide +kernel
theorem dL_law_415 : decode cL_law 415 = .ok (.aload_n 2, 1) := by decide +kernel
theorem dL_law_416 : decode cL_law 416 = .ok (.aload_n 0, 1) := by decide +kernel
theorem dL_law_417 : decode cL_law 417 = .ok (.iload 5, 2) := by decide +kernel
theorem dL_law_419 : decode cL_law 419 = .ok (.iconst 1, 1) := by decide +kernel
theorem dL_law_420 : decode cL_law 420 = .ok (.iadd, 1) := by decide +kernel
theorem dL_law_421 : decode cL_law 421 = .ok (.iaload, 1) := by decide +kernel
theorem dL_law_422 : decode cL_law 422 = .ok (.aload_n 0, 1) := by decide +kernel
theorem dL_law_423 : decode cL_law 423 = .ok (.iload 5, 2) := by decide +kernel
theorem dL_law_425 : decode cL_law 425 = .ok (.iconst 2, 1) := by decide +kernel
theorem dL_law_426 : decode cL_law 426 = .ok (.iadd, 1) := by decide +kernel
theorem dL_law_427 : decode cL_law 427 = .ok (.iaload, 1) := by decide +kernel
theorem dL_law_428 : decode cL_law 428 = .ok (.invokevirtual 181, 3) := by decide +kernel
theorem dL_law_431 : decode cL_law 431 = .ok (.istore 7, 2) := by decide +kernel
theorem dL_law_433 : decode cL_law 433 = .ok (.aload_n 2, 1) := by decide +kernel
theorem dL_law_434 : decode cL_law 434 = .ok (.invokevirtual 172, 3) := by decide +kernel
theorem dL_law_437 : decode cL_law 437 = .ok (.iload 6, 2) := by decide +kernel
theorem dL_law_439 : decode cL_law 439 = .ok (.if_icmp .eq 5, 3) := by decide +kernel
theorem dL_law_442 : decode cL_law 442 = .ok (.iconst 0, 1) := by decide +kernel
theorem dL_law_443 : decode cL_law 443 = .ok (.ireturn, 1) := by decide +kernel
theorem dL_law_444 : decode cL_law 444 = .ok (.iload 6, 2) := by decide +kernel
theorem dL_law_446 : decode cL_law 446 = .ok (.ifCond .ne 15, 3) := by decide +kernel
theorem dL_law_449 : decode cL_law 449 = .ok (.aload_n 3, 1) := by decide +kernel
theorem dL_law_450 : decode cL_law 450 = .ok (.iconst 0, 1) := by decide +kernel
theorem dL_law_451 : decode cL_law 451 = .ok (.laload, 1) := by decide +kernel
theorem dL_law_452 : decode cL_law 452 = .ok (.iload 7, 2) := by decide +kernel
theorem dL_law_454 : decode cL_law 454 = .ok (.i2l, 1) := by decide +kernel
theorem dL_law_455 : decode cL_law 455 = .ok (.lcmp, 1) := by decide +kernel
theorem dL_law_456 : decode cL_law 456 = .ok (.ifCond .eq 5, 3) := by decide +kernel
theorem dL_law_459 : decode cL_law 459 = .ok (.iconst 0, 1) := by decide +kernel
theorem dL_law_460 : decode cL_law 460 = .ok (.ireturn, 1) := by decide +kernel
theorem dL_law_461 : decode cL_law 461 = .ok (.goto 2528, 3) := by decide +kernel
theorem dL_law_464 : decode cL_law 464 = .ok (.aload_n 1, 1) := by decide +kernel
theorem dL_law_465 : decode cL_law 465 = .ok (.aload_n 0, 1) := by decide +kernel
theorem dL_law_466 : decode cL_law 466 = .ok (.iload 5, 2) := by decide +kernel
theorem dL_law_468 : decode cL_law 468 = .ok (.iconst 1, 1) := by decide +kernel
theorem dL_law_469 : decode cL_law 469 = .ok (.iadd, 1) := by decide +kernel
theorem dL_law_470 : decode cL_law 470 = .ok (.iaload, 1) := by decide +kernel
theorem dL_law_471 : decode cL_law 471 = .ok (.aload_n 0, 1) := by decide +kernel
theorem dL_law_472 : decode cL_law 472 = .ok (.iload 5, 2) := by decide +kernel
theorem dL_law_474 : decode cL_law 474 = .ok (.iconst 2, 1) := by decide +kernel
theorem dL_law_475 : decode cL_law 475 = .ok (.iadd, 1) := by decide +kernel
theorem dL_law_476 : decode cL_law 476 = .ok (.iaload, 1) := by decide +kernel
theorem dL_law_477 : decode cL_law 477 = .ok (.aload_n 3, 1) := by decide +kernel
theorem dL_law_478 : decode cL_law 478 = .ok (.invokestatic 182, 3) := by decide +kernel
theorem dL_law_481 : decode cL_law 481 = .ok (.istore 6, 2) := by decide +kernel
theorem dL_law_483 : decode cL_law 483 = .ok (.aload_n 2, 1) := by decide +kernel
theorem dL_law_484 : decode cL_law 484 = .ok (.aload_n 0, 1) := by decide +kernel
theorem dL_law_485 : decode cL_law 485 = .ok (.iload 5, 2) := by decide +kernel
theorem dL_law_487 : decode cL_law 487 = .ok (.iconst 1, 1) := by decide +kernel
theorem dL_law_488 : decode cL_law 488 = .ok (.iadd, 1) := by decide +kernel
theorem dL_law_489 : decode cL_law 489 = .ok (.iaload, 1) := by decide +kernel
theorem dL_law_490 : decode cL_law 490 = .ok (.aload_n 0, 1) := by decide +kernel
theorem dL_law_491 : decode cL_law 491 = .ok (.iload 5, 2) := by decide +kernel
theorem dL_law_493 : decode cL_law 493 = .ok (.iconst 2, 1) := by decide +kernel
theorem dL_law_494 : decode cL_law 494 = .ok (.iadd, 1) := by decide +kernel
theorem dL_law_495 : decode cL_law 495 = .ok (.iaload, 1) := by decide +kernel
theorem dL_law_496 : decode cL_law 496 = .ok (.invokevirtual 184, 3) := by decide +kernel
theorem dL_law_499 : decode cL_law 499 = .ok (.istore 7, 2) := by decide +kernel
theorem dL_law_501 : decode cL_law 501 = .ok (.aload_n 2, 1) := by decide +kernel
theorem dL_law_502 : decode cL_law 502 = .ok (.invokevirtual 172, 3) := by decide +kernel
theorem dL_law_505 : decode cL_law 505 = .ok (.iload 6, 2) := by decide +kernel
theorem dL_law_507 : decode cL_law 507 = .ok (.if_icmp .eq 5, 3) := by decide +kernel
theorem dL_law_510 : decode cL_law 510 = .ok (.iconst 0, 1) := by decide +kernel
theorem dL_law_511 : decode cL_law 511 = .ok (.ireturn, 1) := by decide +kernel
theorem dL_law_512 : decode cL_law 512 = .ok (.iload 6, 2) := by decide +kernel
theorem dL_law_514 : decode cL_law 514 = .ok (.ifCond .ne 15, 3) := by decide +kernel
theorem dL_law_517 : decode cL_law 517 = .ok (.aload_n 3, 1) := by decide +kernel
theorem dL_law_518 : decode cL_law 518 = .ok (.iconst 0, 1) := by decide +kernel
theorem dL_law_519 : decode cL_law 519 = .ok (.laload, 1) := by decide +kernel
theorem dL_law_520 : decode cL_law 520 = .ok (.iload 7, 2) := by decide +kernel
theorem dL_law_522 : decode cL_law 522 = .ok (.i2l, 1) := by decide +kernel
theorem dL_law_523 : decode cL_law 523 = .ok (.lcmp, 1) := by decide +kernel
theorem dL_law_524 : decode cL_law 524 = .ok (.ifCond .eq 5, 3) := by decide +kernel
theorem dL_law_527 : decode cL_law 527 = .ok (.iconst 0, 1) := by decide +kernel
theorem dL_law_528 : decode cL_law 528 = .ok (.ireturn, 1) := by decide +kernel
theorem dL_law_529 : decode cL_law 529 = .ok (.goto 2460, 3) := by decide +kernel
theorem dL_law_532 : decode cL_law 532 = .ok (.aload_n 1, 1) := by decide +kernel
theorem dL_law_533 : decode cL_law 533 = .ok (.aload_n 0, 1) := by decide +kernel
theorem dL_law_534 : decode cL_law 534 = .ok (.iload 5, 2) := by decide +kernel
theorem dL_law_536 : decode cL_law 536 = .ok (.iconst 1, 1) := by decide +kernel
theorem dL_law_537 : decode cL_law 537 = .ok (.iadd, 1) := by decide +kernel
theorem dL_law_538 : decode cL_law 538 = .ok (.iaload, 1) := by decide +kernel
theorem dL_law_539 : decode cL_law 539 = .ok (.aload_n 3, 1) := by decide +kernel
theorem dL_law_540 : decode cL_law 540 = .ok (.invokestatic 185, 3) := by decide +kernel
theorem dL_law_543 : decode cL_law 543 = .ok (.istore 6, 2) := by decide +kernel
theorem dL_law_545 : decode cL_law 545 = .ok (.aload_n 2, 1) := by decide +kernel
theorem dL_law_546 : decode cL_law 546 = .ok (.aload_n 0, 1) := by decide +kernel
theorem dL_law_547 : decode cL_law 547 = .ok (.iload 5, 2) := by decide +kernel
theorem dL_law_549 : decode cL_law 549 = .ok (.iconst 1, 1) := by decide +kernel
theorem dL_law_550 : decode cL_law 550 = .ok (.iadd, 1) := by decide +kernel
theorem dL_law_551 : decode cL_law 551 = .ok (.iaload, 1) := by decide +kernel
theorem dL_law_552 : decode cL_law 552 = .ok (.invokevirtual 187, 3) := by decide +kernel
theorem dL_law_555 : decode cL_law 555 = .ok (.istore 7, 2) := by decide +kernel
theorem dL_law_557 : decode cL_law 557 = .ok (.aload_n 2, 1) := by decide +kernel
theorem dL_law_558 : decode cL_law 558 = .ok (.invokevirtual 172, 3) := by decide +kernel
theorem dL_law_561 : decode cL_law 561 = .ok (.iload 6, 2) := by decide +kernel
theorem dL_law_563 : decode cL_law 563 = .ok (.if_icmp .eq 5, 3) := by decide +kernel
theorem dL_law_566 : decode cL_law 566 = .ok (.iconst 0, 1) := by decide +kernel
theorem dL_law_567 : decode cL_law 567 = .ok (.ireturn, 1) := by decide +kernel
theorem dL_law_568 : decode cL_law 568 = .ok (.iload 6, 2) := by decide +kernel
theorem dL_law_570 : decode cL_law 570 = .ok (.ifCond .ne 15, 3) := by decide +kernel
theorem dL_law_573 : decode cL_law 573 = .ok (.aload_n 3, 1) := by decide +kernel
theorem dL_law_574 : decode cL_law 574 = .ok (.iconst 0, 1) := by decide +kernel
theorem dL_law_575 : decode cL_law 575 = .ok (.laload, 1) := by decide +kernel
theorem dL_law_576 : decode cL_law 576 = .ok (.iload 7, 2) := by decide +kernel
theorem dL_law_578 : decode cL_law 578 = .ok (.i2l, 1) := by decide +kernel
theorem dL_law_579 : decode cL_law 579 = .ok (.lcmp, 1) := by decide +kernel
theorem dL_law_580 : decode cL_law 580 = .ok (.ifCond .eq 5, 3) := by decide +kernel
theorem dL_law_583 : decode cL_law 583 = .ok (.iconst 0, 1) := by decide +kernel
theorem dL_law_584 : decode cL_law 584 = .ok (.ireturn, 1) := by decide +kernel
theorem dL_law_585 : decode cL_law 585 = .ok (.goto 2404, 3) := by decide +kernel
theorem dL_law_588 : decode cL_law 588 = .ok (.aload_n 1, 1) := by decide +kernel
theorem dL_law_589 : decode cL_law 589 = .ok (.aload_n 0, 1) := by decide +kernel
theorem dL_law_590 : decode cL_law 590 = .ok (.iload 5, 2) := by decide +kernel
theorem dL_law_592 : decode cL_law 592 = .ok (.iconst 1, 1) := by decide +kernel
theorem dL_law_593 : decode cL_law 593 = .ok (.iadd, 1) := by decide +kernel
theorem dL_law_594 : decode cL_law 594 = .ok (.iaload, 1) := by decide +kernel
theorem dL_law_595 : decode cL_law 595 = .ok (.aload_n 3, 1) := by decide +kernel
theorem dL_law_596 : decode cL_law 596 = .ok (.invokestatic 188, 3) := by decide +kernel
theorem dL_law_599 : decode cL_law 599 = .ok (.istore 6, 2) := by decide +kernel
theorem dL_law_601 : decode cL_law 601 = .ok (.aload_n 2, 1) := by decide +kernel
theorem dL_law_602 : decode cL_law 602 = .ok (.aload_n 0, 1) := by decide +kernel
theorem dL_law_603 : decode cL_law 603 = .ok (.iload 5, 2) := by decide +kernel
theorem dL_law_605 : decode cL_law 605 = .ok (.iconst 1, 1) := by decide +kernel
theorem dL_law_606 : decode cL_law 606 = .ok (.iadd, 1) := by decide +kernel
theorem dL_law_607 : decode cL_law 607 = .ok (.iaload, 1) := by decide +kernel
theorem dL_law_608 : decode cL_law 608 = .ok (.invokevirtual 190, 3) := by decide +kernel
theorem dL_law_611 : decode cL_law 611 = .ok (.istore 7, 2) := by decide +kernel
theorem dL_law_613 : decode cL_law 613 = .ok (.aload_n 2, 1) := by decide +kernel
theorem dL_law_614 : decode cL_law 614 = .ok (.invokevirtual 172, 3) := by decide +kernel
theorem dL_law_617 : decode cL_law 617 = .ok (.iload 6, 2) := by decide +kernel
theorem dL_law_619 : decode cL_law 619 = .ok (.if_icmp .eq 5, 3) := by decide +kernel
theorem dL_law_622 : decode cL_law 622 = .ok (.iconst 0, 1) := by decide +kernel
theorem dL_law_623 : decode cL_law 623 = .ok (.ireturn, 1) := by decide +kernel
theorem dL_law_624 : decode cL_law 624 = .ok (.iload 6, 2) := by decide +kernel
theorem dL_law_626 : decode cL_law 626 = .ok (.ifCond .ne 15, 3) := by decide +kernel
theorem dL_law_629 : decode cL_law 629 = .ok (.aload_n 3, 1) := by decide +kernel
theorem dL_law_630 : decode cL_law 630 = .ok (.iconst 0, 1) := by decide +kernel
theorem dL_law_631 : decode cL_law 631 = .ok (.laload, 1) := by decide +kernel
theorem dL_law_632 : decode cL_law 632 = .ok (.iload 7, 2) := by decide +kernel
theorem dL_law_634 : decode cL_law 634 = .ok (.i2l, 1) := by decide +kernel
theorem dL_law_635 : decode cL_law 635 = .ok (.lcmp, 1) := by decide +kernel
theorem dL_law_636 : decode cL_law 636 = .ok (.ifCond .eq 5, 3) := by decide +kernel
theorem dL_law_639 : decode cL_law 639 = .ok (.iconst 0, 1) := by decide +kernel
theorem dL_law_640 : decode cL_law 640 = .ok (.ireturn, 1) := by decide +kernel
theorem dL_law_641 : decode cL_law 641 = .ok (.goto 2348, 3) := by decide +kernel
theorem dL_law_644 : decode cL_law 644 = .ok (.aload_n 1, 1) := by decide +kernel
theorem dL_law_645 : decode cL_law 645 = .ok (.invokevirtual 191, 3) := by decide +kernel
theorem dL_law_648 : decode cL_law 648 = .ok (.aload_n 2, 1) := by decide +kernel
theorem dL_law_649 : decode cL_law 649 = .ok (.invokevirtual 194, 3) := by decide +kernel
theorem dL_law_652 : decode cL_law 652 = .ok (.if_icmp .eq 2337, 3) := by decide +kernel
theorem dL_law_655 : decode cL_law 655 = .ok (.iconst 0, 1) := by decide +kernel
theorem dL_law_656 : decode cL_law 656 = .ok (.ireturn, 1) := by decide +kernel
theorem dL_law_657 : decode cL_law 657 = .ok (.aload_n 1, 1) := by decide +kernel
theorem dL_law_658 : decode cL_law 658 = .ok (.aload_n 0, 1) := by decide +kernel
theorem dL_law_659 : decode cL_law 659 = .ok (.iload 5, 2) := by decide +kernel
theorem dL_law_661 : decode cL_law 661 = .ok (.iconst 1, 1) := by decide +kernel
theorem dL_law_662 : decode cL_law 662 = .ok (.iadd, 1) := by decide +kernel
theorem dL_law_663 : decode cL_law 663 = .ok (.iaload, 1) := by decide +kernel
theorem dL_law_664 : decode cL_law 664 = .ok (.aload_n 3, 1) := by decide +kernel
theorem dL_law_665 : decode cL_law 665 = .ok (.invokestatic 195, 3) := by decide +kernel
theorem dL_law_668 : decode cL_law 668 = .ok (.istore 6, 2) := by decide +kernel
theorem dL_law_670 : decode cL_law 670 = .ok (.aload_n 2, 1) := by decide +kernel
theorem dL_law_671 : decode cL_law 671 = .ok (.aload_n 0, 1) := by decide +kernel
theorem dL_law_672 : decode cL_law 672 = .ok (.iload 5, 2) := by decide +kernel
theorem dL_law_674 : decode cL_law 674 = .ok (.iconst 1, 1) := by decide +kernel
theorem dL_law_675 : decode cL_law 675 = .ok (.iadd, 1) := by decide +kernel
theorem dL_law_676 : decode cL_law 676 = .ok (.iaload, 1) := by decide +kernel
theorem dL_law_677 : decode cL_law 677 = .ok (.invokevirtual 197, 3) := by decide +kernel
theorem dL_law_680 : decode cL_law 680 = .ok (.istore 7, 2) := by decide +kernel
theorem dL_law_682 : decode cL_law 682 = .ok (.aload_n 2, 1) := by decide +kernel
theorem dL_law_683 : decode cL_law 683 = .ok (.invokevirtual 172, 3) := by decide +kernel
theorem dL_law_686 : decode cL_law 686 = .ok (.iload 6, 2) := by decide +kernel
theorem dL_law_688 : decode cL_law 688 = .ok (.if_icmp .eq 5, 3) := by decide +kernel
theorem dL_law_691 : decode cL_law 691 = .ok (.iconst 0, 1) := by decide +kernel
theorem dL_law_692 : decode cL_law 692 = .ok (.ireturn, 1) := by decide +kernel
theorem dL_law_693 : decode cL_law 693 = .ok (.iload 6, 2) := by decide +kernel
theorem dL_law_695 : decode cL_law 695 = .ok (.ifCond .ne 15, 3) := by decide +kernel
theorem dL_law_698 : decode cL_law 698 = .ok (.aload_n 3, 1) := by decide +kernel
theorem dL_law_699 : decode cL_law 699 = .ok (.iconst 0, 1) := by decide +kernel
theorem dL_law_700 : decode cL_law 700 = .ok (.laload, 1) := by decide +kernel
theorem dL_law_701 : decode cL_law 701 = .ok (.iload 7, 2) := by decide +kernel
theorem dL_law_703 : decode cL_law 703 = .ok (.i2l, 1) := by decide +kernel
