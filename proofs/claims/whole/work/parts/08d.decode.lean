theorem dX9_acts_164 : decode cX9_acts 164 = .ok (.iconst 0, 1) := by decide +kernel
theorem dX9_acts_165 : decode cX9_acts 165 = .ok (.iastore, 1) := by decide +kernel
theorem dX9_acts_166 : decode cX9_acts 166 = .ok (.aload_n 0, 1) := by decide +kernel
theorem dX9_acts_167 : decode cX9_acts 167 = .ok (.iload_n 1, 1) := by decide +kernel
theorem dX9_acts_168 : decode cX9_acts 168 = .ok (.invokevirtual 81, 3) := by decide +kernel
theorem dX9_acts_171 : decode cX9_acts 171 = .ok (.iload_n 2, 1) := by decide +kernel
theorem dX9_acts_172 : decode cX9_acts 172 = .ok (.if_icmp .eq 5, 3) := by decide +kernel
theorem dX9_acts_175 : decode cX9_acts 175 = .ok (.iconst 0, 1) := by decide +kernel
theorem dX9_acts_176 : decode cX9_acts 176 = .ok (.ireturn, 1) := by decide +kernel
theorem dX9_acts_177 : decode cX9_acts 177 = .ok (.aload_n 0, 1) := by decide +kernel
theorem dX9_acts_178 : decode cX9_acts 178 = .ok (.iload_n 1, 1) := by decide +kernel
theorem dX9_acts_179 : decode cX9_acts 179 = .ok (.iconst 3, 1) := by decide +kernel
theorem dX9_acts_180 : decode cX9_acts 180 = .ok (.iconst 0, 1) := by decide +kernel
theorem dX9_acts_181 : decode cX9_acts 181 = .ok (.invokevirtual 105, 3) := by decide +kernel
theorem dX9_acts_184 : decode cX9_acts 184 = .ok (.aload_n 0, 1) := by decide +kernel
theorem dX9_acts_185 : decode cX9_acts 185 = .ok (.getfield 7, 3) := by decide +kernel
theorem dX9_acts_188 : decode cX9_acts 188 = .ok (.iconst 3, 1) := by decide +kernel
theorem dX9_acts_189 : decode cX9_acts 189 = .ok (.dup2, 1) := by decide +kernel
theorem dX9_acts_190 : decode cX9_acts 190 = .ok (.iaload, 1) := by decide +kernel
theorem dX9_acts_191 : decode cX9_acts 191 = .ok (.iconst 1, 1) := by decide +kernel
theorem dX9_acts_192 : decode cX9_acts 192 = .ok (.iadd, 1) := by decide +kernel
theorem dX9_acts_193 : decode cX9_acts 193 = .ok (.iastore, 1) := by decide +kernel
theorem dX9_acts_194 : decode cX9_acts 194 = .ok (.iconst 1, 1) := by decide +kernel
theorem dX9_acts_195 : decode cX9_acts 195 = .ok (.ireturn, 1) := by decide +kernel
theorem dX9_oneTick_0 : decode cX9_oneTick 0 = .ok (.iconst 0, 1) := by decide +kernel
theorem dX9_oneTick_1 : decode cX9_oneTick 1 = .ok (.istore_n 1, 1) := by decide +kernel
theorem dX9_oneTick_2 : decode cX9_oneTick 2 = .ok (.iconst 0, 1) := by decide +kernel
theorem dX9_oneTick_3 : decode cX9_oneTick 3 = .ok (.istore_n 2, 1) := by decide +kernel
theorem dX9_oneTick_4 : decode cX9_oneTick 4 = .ok (.iload_n 2, 1) := by decide +kernel
theorem dX9_oneTick_5 : decode cX9_oneTick 5 = .ok (.aload_n 0, 1) := by decide +kernel
theorem dX9_oneTick_6 : decode cX9_oneTick 6 = .ok (.getfield 7, 3) := by decide +kernel
theorem dX9_oneTick_9 : decode cX9_oneTick 9 = .ok (.iconst 1, 1) := by decide +kernel
theorem dX9_oneTick_10 : decode cX9_oneTick 10 = .ok (.iaload, 1) := by decide +kernel
theorem dX9_oneTick_11 : decode cX9_oneTick 11 = .ok (.if_icmp .ge 29, 3) := by decide +kernel
theorem dX9_oneTick_14 : decode cX9_oneTick 14 = .ok (.aload_n 0, 1) := by decide +kernel
theorem dX9_oneTick_15 : decode cX9_oneTick 15 = .ok (.iload_n 2, 1) := by decide +kernel
theorem dX9_oneTick_16 : decode cX9_oneTick 16 = .ok (.invokevirtual 118, 3) := by decide +kernel
theorem dX9_oneTick_19 : decode cX9_oneTick 19 = .ok (.istore_n 3, 1) := by decide +kernel
theorem dX9_oneTick_20 : decode cX9_oneTick 20 = .ok (.aload_n 0, 1) := by decide +kernel
theorem dX9_oneTick_21 : decode cX9_oneTick 21 = .ok (.iload_n 3, 1) := by decide +kernel
theorem dX9_oneTick_22 : decode cX9_oneTick 22 = .ok (.invokevirtual 121, 3) := by decide +kernel
theorem dX9_oneTick_25 : decode cX9_oneTick 25 = .ok (.ifCond .eq 9, 3) := by decide +kernel
theorem dX9_oneTick_28 : decode cX9_oneTick 28 = .ok (.iload_n 1, 1) := by decide +kernel
theorem dX9_oneTick_29 : decode cX9_oneTick 29 = .ok (.iconst 1, 1) := by decide +kernel
theorem dX9_oneTick_30 : decode cX9_oneTick 30 = .ok (.iload_n 3, 1) := by decide +kernel
theorem dX9_oneTick_31 : decode cX9_oneTick 31 = .ok (.ishl, 1) := by decide +kernel
theorem dX9_oneTick_32 : decode cX9_oneTick 32 = .ok (.ior, 1) := by decide +kernel
theorem dX9_oneTick_33 : decode cX9_oneTick 33 = .ok (.istore_n 1, 1) := by decide +kernel
theorem dX9_oneTick_34 : decode cX9_oneTick 34 = .ok (.iinc 2 1, 3) := by decide +kernel
theorem dX9_oneTick_37 : decode cX9_oneTick 37 = .ok (.goto (-33), 3) := by decide +kernel
theorem dX9_oneTick_40 : decode cX9_oneTick 40 = .ok (.aload_n 0, 1) := by decide +kernel
theorem dX9_oneTick_41 : decode cX9_oneTick 41 = .ok (.getfield 7, 3) := by decide +kernel
theorem dX9_oneTick_44 : decode cX9_oneTick 44 = .ok (.iconst 2, 1) := by decide +kernel
theorem dX9_oneTick_45 : decode cX9_oneTick 45 = .ok (.dup2, 1) := by decide +kernel
theorem dX9_oneTick_46 : decode cX9_oneTick 46 = .ok (.iaload, 1) := by decide +kernel
theorem dX9_oneTick_47 : decode cX9_oneTick 47 = .ok (.iconst 1, 1) := by decide +kernel
theorem dX9_oneTick_48 : decode cX9_oneTick 48 = .ok (.iadd, 1) := by decide +kernel
theorem dX9_oneTick_49 : decode cX9_oneTick 49 = .ok (.iastore, 1) := by decide +kernel
theorem dX9_oneTick_50 : decode cX9_oneTick 50 = .ok (.iload_n 1, 1) := by decide +kernel
theorem dX9_oneTick_51 : decode cX9_oneTick 51 = .ok (.ireturn, 1) := by decide +kernel
theorem dX9_passes_0 : decode cX9_passes 0 = .ok (.iload_n 1, 1) := by decide +kernel
theorem dX9_passes_1 : decode cX9_passes 1 = .ok (.iconst 1, 1) := by decide +kernel
theorem dX9_passes_2 : decode cX9_passes 2 = .ok (.bipush 50, 2) := by decide +kernel
theorem dX9_passes_4 : decode cX9_passes 4 = .ok (.invokestatic 63, 3) := by decide +kernel
theorem dX9_passes_7 : decode cX9_passes 7 = .ok (.ifCond .ne 5, 3) := by decide +kernel
theorem dX9_passes_10 : decode cX9_passes 10 = .ok (.iconst 1, 1) := by decide +kernel
theorem dX9_passes_11 : decode cX9_passes 11 = .ok (.ireturn, 1) := by decide +kernel
theorem dX9_passes_12 : decode cX9_passes 12 = .ok (.aload_n 0, 1) := by decide +kernel
theorem dX9_passes_13 : decode cX9_passes 13 = .ok (.getfield 7, 3) := by decide +kernel
theorem dX9_passes_16 : decode cX9_passes 16 = .ok (.iconst 3, 1) := by decide +kernel
theorem dX9_passes_17 : decode cX9_passes 17 = .ok (.iaload, 1) := by decide +kernel
theorem dX9_passes_18 : decode cX9_passes 18 = .ok (.istore_n 2, 1) := by decide +kernel
theorem dX9_passes_19 : decode cX9_passes 19 = .ok (.iconst 0, 1) := by decide +kernel
theorem dX9_passes_20 : decode cX9_passes 20 = .ok (.istore_n 3, 1) := by decide +kernel
theorem dX9_passes_21 : decode cX9_passes 21 = .ok (.iconst 0, 1) := by decide +kernel
theorem dX9_passes_22 : decode cX9_passes 22 = .ok (.istore 4, 2) := by decide +kernel
theorem dX9_passes_24 : decode cX9_passes 24 = .ok (.iload 4, 2) := by decide +kernel
theorem dX9_passes_26 : decode cX9_passes 26 = .ok (.iload_n 1, 1) := by decide +kernel
theorem dX9_passes_27 : decode cX9_passes 27 = .ok (.if_icmp .ge 14, 3) := by decide +kernel
theorem dX9_passes_30 : decode cX9_passes 30 = .ok (.aload_n 0, 1) := by decide +kernel
theorem dX9_passes_31 : decode cX9_passes 31 = .ok (.invokevirtual 124, 3) := by decide +kernel
theorem dX9_passes_34 : decode cX9_passes 34 = .ok (.istore_n 3, 1) := by decide +kernel
theorem dX9_passes_35 : decode cX9_passes 35 = .ok (.iinc 4 1, 3) := by decide +kernel
theorem dX9_passes_38 : decode cX9_passes 38 = .ok (.goto (-14), 3) := by decide +kernel
theorem dX9_passes_41 : decode cX9_passes 41 = .ok (.aload_n 0, 1) := by decide +kernel
theorem dX9_passes_42 : decode cX9_passes 42 = .ok (.aload_n 0, 1) := by decide +kernel
theorem dX9_passes_43 : decode cX9_passes 43 = .ok (.getfield 7, 3) := by decide +kernel
theorem dX9_passes_46 : decode cX9_passes 46 = .ok (.iconst 3, 1) := by decide +kernel
theorem dX9_passes_47 : decode cX9_passes 47 = .ok (.iaload, 1) := by decide +kernel
theorem dX9_passes_48 : decode cX9_passes 48 = .ok (.iload_n 2, 1) := by decide +kernel
theorem dX9_passes_49 : decode cX9_passes 49 = .ok (.isub, 1) := by decide +kernel
theorem dX9_passes_50 : decode cX9_passes 50 = .ok (.invokevirtual 88, 3) := by decide +kernel
theorem dX9_passes_53 : decode cX9_passes 53 = .ok (.ireturn, 1) := by decide +kernel
theorem dX9_addBlock_0 : decode cX9_addBlock 0 = .ok (.aload_n 0, 1) := by decide +kernel
theorem dX9_addBlock_1 : decode cX9_addBlock 1 = .ok (.invokevirtual 127, 3) := by decide +kernel
theorem dX9_addBlock_4 : decode cX9_addBlock 4 = .ok (.aload_n 0, 1) := by decide +kernel
theorem dX9_addBlock_5 : decode cX9_addBlock 5 = .ok (.aload_n 0, 1) := by decide +kernel
theorem dX9_addBlock_6 : decode cX9_addBlock 6 = .ok (.iload_n 1, 1) := by decide +kernel
theorem dX9_addBlock_7 : decode cX9_addBlock 7 = .ok (.iconst 0, 1) := by decide +kernel
theorem dX9_addBlock_8 : decode cX9_addBlock 8 = .ok (.invokevirtual 130, 3) := by decide +kernel
theorem dX9_addBlock_11 : decode cX9_addBlock 11 = .ok (.invokevirtual 133, 3) := by decide +kernel
theorem dX9_addBlock_14 : decode cX9_addBlock 14 = .ok (.ireturn, 1) := by decide +kernel
theorem dX9_addCushion_0 : decode cX9_addCushion 0 = .ok (.aload_n 0, 1) := by decide +kernel
theorem dX9_addCushion_1 : decode cX9_addCushion 1 = .ok (.invokevirtual 127, 3) := by decide +kernel
theorem dX9_addCushion_4 : decode cX9_addCushion 4 = .ok (.aload_n 0, 1) := by decide +kernel
theorem dX9_addCushion_5 : decode cX9_addCushion 5 = .ok (.aload_n 0, 1) := by decide +kernel
theorem dX9_addCushion_6 : decode cX9_addCushion 6 = .ok (.iload_n 1, 1) := by decide +kernel
theorem dX9_addCushion_7 : decode cX9_addCushion 7 = .ok (.iconst 1, 1) := by decide +kernel
theorem dX9_addCushion_8 : decode cX9_addCushion 8 = .ok (.invokevirtual 130, 3) := by decide +kernel
theorem dX9_addCushion_11 : decode cX9_addCushion 11 = .ok (.invokevirtual 133, 3) := by decide +kernel
theorem dX9_addCushion_14 : decode cX9_addCushion 14 = .ok (.ireturn, 1) := by decide +kernel
theorem dX9_link_0 : decode cX9_link 0 = .ok (.aload_n 0, 1) := by decide +kernel
theorem dX9_link_1 : decode cX9_link 1 = .ok (.invokevirtual 127, 3) := by decide +kernel
theorem dX9_link_4 : decode cX9_link 4 = .ok (.aload_n 0, 1) := by decide +kernel
theorem dX9_link_5 : decode cX9_link 5 = .ok (.aload_n 0, 1) := by decide +kernel
theorem dX9_link_6 : decode cX9_link 6 = .ok (.iload_n 1, 1) := by decide +kernel
theorem dX9_link_7 : decode cX9_link 7 = .ok (.iload_n 2, 1) := by decide +kernel
theorem dX9_link_8 : decode cX9_link 8 = .ok (.invokevirtual 136, 3) := by decide +kernel
theorem dX9_link_11 : decode cX9_link 11 = .ok (.invokevirtual 133, 3) := by decide +kernel
theorem dX9_link_14 : decode cX9_link 14 = .ok (.ireturn, 1) := by decide +kernel
theorem dX9_unlink_0 : decode cX9_unlink 0 = .ok (.aload_n 0, 1) := by decide +kernel
theorem dX9_unlink_1 : decode cX9_unlink 1 = .ok (.invokevirtual 127, 3) := by decide +kernel
theorem dX9_unlink_4 : decode cX9_unlink 4 = .ok (.aload_n 0, 1) := by decide +kernel
theorem dX9_unlink_5 : decode cX9_unlink 5 = .ok (.aload_n 0, 1) := by decide +kernel
theorem dX9_unlink_6 : decode cX9_unlink 6 = .ok (.iload_n 1, 1) := by decide +kernel
theorem dX9_unlink_7 : decode cX9_unlink 7 = .ok (.iload_n 2, 1) := by decide +kernel
theorem dX9_unlink_8 : decode cX9_unlink 8 = .ok (.invokevirtual 139, 3) := by decide +kernel
theorem dX9_unlink_11 : decode cX9_unlink 11 = .ok (.invokevirtual 133, 3) := by decide +kernel
theorem dX9_unlink_14 : decode cX9_unlink 14 = .ok (.ireturn, 1) := by decide +kernel
theorem dX9_putCat_0 : decode cX9_putCat 0 = .ok (.aload_n 0, 1) := by decide +kernel
theorem dX9_putCat_1 : decode cX9_putCat 1 = .ok (.invokevirtual 127, 3) := by decide +kernel
theorem dX9_putCat_4 : decode cX9_putCat 4 = .ok (.aload_n 0, 1) := by decide +kernel
theorem dX9_putCat_5 : decode cX9_putCat 5 = .ok (.aload_n 0, 1) := by decide +kernel
theorem dX9_putCat_6 : decode cX9_putCat 6 = .ok (.iload_n 1, 1) := by decide +kernel
theorem dX9_putCat_7 : decode cX9_putCat 7 = .ok (.invokevirtual 142, 3) := by decide +kernel
theorem dX9_putCat_10 : decode cX9_putCat 10 = .ok (.invokevirtual 133, 3) := by decide +kernel
theorem dX9_putCat_13 : decode cX9_putCat 13 = .ok (.ireturn, 1) := by decide +kernel
theorem dX9_removeCat_0 : decode cX9_removeCat 0 = .ok (.aload_n 0, 1) := by decide +kernel
theorem dX9_removeCat_1 : decode cX9_removeCat 1 = .ok (.invokevirtual 127, 3) := by decide +kernel
theorem dX9_removeCat_4 : decode cX9_removeCat 4 = .ok (.aload_n 0, 1) := by decide +kernel
theorem dX9_removeCat_5 : decode cX9_removeCat 5 = .ok (.aload_n 0, 1) := by decide +kernel
theorem dX9_removeCat_6 : decode cX9_removeCat 6 = .ok (.iload_n 1, 1) := by decide +kernel
theorem dX9_removeCat_7 : decode cX9_removeCat 7 = .ok (.invokevirtual 145, 3) := by decide +kernel
theorem dX9_removeCat_10 : decode cX9_removeCat 10 = .ok (.invokevirtual 133, 3) := by decide +kernel
theorem dX9_removeCat_13 : decode cX9_removeCat 13 = .ok (.ireturn, 1) := by decide +kernel
theorem dX9_blockCount_0 : decode cX9_blockCount 0 = .ok (.aload_n 0, 1) := by decide +kernel
theorem dX9_blockCount_1 : decode cX9_blockCount 1 = .ok (.iconst 0, 1) := by decide +kernel
theorem dX9_blockCount_2 : decode cX9_blockCount 2 = .ok (.putfield 47, 3) := by decide +kernel
theorem dX9_blockCount_5 : decode cX9_blockCount 5 = .ok (.aload_n 0, 1) := by decide +kernel
theorem dX9_blockCount_6 : decode cX9_blockCount 6 = .ok (.getfield 7, 3) := by decide +kernel
theorem dX9_blockCount_9 : decode cX9_blockCount 9 = .ok (.iconst 0, 1) := by decide +kernel
theorem dX9_blockCount_10 : decode cX9_blockCount 10 = .ok (.iaload, 1) := by decide +kernel
theorem dX9_blockCount_11 : decode cX9_blockCount 11 = .ok (.ireturn, 1) := by decide +kernel
theorem dX9_askedBlock_0 : decode cX9_askedBlock 0 = .ok (.aload_n 0, 1) := by decide +kernel
theorem dX9_askedBlock_1 : decode cX9_askedBlock 1 = .ok (.aload_n 0, 1) := by decide +kernel
theorem dX9_askedBlock_2 : decode cX9_askedBlock 2 = .ok (.iload_n 1, 1) := by decide +kernel
theorem dX9_askedBlock_3 : decode cX9_askedBlock 3 = .ok (.invokevirtual 91, 3) := by decide +kernel
theorem dX9_askedBlock_6 : decode cX9_askedBlock 6 = .ok (.ifCond .eq 7, 3) := by decide +kernel
theorem dX9_askedBlock_9 : decode cX9_askedBlock 9 = .ok (.iconst 0, 1) := by decide +kernel
theorem dX9_askedBlock_10 : decode cX9_askedBlock 10 = .ok (.goto 4, 3) := by decide +kernel
theorem dX9_askedBlock_13 : decode cX9_askedBlock 13 = .ok (.iconst 1, 1) := by decide +kernel
theorem dX9_askedBlock_14 : decode cX9_askedBlock 14 = .ok (.putfield 47, 3) := by decide +kernel
theorem dX9_askedBlock_17 : decode cX9_askedBlock 17 = .ok (.aload_n 0, 1) := by decide +kernel
theorem dX9_askedBlock_18 : decode cX9_askedBlock 18 = .ok (.getfield 47, 3) := by decide +kernel
theorem dX9_askedBlock_21 : decode cX9_askedBlock 21 = .ok (.ifCond .le 7, 3) := by decide +kernel
theorem dX9_askedBlock_24 : decode cX9_askedBlock 24 = .ok (.iconst 0, 1) := by decide +kernel
theorem dX9_askedBlock_25 : decode cX9_askedBlock 25 = .ok (.goto 9, 3) := by decide +kernel
theorem dX9_askedBlock_28 : decode cX9_askedBlock 28 = .ok (.aload_n 0, 1) := by decide +kernel
theorem dX9_askedBlock_29 : decode cX9_askedBlock 29 = .ok (.iload_n 1, 1) := by decide +kernel
theorem dX9_askedBlock_30 : decode cX9_askedBlock 30 = .ok (.iload_n 2, 1) := by decide +kernel
theorem dX9_askedBlock_31 : decode cX9_askedBlock 31 = .ok (.invokevirtual 71, 3) := by decide +kernel
theorem dX9_askedBlock_34 : decode cX9_askedBlock 34 = .ok (.ireturn, 1) := by decide +kernel
theorem dX9_length_0 : decode cX9_length 0 = .ok (.aload_n 0, 1) := by decide +kernel
theorem dX9_length_1 : decode cX9_length 1 = .ok (.iload_n 1, 1) := by decide +kernel
theorem dX9_length_2 : decode cX9_length 2 = .ok (.iconst 0, 1) := by decide +kernel
theorem dX9_length_3 : decode cX9_length 3 = .ok (.invokevirtual 148, 3) := by decide +kernel
theorem dX9_length_6 : decode cX9_length 6 = .ok (.ireturn, 1) := by decide +kernel
theorem dX9_isCushion_0 : decode cX9_isCushion 0 = .ok (.aload_n 0, 1) := by decide +kernel
theorem dX9_isCushion_1 : decode cX9_isCushion 1 = .ok (.iload_n 1, 1) := by decide +kernel
theorem dX9_isCushion_2 : decode cX9_isCushion 2 = .ok (.iconst 1, 1) := by decide +kernel
theorem dX9_isCushion_3 : decode cX9_isCushion 3 = .ok (.invokevirtual 148, 3) := by decide +kernel
theorem dX9_isCushion_6 : decode cX9_isCushion 6 = .ok (.iconst 1, 1) := by decide +kernel
theorem dX9_isCushion_7 : decode cX9_isCushion 7 = .ok (.if_icmp .ne 7, 3) := by decide +kernel
theorem dX9_isCushion_10 : decode cX9_isCushion 10 = .ok (.iconst 1, 1) := by decide +kernel
theorem dX9_isCushion_11 : decode cX9_isCushion 11 = .ok (.goto 4, 3) := by decide +kernel
theorem dX9_isCushion_14 : decode cX9_isCushion 14 = .ok (.iconst 0, 1) := by decide +kernel
theorem dX9_isCushion_15 : decode cX9_isCushion 15 = .ok (.ireturn, 1) := by decide +kernel
theorem dX9_hasCat_0 : decode cX9_hasCat 0 = .ok (.aload_n 0, 1) := by decide +kernel
theorem dX9_hasCat_1 : decode cX9_hasCat 1 = .ok (.iload_n 1, 1) := by decide +kernel
theorem dX9_hasCat_2 : decode cX9_hasCat 2 = .ok (.iconst 2, 1) := by decide +kernel
theorem dX9_hasCat_3 : decode cX9_hasCat 3 = .ok (.invokevirtual 148, 3) := by decide +kernel
theorem dX9_hasCat_6 : decode cX9_hasCat 6 = .ok (.iconst 1, 1) := by decide +kernel
theorem dX9_hasCat_7 : decode cX9_hasCat 7 = .ok (.if_icmp .ne 7, 3) := by decide +kernel
theorem dX9_hasCat_10 : decode cX9_hasCat 10 = .ok (.iconst 1, 1) := by decide +kernel
theorem dX9_hasCat_11 : decode cX9_hasCat 11 = .ok (.goto 4, 3) := by decide +kernel
theorem dX9_hasCat_14 : decode cX9_hasCat 14 = .ok (.iconst 0, 1) := by decide +kernel
theorem dX9_hasCat_15 : decode cX9_hasCat 15 = .ok (.ireturn, 1) := by decide +kernel
theorem dX9_areLinked_0 : decode cX9_areLinked 0 = .ok (.aload_n 0, 1) := by decide +kernel
theorem dX9_areLinked_1 : decode cX9_areLinked 1 = .ok (.aload_n 0, 1) := by decide +kernel
theorem dX9_areLinked_2 : decode cX9_areLinked 2 = .ok (.iload_n 1, 1) := by decide +kernel
theorem dX9_areLinked_3 : decode cX9_areLinked 3 = .ok (.invokevirtual 91, 3) := by decide +kernel
theorem dX9_areLinked_6 : decode cX9_areLinked 6 = .ok (.ifCond .eq 15, 3) := by decide +kernel
theorem dX9_areLinked_9 : decode cX9_areLinked 9 = .ok (.aload_n 0, 1) := by decide +kernel
theorem dX9_areLinked_10 : decode cX9_areLinked 10 = .ok (.iload_n 2, 1) := by decide +kernel
theorem dX9_areLinked_11 : decode cX9_areLinked 11 = .ok (.invokevirtual 91, 3) := by decide +kernel
theorem dX9_areLinked_14 : decode cX9_areLinked 14 = .ok (.ifCond .eq 7, 3) := by decide +kernel
theorem dX9_areLinked_17 : decode cX9_areLinked 17 = .ok (.iconst 0, 1) := by decide +kernel
theorem dX9_areLinked_18 : decode cX9_areLinked 18 = .ok (.goto 4, 3) := by decide +kernel
theorem dX9_areLinked_21 : decode cX9_areLinked 21 = .ok (.iconst 1, 1) := by decide +kernel
theorem dX9_areLinked_22 : decode cX9_areLinked 22 = .ok (.putfield 47, 3) := by decide +kernel
theorem dX9_areLinked_25 : decode cX9_areLinked 25 = .ok (.aload_n 0, 1) := by decide +kernel
theorem dX9_areLinked_26 : decode cX9_areLinked 26 = .ok (.getfield 47, 3) := by decide +kernel
theorem dX9_areLinked_29 : decode cX9_areLinked 29 = .ok (.ifCond .ne 16, 3) := by decide +kernel
theorem dX9_areLinked_32 : decode cX9_areLinked 32 = .ok (.aload_n 0, 1) := by decide +kernel
theorem dX9_areLinked_33 : decode cX9_areLinked 33 = .ok (.iload_n 1, 1) := by decide +kernel
theorem dX9_areLinked_34 : decode cX9_areLinked 34 = .ok (.iload_n 2, 1) := by decide +kernel
theorem dX9_areLinked_35 : decode cX9_areLinked 35 = .ok (.invokevirtual 67, 3) := by decide +kernel
theorem dX9_areLinked_38 : decode cX9_areLinked 38 = .ok (.ifCond .eq 7, 3) := by decide +kernel
theorem dX9_areLinked_41 : decode cX9_areLinked 41 = .ok (.iconst 1, 1) := by decide +kernel
theorem dX9_areLinked_42 : decode cX9_areLinked 42 = .ok (.goto 4, 3) := by decide +kernel
theorem dX9_areLinked_45 : decode cX9_areLinked 45 = .ok (.iconst 0, 1) := by decide +kernel
theorem dX9_areLinked_46 : decode cX9_areLinked 46 = .ok (.ireturn, 1) := by decide +kernel
theorem dX9_degree_0 : decode cX9_degree 0 = .ok (.aload_n 0, 1) := by decide +kernel
theorem dX9_degree_1 : decode cX9_degree 1 = .ok (.aload_n 0, 1) := by decide +kernel
theorem dX9_degree_2 : decode cX9_degree 2 = .ok (.iload_n 1, 1) := by decide +kernel
theorem dX9_degree_3 : decode cX9_degree 3 = .ok (.invokevirtual 91, 3) := by decide +kernel
theorem dX9_degree_6 : decode cX9_degree 6 = .ok (.ifCond .eq 7, 3) := by decide +kernel
theorem dX9_degree_9 : decode cX9_degree 9 = .ok (.iconst 0, 1) := by decide +kernel
theorem dX9_degree_10 : decode cX9_degree 10 = .ok (.goto 4, 3) := by decide +kernel
theorem dX9_degree_13 : decode cX9_degree 13 = .ok (.iconst 1, 1) := by decide +kernel
theorem dX9_degree_14 : decode cX9_degree 14 = .ok (.putfield 47, 3) := by decide +kernel
theorem dX9_degree_17 : decode cX9_degree 17 = .ok (.iconst 0, 1) := by decide +kernel
theorem dX9_degree_18 : decode cX9_degree 18 = .ok (.istore_n 2, 1) := by decide +kernel
theorem dX9_degree_19 : decode cX9_degree 19 = .ok (.iconst 0, 1) := by decide +kernel
theorem dX9_degree_20 : decode cX9_degree 20 = .ok (.istore_n 3, 1) := by decide +kernel
theorem dX9_degree_21 : decode cX9_degree 21 = .ok (.iload_n 3, 1) := by decide +kernel
theorem dX9_degree_22 : decode cX9_degree 22 = .ok (.aload_n 0, 1) := by decide +kernel
theorem dX9_degree_23 : decode cX9_degree 23 = .ok (.getfield 7, 3) := by decide +kernel
theorem dX9_degree_26 : decode cX9_degree 26 = .ok (.iconst 0, 1) := by decide +kernel
theorem dX9_degree_27 : decode cX9_degree 27 = .ok (.iaload, 1) := by decide +kernel
theorem dX9_degree_28 : decode cX9_degree 28 = .ok (.if_icmp .ge 33, 3) := by decide +kernel
theorem dX9_degree_31 : decode cX9_degree 31 = .ok (.aload_n 0, 1) := by decide +kernel
theorem dX9_degree_32 : decode cX9_degree 32 = .ok (.getfield 47, 3) := by decide +kernel
theorem dX9_degree_35 : decode cX9_degree 35 = .ok (.ifCond .ne 26, 3) := by decide +kernel
theorem dX9_degree_38 : decode cX9_degree 38 = .ok (.iload_n 2, 1) := by decide +kernel
theorem dX9_degree_39 : decode cX9_degree 39 = .ok (.aload_n 0, 1) := by decide +kernel
theorem dX9_degree_40 : decode cX9_degree 40 = .ok (.iload_n 1, 1) := by decide +kernel
theorem dX9_degree_41 : decode cX9_degree 41 = .ok (.iload_n 3, 1) := by decide +kernel
theorem dX9_degree_42 : decode cX9_degree 42 = .ok (.invokevirtual 67, 3) := by decide +kernel
theorem dX9_degree_45 : decode cX9_degree 45 = .ok (.ifCond .eq 7, 3) := by decide +kernel
theorem dX9_degree_48 : decode cX9_degree 48 = .ok (.iconst 1, 1) := by decide +kernel
theorem dX9_degree_49 : decode cX9_degree 49 = .ok (.goto 4, 3) := by decide +kernel
theorem dX9_degree_52 : decode cX9_degree 52 = .ok (.iconst 0, 1) := by decide +kernel
theorem dX9_degree_53 : decode cX9_degree 53 = .ok (.iadd, 1) := by decide +kernel
theorem dX9_degree_54 : decode cX9_degree 54 = .ok (.istore_n 2, 1) := by decide +kernel
theorem dX9_degree_55 : decode cX9_degree 55 = .ok (.iinc 3 1, 3) := by decide +kernel
theorem dX9_degree_58 : decode cX9_degree 58 = .ok (.goto (-37), 3) := by decide +kernel
theorem dX9_degree_61 : decode cX9_degree 61 = .ok (.iload_n 2, 1) := by decide +kernel
theorem dX9_degree_62 : decode cX9_degree 62 = .ok (.ireturn, 1) := by decide +kernel
theorem dX9_trainIn_0 : decode cX9_trainIn 0 = .ok (.aload_n 0, 1) := by decide +kernel
theorem dX9_trainIn_1 : decode cX9_trainIn 1 = .ok (.aload_n 0, 1) := by decide +kernel
theorem dX9_trainIn_2 : decode cX9_trainIn 2 = .ok (.iload_n 1, 1) := by decide +kernel
theorem dX9_trainIn_3 : decode cX9_trainIn 3 = .ok (.invokevirtual 91, 3) := by decide +kernel
theorem dX9_trainIn_6 : decode cX9_trainIn 6 = .ok (.ifCond .ne 7, 3) := by decide +kernel
theorem dX9_trainIn_9 : decode cX9_trainIn 9 = .ok (.iconst 1, 1) := by decide +kernel
theorem dX9_trainIn_10 : decode cX9_trainIn 10 = .ok (.goto 17, 3) := by decide +kernel
theorem dX9_trainIn_13 : decode cX9_trainIn 13 = .ok (.aload_n 0, 1) := by decide +kernel
theorem dX9_trainIn_14 : decode cX9_trainIn 14 = .ok (.iload_n 1, 1) := by decide +kernel
theorem dX9_trainIn_15 : decode cX9_trainIn 15 = .ok (.invokevirtual 99, 3) := by decide +kernel
theorem dX9_trainIn_18 : decode cX9_trainIn 18 = .ok (.iconst (-1), 1) := by decide +kernel
theorem dX9_trainIn_19 : decode cX9_trainIn 19 = .ok (.if_icmp .ne 7, 3) := by decide +kernel
theorem dX9_trainIn_22 : decode cX9_trainIn 22 = .ok (.iconst 2, 1) := by decide +kernel
theorem dX9_trainIn_23 : decode cX9_trainIn 23 = .ok (.goto 4, 3) := by decide +kernel
theorem dX9_trainIn_26 : decode cX9_trainIn 26 = .ok (.iconst 0, 1) := by decide +kernel
theorem dX9_trainIn_27 : decode cX9_trainIn 27 = .ok (.putfield 47, 3) := by decide +kernel
theorem dX9_trainIn_30 : decode cX9_trainIn 30 = .ok (.aload_n 0, 1) := by decide +kernel
theorem dX9_trainIn_31 : decode cX9_trainIn 31 = .ok (.getfield 47, 3) := by decide +kernel
theorem dX9_trainIn_34 : decode cX9_trainIn 34 = .ok (.ifCond .le 7, 3) := by decide +kernel
theorem dX9_trainIn_37 : decode cX9_trainIn 37 = .ok (.iconst 0, 1) := by decide +kernel
theorem dX9_trainIn_38 : decode cX9_trainIn 38 = .ok (.goto 8, 3) := by decide +kernel
theorem dX9_trainIn_41 : decode cX9_trainIn 41 = .ok (.aload_n 0, 1) := by decide +kernel
theorem dX9_trainIn_42 : decode cX9_trainIn 42 = .ok (.iload_n 1, 1) := by decide +kernel
theorem dX9_trainIn_43 : decode cX9_trainIn 43 = .ok (.invokevirtual 99, 3) := by decide +kernel
theorem dX9_trainIn_46 : decode cX9_trainIn 46 = .ok (.ireturn, 1) := by decide +kernel
theorem dX9_reservedBy_0 : decode cX9_reservedBy 0 = .ok (.aload_n 0, 1) := by decide +kernel
theorem dX9_reservedBy_1 : decode cX9_reservedBy 1 = .ok (.aload_n 0, 1) := by decide +kernel
theorem dX9_reservedBy_2 : decode cX9_reservedBy 2 = .ok (.iload_n 1, 1) := by decide +kernel
theorem dX9_reservedBy_3 : decode cX9_reservedBy 3 = .ok (.invokevirtual 91, 3) := by decide +kernel
theorem dX9_reservedBy_6 : decode cX9_reservedBy 6 = .ok (.ifCond .ne 7, 3) := by decide +kernel
theorem dX9_reservedBy_9 : decode cX9_reservedBy 9 = .ok (.iconst 1, 1) := by decide +kernel
theorem dX9_reservedBy_10 : decode cX9_reservedBy 10 = .ok (.goto 17, 3) := by decide +kernel
theorem dX9_reservedBy_13 : decode cX9_reservedBy 13 = .ok (.aload_n 0, 1) := by decide +kernel
theorem dX9_reservedBy_14 : decode cX9_reservedBy 14 = .ok (.iload_n 1, 1) := by decide +kernel
theorem dX9_reservedBy_15 : decode cX9_reservedBy 15 = .ok (.invokevirtual 78, 3) := by decide +kernel
theorem dX9_reservedBy_18 : decode cX9_reservedBy 18 = .ok (.iconst (-1), 1) := by decide +kernel
theorem dX9_reservedBy_19 : decode cX9_reservedBy 19 = .ok (.if_icmp .ne 7, 3) := by decide +kernel
theorem dX9_reservedBy_22 : decode cX9_reservedBy 22 = .ok (.iconst 2, 1) := by decide +kernel
theorem dX9_reservedBy_23 : decode cX9_reservedBy 23 = .ok (.goto 4, 3) := by decide +kernel
theorem dX9_reservedBy_26 : decode cX9_reservedBy 26 = .ok (.iconst 0, 1) := by decide +kernel
theorem dX9_reservedBy_27 : decode cX9_reservedBy 27 = .ok (.putfield 47, 3) := by decide +kernel
theorem dX9_reservedBy_30 : decode cX9_reservedBy 30 = .ok (.aload_n 0, 1) := by decide +kernel
theorem dX9_reservedBy_31 : decode cX9_reservedBy 31 = .ok (.getfield 47, 3) := by decide +kernel
theorem dX9_reservedBy_34 : decode cX9_reservedBy 34 = .ok (.ifCond .le 7, 3) := by decide +kernel
theorem dX9_reservedBy_37 : decode cX9_reservedBy 37 = .ok (.iconst 0, 1) := by decide +kernel
theorem dX9_reservedBy_38 : decode cX9_reservedBy 38 = .ok (.goto 8, 3) := by decide +kernel
theorem dX9_reservedBy_41 : decode cX9_reservedBy 41 = .ok (.aload_n 0, 1) := by decide +kernel
theorem dX9_reservedBy_42 : decode cX9_reservedBy 42 = .ok (.iload_n 1, 1) := by decide +kernel
theorem dX9_reservedBy_43 : decode cX9_reservedBy 43 = .ok (.invokevirtual 78, 3) := by decide +kernel
theorem dX9_reservedBy_46 : decode cX9_reservedBy 46 = .ok (.ireturn, 1) := by decide +kernel
theorem dX9_sign_0 : decode cX9_sign 0 = .ok (.aload_n 0, 1) := by decide +kernel
theorem dX9_sign_1 : decode cX9_sign 1 = .ok (.iload_n 1, 1) := by decide +kernel
theorem dX9_sign_2 : decode cX9_sign 2 = .ok (.iconst 2, 1) := by decide +kernel
theorem dX9_sign_3 : decode cX9_sign 3 = .ok (.invokevirtual 71, 3) := by decide +kernel
theorem dX9_sign_6 : decode cX9_sign 6 = .ok (.iconst 1, 1) := by decide +kernel
theorem dX9_sign_7 : decode cX9_sign 7 = .ok (.if_icmp .ne 8, 3) := by decide +kernel
theorem dX9_sign_10 : decode cX9_sign 10 = .ok (.bipush 99, 2) := by decide +kernel
theorem dX9_sign_12 : decode cX9_sign 12 = .ok (.goto 33, 3) := by decide +kernel
theorem dX9_sign_15 : decode cX9_sign 15 = .ok (.aload_n 0, 1) := by decide +kernel
theorem dX9_sign_16 : decode cX9_sign 16 = .ok (.iload_n 1, 1) := by decide +kernel
theorem dX9_sign_17 : decode cX9_sign 17 = .ok (.invokevirtual 99, 3) := by decide +kernel
theorem dX9_sign_20 : decode cX9_sign 20 = .ok (.iconst (-1), 1) := by decide +kernel
theorem dX9_sign_21 : decode cX9_sign 21 = .ok (.if_icmp .eq 8, 3) := by decide +kernel
theorem dX9_sign_24 : decode cX9_sign 24 = .ok (.bipush 111, 2) := by decide +kernel
theorem dX9_sign_26 : decode cX9_sign 26 = .ok (.goto 19, 3) := by decide +kernel
theorem dX9_sign_29 : decode cX9_sign 29 = .ok (.aload_n 0, 1) := by decide +kernel
theorem dX9_sign_30 : decode cX9_sign 30 = .ok (.iload_n 1, 1) := by decide +kernel
theorem dX9_sign_31 : decode cX9_sign 31 = .ok (.invokevirtual 78, 3) := by decide +kernel
theorem dX9_sign_34 : decode cX9_sign 34 = .ok (.iconst (-1), 1) := by decide +kernel
theorem dX9_sign_35 : decode cX9_sign 35 = .ok (.if_icmp .eq 8, 3) := by decide +kernel
theorem dX9_sign_38 : decode cX9_sign 38 = .ok (.bipush 114, 2) := by decide +kernel
theorem dX9_sign_40 : decode cX9_sign 40 = .ok (.goto 5, 3) := by decide +kernel
theorem dX9_sign_43 : decode cX9_sign 43 = .ok (.bipush 102, 2) := by decide +kernel
theorem dX9_sign_45 : decode cX9_sign 45 = .ok (.ireturn, 1) := by decide +kernel
theorem dX9_signal_0 : decode cX9_signal 0 = .ok (.aload_n 0, 1) := by decide +kernel
theorem dX9_signal_1 : decode cX9_signal 1 = .ok (.aload_n 0, 1) := by decide +kernel
theorem dX9_signal_2 : decode cX9_signal 2 = .ok (.iload_n 1, 1) := by decide +kernel
theorem dX9_signal_3 : decode cX9_signal 3 = .ok (.invokevirtual 91, 3) := by decide +kernel
theorem dX9_signal_6 : decode cX9_signal 6 = .ok (.ifCond .eq 7, 3) := by decide +kernel
theorem dX9_signal_9 : decode cX9_signal 9 = .ok (.iconst 0, 1) := by decide +kernel
theorem dX9_signal_10 : decode cX9_signal 10 = .ok (.goto 4, 3) := by decide +kernel
theorem dX9_signal_13 : decode cX9_signal 13 = .ok (.iconst 1, 1) := by decide +kernel
theorem dX9_signal_14 : decode cX9_signal 14 = .ok (.putfield 47, 3) := by decide +kernel
theorem dX9_signal_17 : decode cX9_signal 17 = .ok (.aload_n 0, 1) := by decide +kernel
theorem dX9_signal_18 : decode cX9_signal 18 = .ok (.getfield 47, 3) := by decide +kernel
theorem dX9_signal_21 : decode cX9_signal 21 = .ok (.ifCond .le 7, 3) := by decide +kernel
theorem dX9_signal_24 : decode cX9_signal 24 = .ok (.iconst 0, 1) := by decide +kernel
theorem dX9_signal_25 : decode cX9_signal 25 = .ok (.goto 9, 3) := by decide +kernel
theorem dX9_signal_28 : decode cX9_signal 28 = .ok (.aload_n 0, 1) := by decide +kernel
theorem dX9_signal_29 : decode cX9_signal 29 = .ok (.iload_n 1, 1) := by decide +kernel
theorem dX9_signal_30 : decode cX9_signal 30 = .ok (.invokevirtual 151, 3) := by decide +kernel
theorem dX9_signal_33 : decode cX9_signal 33 = .ok (.i2c, 1) := by decide +kernel
theorem dX9_signal_34 : decode cX9_signal 34 = .ok (.ireturn, 1) := by decide +kernel
theorem dX9_distance_0 : decode cX9_distance 0 = .ok (.aload_n 0, 1) := by decide +kernel
theorem dX9_distance_1 : decode cX9_distance 1 = .ok (.aload_n 0, 1) := by decide +kernel
theorem dX9_distance_2 : decode cX9_distance 2 = .ok (.iload_n 1, 1) := by decide +kernel
theorem dX9_distance_3 : decode cX9_distance 3 = .ok (.invokevirtual 91, 3) := by decide +kernel
theorem dX9_distance_6 : decode cX9_distance 6 = .ok (.ifCond .eq 15, 3) := by decide +kernel
theorem dX9_distance_9 : decode cX9_distance 9 = .ok (.aload_n 0, 1) := by decide +kernel
theorem dX9_distance_10 : decode cX9_distance 10 = .ok (.iload_n 2, 1) := by decide +kernel
theorem dX9_distance_11 : decode cX9_distance 11 = .ok (.invokevirtual 91, 3) := by decide +kernel
theorem dX9_distance_14 : decode cX9_distance 14 = .ok (.ifCond .eq 7, 3) := by decide +kernel
theorem dX9_distance_17 : decode cX9_distance 17 = .ok (.iconst 0, 1) := by decide +kernel
theorem dX9_distance_18 : decode cX9_distance 18 = .ok (.goto 4, 3) := by decide +kernel
theorem dX9_distance_21 : decode cX9_distance 21 = .ok (.iconst 1, 1) := by decide +kernel
theorem dX9_distance_22 : decode cX9_distance 22 = .ok (.putfield 47, 3) := by decide +kernel
theorem dX9_distance_25 : decode cX9_distance 25 = .ok (.aload_n 0, 1) := by decide +kernel
theorem dX9_distance_26 : decode cX9_distance 26 = .ok (.getfield 47, 3) := by decide +kernel
theorem dX9_distance_29 : decode cX9_distance 29 = .ok (.ifCond .le 5, 3) := by decide +kernel
theorem dX9_distance_32 : decode cX9_distance 32 = .ok (.iconst 0, 1) := by decide +kernel
theorem dX9_distance_33 : decode cX9_distance 33 = .ok (.ireturn, 1) := by decide +kernel
theorem dX9_distance_34 : decode cX9_distance 34 = .ok (.aload_n 0, 1) := by decide +kernel
theorem dX9_distance_35 : decode cX9_distance 35 = .ok (.iload_n 2, 1) := by decide +kernel
theorem dX9_distance_36 : decode cX9_distance 36 = .ok (.invokevirtual 84, 3) := by decide +kernel
theorem dX9_distance_39 : decode cX9_distance 39 = .ok (.aload_n 0, 1) := by decide +kernel
theorem dX9_distance_40 : decode cX9_distance 40 = .ok (.getfield 34, 3) := by decide +kernel
theorem dX9_distance_43 : decode cX9_distance 43 = .ok (.iload_n 1, 1) := by decide +kernel
theorem dX9_distance_44 : decode cX9_distance 44 = .ok (.iaload, 1) := by decide +kernel
theorem dX9_distance_45 : decode cX9_distance 45 = .ok (.sipush 9999, 3) := by decide +kernel
theorem dX9_distance_48 : decode cX9_distance 48 = .ok (.if_icmp .ge 12, 3) := by decide +kernel
theorem dX9_distance_51 : decode cX9_distance 51 = .ok (.aload_n 0, 1) := by decide +kernel
theorem dX9_distance_52 : decode cX9_distance 52 = .ok (.getfield 34, 3) := by decide +kernel
theorem dX9_distance_55 : decode cX9_distance 55 = .ok (.iload_n 1, 1) := by decide +kernel
theorem dX9_distance_56 : decode cX9_distance 56 = .ok (.iaload, 1) := by decide +kernel
theorem dX9_distance_57 : decode cX9_distance 57 = .ok (.goto 8, 3) := by decide +kernel
theorem dX9_distance_60 : decode cX9_distance 60 = .ok (.aload_n 0, 1) := by decide +kernel
theorem dX9_distance_61 : decode cX9_distance 61 = .ok (.iconst 2, 1) := by decide +kernel
theorem dX9_distance_62 : decode cX9_distance 62 = .ok (.invokevirtual 60, 3) := by decide +kernel
theorem dX9_distance_65 : decode cX9_distance 65 = .ok (.ireturn, 1) := by decide +kernel
theorem dX9_distanceByRounds_0 : decode cX9_distanceByRounds 0 = .ok (.aload_n 0, 1) := by decide +kernel
theorem dX9_distanceByRounds_1 : decode cX9_distanceByRounds 1 = .ok (.iload_n 1, 1) := by decide +kernel
theorem dX9_distanceByRounds_2 : decode cX9_distanceByRounds 2 = .ok (.iload_n 2, 1) := by decide +kernel
theorem dX9_distanceByRounds_3 : decode cX9_distanceByRounds 3 = .ok (.invokevirtual 154, 3) := by decide +kernel
theorem dX9_distanceByRounds_6 : decode cX9_distanceByRounds 6 = .ok (.ireturn, 1) := by decide +kernel
theorem dX9_nextBlock_0 : decode cX9_nextBlock 0 = .ok (.aload_n 0, 1) := by decide +kernel
theorem dX9_nextBlock_1 : decode cX9_nextBlock 1 = .ok (.aload_n 0, 1) := by decide +kernel
theorem dX9_nextBlock_2 : decode cX9_nextBlock 2 = .ok (.iload_n 1, 1) := by decide +kernel
theorem dX9_nextBlock_3 : decode cX9_nextBlock 3 = .ok (.invokevirtual 109, 3) := by decide +kernel
theorem dX9_nextBlock_6 : decode cX9_nextBlock 6 = .ok (.ifCond .eq 7, 3) := by decide +kernel
theorem dX9_nextBlock_9 : decode cX9_nextBlock 9 = .ok (.iconst 0, 1) := by decide +kernel
theorem dX9_nextBlock_10 : decode cX9_nextBlock 10 = .ok (.goto 4, 3) := by decide +kernel
theorem dX9_nextBlock_13 : decode cX9_nextBlock 13 = .ok (.iconst 1, 1) := by decide +kernel
theorem dX9_nextBlock_14 : decode cX9_nextBlock 14 = .ok (.putfield 47, 3) := by decide +kernel
theorem dX9_nextBlock_17 : decode cX9_nextBlock 17 = .ok (.aload_n 0, 1) := by decide +kernel
theorem dX9_nextBlock_18 : decode cX9_nextBlock 18 = .ok (.getfield 47, 3) := by decide +kernel
theorem dX9_nextBlock_21 : decode cX9_nextBlock 21 = .ok (.ifCond .le 5, 3) := by decide +kernel
theorem dX9_nextBlock_24 : decode cX9_nextBlock 24 = .ok (.iconst 0, 1) := by decide +kernel
theorem dX9_nextBlock_25 : decode cX9_nextBlock 25 = .ok (.ireturn, 1) := by decide +kernel
theorem dX9_nextBlock_26 : decode cX9_nextBlock 26 = .ok (.aload_n 0, 1) := by decide +kernel
theorem dX9_nextBlock_27 : decode cX9_nextBlock 27 = .ok (.iload_n 1, 1) := by decide +kernel
theorem dX9_nextBlock_28 : decode cX9_nextBlock 28 = .ok (.invokevirtual 115, 3) := by decide +kernel
theorem dX9_nextBlock_31 : decode cX9_nextBlock 31 = .ok (.istore_n 2, 1) := by decide +kernel
theorem dX9_nextBlock_32 : decode cX9_nextBlock 32 = .ok (.iload_n 2, 1) := by decide +kernel
theorem dX9_nextBlock_33 : decode cX9_nextBlock 33 = .ok (.iconst (-1), 1) := by decide +kernel
theorem dX9_nextBlock_34 : decode cX9_nextBlock 34 = .ok (.if_icmp .ne 11, 3) := by decide +kernel
theorem dX9_nextBlock_37 : decode cX9_nextBlock 37 = .ok (.aload_n 0, 1) := by decide +kernel
theorem dX9_nextBlock_38 : decode cX9_nextBlock 38 = .ok (.iconst 2, 1) := by decide +kernel
theorem dX9_nextBlock_39 : decode cX9_nextBlock 39 = .ok (.invokevirtual 60, 3) := by decide +kernel
theorem dX9_nextBlock_42 : decode cX9_nextBlock 42 = .ok (.goto 4, 3) := by decide +kernel
theorem dX9_nextBlock_45 : decode cX9_nextBlock 45 = .ok (.iload_n 2, 1) := by decide +kernel
theorem dX9_nextBlock_46 : decode cX9_nextBlock 46 = .ok (.ireturn, 1) := by decide +kernel
theorem dX9_partCount_0 : decode cX9_partCount 0 = .ok (.aload_n 0, 1) := by decide +kernel
theorem dX9_partCount_1 : decode cX9_partCount 1 = .ok (.iconst 0, 1) := by decide +kernel
theorem dX9_partCount_2 : decode cX9_partCount 2 = .ok (.putfield 47, 3) := by decide +kernel
theorem dX9_partCount_5 : decode cX9_partCount 5 = .ok (.iconst 0, 1) := by decide +kernel
theorem dX9_partCount_6 : decode cX9_partCount 6 = .ok (.istore_n 1, 1) := by decide +kernel
theorem dX9_partCount_7 : decode cX9_partCount 7 = .ok (.iconst 0, 1) := by decide +kernel
theorem dX9_partCount_8 : decode cX9_partCount 8 = .ok (.istore_n 2, 1) := by decide +kernel
theorem dX9_partCount_9 : decode cX9_partCount 9 = .ok (.iload_n 2, 1) := by decide +kernel
theorem dX9_partCount_10 : decode cX9_partCount 10 = .ok (.aload_n 0, 1) := by decide +kernel
theorem dX9_partCount_11 : decode cX9_partCount 11 = .ok (.getfield 7, 3) := by decide +kernel
theorem dX9_partCount_14 : decode cX9_partCount 14 = .ok (.iconst 0, 1) := by decide +kernel
theorem dX9_partCount_15 : decode cX9_partCount 15 = .ok (.iaload, 1) := by decide +kernel
theorem dX9_partCount_16 : decode cX9_partCount 16 = .ok (.if_icmp .ge 65, 3) := by decide +kernel
theorem dX9_partCount_19 : decode cX9_partCount 19 = .ok (.aload_n 0, 1) := by decide +kernel
theorem dX9_partCount_20 : decode cX9_partCount 20 = .ok (.iload_n 2, 1) := by decide +kernel
theorem dX9_partCount_21 : decode cX9_partCount 21 = .ok (.invokevirtual 84, 3) := by decide +kernel
theorem dX9_partCount_24 : decode cX9_partCount 24 = .ok (.iload_n 2, 1) := by decide +kernel
theorem dX9_partCount_25 : decode cX9_partCount 25 = .ok (.istore_n 3, 1) := by decide +kernel
theorem dX9_partCount_26 : decode cX9_partCount 26 = .ok (.iload_n 2, 1) := by decide +kernel
theorem dX9_partCount_27 : decode cX9_partCount 27 = .ok (.iconst 1, 1) := by decide +kernel
theorem dX9_partCount_28 : decode cX9_partCount 28 = .ok (.isub, 1) := by decide +kernel
theorem dX9_partCount_29 : decode cX9_partCount 29 = .ok (.istore 4, 2) := by decide +kernel
theorem dX9_partCount_31 : decode cX9_partCount 31 = .ok (.iload 4, 2) := by decide +kernel
theorem dX9_partCount_33 : decode cX9_partCount 33 = .ok (.ifCond .lt 29, 3) := by decide +kernel
theorem dX9_partCount_36 : decode cX9_partCount 36 = .ok (.aload_n 0, 1) := by decide +kernel
theorem dX9_partCount_37 : decode cX9_partCount 37 = .ok (.getfield 34, 3) := by decide +kernel
theorem dX9_partCount_40 : decode cX9_partCount 40 = .ok (.iload 4, 2) := by decide +kernel
theorem dX9_partCount_42 : decode cX9_partCount 42 = .ok (.iaload, 1) := by decide +kernel
theorem dX9_partCount_43 : decode cX9_partCount 43 = .ok (.sipush 9999, 3) := by decide +kernel
theorem dX9_partCount_46 : decode cX9_partCount 46 = .ok (.if_icmp .ge 8, 3) := by decide +kernel
theorem dX9_partCount_49 : decode cX9_partCount 49 = .ok (.iload 4, 2) := by decide +kernel
theorem dX9_partCount_51 : decode cX9_partCount 51 = .ok (.goto 4, 3) := by decide +kernel
theorem dX9_partCount_54 : decode cX9_partCount 54 = .ok (.iload_n 3, 1) := by decide +kernel
theorem dX9_partCount_55 : decode cX9_partCount 55 = .ok (.istore_n 3, 1) := by decide +kernel
theorem dX9_partCount_56 : decode cX9_partCount 56 = .ok (.iinc 4 (-1), 3) := by decide +kernel
theorem dX9_partCount_59 : decode cX9_partCount 59 = .ok (.goto (-28), 3) := by decide +kernel
theorem dX9_partCount_62 : decode cX9_partCount 62 = .ok (.iload_n 1, 1) := by decide +kernel
theorem dX9_partCount_63 : decode cX9_partCount 63 = .ok (.iload_n 3, 1) := by decide +kernel
theorem dX9_partCount_64 : decode cX9_partCount 64 = .ok (.iload_n 2, 1) := by decide +kernel
theorem dX9_partCount_65 : decode cX9_partCount 65 = .ok (.if_icmp .ne 7, 3) := by decide +kernel
theorem dX9_partCount_68 : decode cX9_partCount 68 = .ok (.iconst 1, 1) := by decide +kernel
theorem dX9_partCount_69 : decode cX9_partCount 69 = .ok (.goto 4, 3) := by decide +kernel
theorem dX9_partCount_72 : decode cX9_partCount 72 = .ok (.iconst 0, 1) := by decide +kernel
theorem dX9_partCount_73 : decode cX9_partCount 73 = .ok (.iadd, 1) := by decide +kernel
theorem dX9_partCount_74 : decode cX9_partCount 74 = .ok (.istore_n 1, 1) := by decide +kernel
theorem dX9_partCount_75 : decode cX9_partCount 75 = .ok (.iinc 2 1, 3) := by decide +kernel
theorem dX9_partCount_78 : decode cX9_partCount 78 = .ok (.goto (-69), 3) := by decide +kernel
theorem dX9_partCount_81 : decode cX9_partCount 81 = .ok (.iload_n 1, 1) := by decide +kernel
theorem dX9_partCount_82 : decode cX9_partCount 82 = .ok (.ireturn, 1) := by decide +kernel
theorem dX9_partCountByUnions_0 : decode cX9_partCountByUnions 0 = .ok (.aload_n 0, 1) := by decide +kernel
theorem dX9_partCountByUnions_1 : decode cX9_partCountByUnions 1 = .ok (.invokevirtual 157, 3) := by decide +kernel
theorem dX9_partCountByUnions_4 : decode cX9_partCountByUnions 4 = .ok (.ireturn, 1) := by decide +kernel
theorem dX9_nearestCushion_0 : decode cX9_nearestCushion 0 = .ok (.aload_n 0, 1) := by decide +kernel
theorem dX9_nearestCushion_1 : decode cX9_nearestCushion 1 = .ok (.aload_n 0, 1) := by decide +kernel
theorem dX9_nearestCushion_2 : decode cX9_nearestCushion 2 = .ok (.iload_n 1, 1) := by decide +kernel
theorem dX9_nearestCushion_3 : decode cX9_nearestCushion 3 = .ok (.invokevirtual 91, 3) := by decide +kernel
theorem dX9_nearestCushion_6 : decode cX9_nearestCushion 6 = .ok (.ifCond .eq 7, 3) := by decide +kernel
theorem dX9_nearestCushion_9 : decode cX9_nearestCushion 9 = .ok (.iconst 0, 1) := by decide +kernel
theorem dX9_nearestCushion_10 : decode cX9_nearestCushion 10 = .ok (.goto 4, 3) := by decide +kernel
theorem dX9_nearestCushion_13 : decode cX9_nearestCushion 13 = .ok (.iconst 1, 1) := by decide +kernel
theorem dX9_nearestCushion_14 : decode cX9_nearestCushion 14 = .ok (.putfield 47, 3) := by decide +kernel
theorem dX9_nearestCushion_17 : decode cX9_nearestCushion 17 = .ok (.aload_n 0, 1) := by decide +kernel
theorem dX9_nearestCushion_18 : decode cX9_nearestCushion 18 = .ok (.getfield 47, 3) := by decide +kernel
theorem dX9_nearestCushion_21 : decode cX9_nearestCushion 21 = .ok (.ifCond .le 5, 3) := by decide +kernel
theorem dX9_nearestCushion_24 : decode cX9_nearestCushion 24 = .ok (.iconst 0, 1) := by decide +kernel
theorem dX9_nearestCushion_25 : decode cX9_nearestCushion 25 = .ok (.ireturn, 1) := by decide +kernel
theorem dX9_nearestCushion_26 : decode cX9_nearestCushion 26 = .ok (.iconst (-1), 1) := by decide +kernel
theorem dX9_nearestCushion_27 : decode cX9_nearestCushion 27 = .ok (.istore_n 2, 1) := by decide +kernel
theorem dX9_nearestCushion_28 : decode cX9_nearestCushion 28 = .ok (.sipush 9999, 3) := by decide +kernel
theorem dX9_nearestCushion_31 : decode cX9_nearestCushion 31 = .ok (.istore_n 3, 1) := by decide +kernel
theorem dX9_nearestCushion_32 : decode cX9_nearestCushion 32 = .ok (.iconst 0, 1) := by decide +kernel
theorem dX9_nearestCushion_33 : decode cX9_nearestCushion 33 = .ok (.istore 4, 2) := by decide +kernel
theorem dX9_nearestCushion_35 : decode cX9_nearestCushion 35 = .ok (.iload 4, 2) := by decide +kernel
theorem dX9_nearestCushion_37 : decode cX9_nearestCushion 37 = .ok (.aload_n 0, 1) := by decide +kernel
theorem dX9_nearestCushion_38 : decode cX9_nearestCushion 38 = .ok (.getfield 7, 3) := by decide +kernel
theorem dX9_nearestCushion_41 : decode cX9_nearestCushion 41 = .ok (.iconst 0, 1) := by decide +kernel
theorem dX9_nearestCushion_42 : decode cX9_nearestCushion 42 = .ok (.iaload, 1) := by decide +kernel
theorem dX9_nearestCushion_43 : decode cX9_nearestCushion 43 = .ok (.if_icmp .ge 51, 3) := by decide +kernel
theorem dX9_nearestCushion_46 : decode cX9_nearestCushion 46 = .ok (.aload_n 0, 1) := by decide +kernel
theorem dX9_nearestCushion_47 : decode cX9_nearestCushion 47 = .ok (.iload 4, 2) := by decide +kernel
theorem dX9_nearestCushion_49 : decode cX9_nearestCushion 49 = .ok (.iconst 1, 1) := by decide +kernel
theorem dX9_nearestCushion_50 : decode cX9_nearestCushion 50 = .ok (.invokevirtual 71, 3) := by decide +kernel
theorem dX9_nearestCushion_53 : decode cX9_nearestCushion 53 = .ok (.ifCond .ne 6, 3) := by decide +kernel
theorem dX9_nearestCushion_56 : decode cX9_nearestCushion 56 = .ok (.goto 32, 3) := by decide +kernel
theorem dX9_nearestCushion_59 : decode cX9_nearestCushion 59 = .ok (.aload_n 0, 1) := by decide +kernel
theorem dX9_nearestCushion_60 : decode cX9_nearestCushion 60 = .ok (.iload 4, 2) := by decide +kernel
theorem dX9_nearestCushion_62 : decode cX9_nearestCushion 62 = .ok (.invokevirtual 84, 3) := by decide +kernel
theorem dX9_nearestCushion_65 : decode cX9_nearestCushion 65 = .ok (.aload_n 0, 1) := by decide +kernel
theorem dX9_nearestCushion_66 : decode cX9_nearestCushion 66 = .ok (.getfield 34, 3) := by decide +kernel
theorem dX9_nearestCushion_69 : decode cX9_nearestCushion 69 = .ok (.iload_n 1, 1) := by decide +kernel
theorem dX9_nearestCushion_70 : decode cX9_nearestCushion 70 = .ok (.iaload, 1) := by decide +kernel
theorem dX9_nearestCushion_71 : decode cX9_nearestCushion 71 = .ok (.iload_n 3, 1) := by decide +kernel
theorem dX9_nearestCushion_72 : decode cX9_nearestCushion 72 = .ok (.if_icmp .lt 6, 3) := by decide +kernel
theorem dX9_nearestCushion_75 : decode cX9_nearestCushion 75 = .ok (.goto 13, 3) := by decide +kernel
theorem dX9_nearestCushion_78 : decode cX9_nearestCushion 78 = .ok (.iload 4, 2) := by decide +kernel
theorem dX9_nearestCushion_80 : decode cX9_nearestCushion 80 = .ok (.istore_n 2, 1) := by decide +kernel
theorem dX9_nearestCushion_81 : decode cX9_nearestCushion 81 = .ok (.aload_n 0, 1) := by decide +kernel
theorem dX9_nearestCushion_82 : decode cX9_nearestCushion 82 = .ok (.getfield 34, 3) := by decide +kernel
theorem dX9_nearestCushion_85 : decode cX9_nearestCushion 85 = .ok (.iload_n 1, 1) := by decide +kernel
theorem dX9_nearestCushion_86 : decode cX9_nearestCushion 86 = .ok (.iaload, 1) := by decide +kernel
theorem dX9_nearestCushion_87 : decode cX9_nearestCushion 87 = .ok (.istore_n 3, 1) := by decide +kernel
theorem dX9_nearestCushion_88 : decode cX9_nearestCushion 88 = .ok (.iinc 4 1, 3) := by decide +kernel
theorem dX9_nearestCushion_91 : decode cX9_nearestCushion 91 = .ok (.goto (-56), 3) := by decide +kernel
theorem dX9_nearestCushion_94 : decode cX9_nearestCushion 94 = .ok (.iload_n 2, 1) := by decide +kernel
theorem dX9_nearestCushion_95 : decode cX9_nearestCushion 95 = .ok (.iconst (-1), 1) := by decide +kernel
theorem dX9_nearestCushion_96 : decode cX9_nearestCushion 96 = .ok (.if_icmp .ne 11, 3) := by decide +kernel
theorem dX9_nearestCushion_99 : decode cX9_nearestCushion 99 = .ok (.aload_n 0, 1) := by decide +kernel
theorem dX9_nearestCushion_100 : decode cX9_nearestCushion 100 = .ok (.iconst 2, 1) := by decide +kernel
theorem dX9_nearestCushion_101 : decode cX9_nearestCushion 101 = .ok (.invokevirtual 60, 3) := by decide +kernel
theorem dX9_nearestCushion_104 : decode cX9_nearestCushion 104 = .ok (.goto 4, 3) := by decide +kernel
theorem dX9_nearestCushion_107 : decode cX9_nearestCushion 107 = .ok (.iload_n 2, 1) := by decide +kernel
theorem dX9_nearestCushion_108 : decode cX9_nearestCushion 108 = .ok (.ireturn, 1) := by decide +kernel
theorem dX9_addTrain_0 : decode cX9_addTrain 0 = .ok (.aload_n 0, 1) := by decide +kernel
theorem dX9_addTrain_1 : decode cX9_addTrain 1 = .ok (.invokevirtual 127, 3) := by decide +kernel
theorem dX9_addTrain_4 : decode cX9_addTrain 4 = .ok (.aload_n 0, 1) := by decide +kernel
theorem dX9_addTrain_5 : decode cX9_addTrain 5 = .ok (.aload_n 0, 1) := by decide +kernel
theorem dX9_addTrain_6 : decode cX9_addTrain 6 = .ok (.iload_n 1, 1) := by decide +kernel
theorem dX9_addTrain_7 : decode cX9_addTrain 7 = .ok (.iload_n 2, 1) := by decide +kernel
theorem dX9_addTrain_8 : decode cX9_addTrain 8 = .ok (.invokevirtual 160, 3) := by decide +kernel
theorem dX9_addTrain_11 : decode cX9_addTrain 11 = .ok (.invokevirtual 133, 3) := by decide +kernel
theorem dX9_addTrain_14 : decode cX9_addTrain 14 = .ok (.ireturn, 1) := by decide +kernel
theorem dX9_setGoal_0 : decode cX9_setGoal 0 = .ok (.aload_n 0, 1) := by decide +kernel
theorem dX9_setGoal_1 : decode cX9_setGoal 1 = .ok (.invokevirtual 127, 3) := by decide +kernel
theorem dX9_setGoal_4 : decode cX9_setGoal 4 = .ok (.aload_n 0, 1) := by decide +kernel
theorem dX9_setGoal_5 : decode cX9_setGoal 5 = .ok (.aload_n 0, 1) := by decide +kernel
theorem dX9_setGoal_6 : decode cX9_setGoal 6 = .ok (.iload_n 1, 1) := by decide +kernel
theorem dX9_setGoal_7 : decode cX9_setGoal 7 = .ok (.iload_n 2, 1) := by decide +kernel
theorem dX9_setGoal_8 : decode cX9_setGoal 8 = .ok (.invokevirtual 163, 3) := by decide +kernel
theorem dX9_setGoal_11 : decode cX9_setGoal 11 = .ok (.invokevirtual 133, 3) := by decide +kernel
theorem dX9_setGoal_14 : decode cX9_setGoal 14 = .ok (.ireturn, 1) := by decide +kernel
theorem dX9_clearGoal_0 : decode cX9_clearGoal 0 = .ok (.aload_n 0, 1) := by decide +kernel
theorem dX9_clearGoal_1 : decode cX9_clearGoal 1 = .ok (.invokevirtual 127, 3) := by decide +kernel
theorem dX9_clearGoal_4 : decode cX9_clearGoal 4 = .ok (.aload_n 0, 1) := by decide +kernel
theorem dX9_clearGoal_5 : decode cX9_clearGoal 5 = .ok (.aload_n 0, 1) := by decide +kernel
theorem dX9_clearGoal_6 : decode cX9_clearGoal 6 = .ok (.iload_n 1, 1) := by decide +kernel
theorem dX9_clearGoal_7 : decode cX9_clearGoal 7 = .ok (.invokevirtual 166, 3) := by decide +kernel
theorem dX9_clearGoal_10 : decode cX9_clearGoal 10 = .ok (.invokevirtual 133, 3) := by decide +kernel
theorem dX9_clearGoal_13 : decode cX9_clearGoal 13 = .ok (.ireturn, 1) := by decide +kernel
theorem dX9_reserve_0 : decode cX9_reserve 0 = .ok (.aload_n 0, 1) := by decide +kernel
theorem dX9_reserve_1 : decode cX9_reserve 1 = .ok (.invokevirtual 127, 3) := by decide +kernel
theorem dX9_reserve_4 : decode cX9_reserve 4 = .ok (.aload_n 0, 1) := by decide +kernel
theorem dX9_reserve_5 : decode cX9_reserve 5 = .ok (.aload_n 0, 1) := by decide +kernel
theorem dX9_reserve_6 : decode cX9_reserve 6 = .ok (.iload_n 1, 1) := by decide +kernel
theorem dX9_reserve_7 : decode cX9_reserve 7 = .ok (.iload_n 2, 1) := by decide +kernel
theorem dX9_reserve_8 : decode cX9_reserve 8 = .ok (.invokevirtual 169, 3) := by decide +kernel
theorem dX9_reserve_11 : decode cX9_reserve 11 = .ok (.invokevirtual 133, 3) := by decide +kernel
theorem dX9_reserve_14 : decode cX9_reserve 14 = .ok (.ireturn, 1) := by decide +kernel
theorem dX9_cancelReservation_0 : decode cX9_cancelReservation 0 = .ok (.aload_n 0, 1) := by decide +kernel
theorem dX9_cancelReservation_1 : decode cX9_cancelReservation 1 = .ok (.invokevirtual 127, 3) := by decide +kernel
theorem dX9_cancelReservation_4 : decode cX9_cancelReservation 4 = .ok (.aload_n 0, 1) := by decide +kernel
theorem dX9_cancelReservation_5 : decode cX9_cancelReservation 5 = .ok (.aload_n 0, 1) := by decide +kernel
theorem dX9_cancelReservation_6 : decode cX9_cancelReservation 6 = .ok (.iload_n 1, 1) := by decide +kernel
theorem dX9_cancelReservation_7 : decode cX9_cancelReservation 7 = .ok (.invokevirtual 172, 3) := by decide +kernel
theorem dX9_cancelReservation_10 : decode cX9_cancelReservation 10 = .ok (.invokevirtual 133, 3) := by decide +kernel
theorem dX9_cancelReservation_13 : decode cX9_cancelReservation 13 = .ok (.ireturn, 1) := by decide +kernel
theorem dX9_rescue_0 : decode cX9_rescue 0 = .ok (.aload_n 0, 1) := by decide +kernel
theorem dX9_rescue_1 : decode cX9_rescue 1 = .ok (.invokevirtual 127, 3) := by decide +kernel
theorem dX9_rescue_4 : decode cX9_rescue 4 = .ok (.aload_n 0, 1) := by decide +kernel
theorem dX9_rescue_5 : decode cX9_rescue 5 = .ok (.aload_n 0, 1) := by decide +kernel
theorem dX9_rescue_6 : decode cX9_rescue 6 = .ok (.iload_n 1, 1) := by decide +kernel
theorem dX9_rescue_7 : decode cX9_rescue 7 = .ok (.invokevirtual 175, 3) := by decide +kernel
theorem dX9_rescue_10 : decode cX9_rescue 10 = .ok (.invokevirtual 133, 3) := by decide +kernel
theorem dX9_rescue_13 : decode cX9_rescue 13 = .ok (.ireturn, 1) := by decide +kernel
theorem dX9_trainCount_0 : decode cX9_trainCount 0 = .ok (.aload_n 0, 1) := by decide +kernel
theorem dX9_trainCount_1 : decode cX9_trainCount 1 = .ok (.iconst 0, 1) := by decide +kernel
theorem dX9_trainCount_2 : decode cX9_trainCount 2 = .ok (.putfield 47, 3) := by decide +kernel
theorem dX9_trainCount_5 : decode cX9_trainCount 5 = .ok (.aload_n 0, 1) := by decide +kernel
theorem dX9_trainCount_6 : decode cX9_trainCount 6 = .ok (.getfield 7, 3) := by decide +kernel
theorem dX9_trainCount_9 : decode cX9_trainCount 9 = .ok (.iconst 1, 1) := by decide +kernel
theorem dX9_trainCount_10 : decode cX9_trainCount 10 = .ok (.iaload, 1) := by decide +kernel
theorem dX9_trainCount_11 : decode cX9_trainCount 11 = .ok (.ireturn, 1) := by decide +kernel
theorem dX9_asked_0 : decode cX9_asked 0 = .ok (.aload_n 0, 1) := by decide +kernel
theorem dX9_asked_1 : decode cX9_asked 1 = .ok (.aload_n 0, 1) := by decide +kernel
theorem dX9_asked_2 : decode cX9_asked 2 = .ok (.iload_n 1, 1) := by decide +kernel
theorem dX9_asked_3 : decode cX9_asked 3 = .ok (.invokevirtual 109, 3) := by decide +kernel
theorem dX9_asked_6 : decode cX9_asked 6 = .ok (.ifCond .eq 7, 3) := by decide +kernel
theorem dX9_asked_9 : decode cX9_asked 9 = .ok (.iconst 0, 1) := by decide +kernel
theorem dX9_asked_10 : decode cX9_asked 10 = .ok (.goto 4, 3) := by decide +kernel
theorem dX9_asked_13 : decode cX9_asked 13 = .ok (.iconst 1, 1) := by decide +kernel
theorem dX9_asked_14 : decode cX9_asked 14 = .ok (.putfield 47, 3) := by decide +kernel
theorem dX9_asked_17 : decode cX9_asked 17 = .ok (.aload_n 0, 1) := by decide +kernel
theorem dX9_asked_18 : decode cX9_asked 18 = .ok (.getfield 47, 3) := by decide +kernel
theorem dX9_asked_21 : decode cX9_asked 21 = .ok (.ifCond .le 7, 3) := by decide +kernel
theorem dX9_asked_24 : decode cX9_asked 24 = .ok (.iconst 0, 1) := by decide +kernel
theorem dX9_asked_25 : decode cX9_asked 25 = .ok (.goto 9, 3) := by decide +kernel
theorem dX9_asked_28 : decode cX9_asked 28 = .ok (.aload_n 0, 1) := by decide +kernel
theorem dX9_asked_29 : decode cX9_asked 29 = .ok (.iload_n 1, 1) := by decide +kernel
theorem dX9_asked_30 : decode cX9_asked 30 = .ok (.iload_n 2, 1) := by decide +kernel
theorem dX9_asked_31 : decode cX9_asked 31 = .ok (.invokevirtual 75, 3) := by decide +kernel
theorem dX9_asked_34 : decode cX9_asked 34 = .ok (.ireturn, 1) := by decide +kernel
theorem dX9_blockOf_0 : decode cX9_blockOf 0 = .ok (.aload_n 0, 1) := by decide +kernel
theorem dX9_blockOf_1 : decode cX9_blockOf 1 = .ok (.iload_n 1, 1) := by decide +kernel
theorem dX9_blockOf_2 : decode cX9_blockOf 2 = .ok (.iconst 0, 1) := by decide +kernel
theorem dX9_blockOf_3 : decode cX9_blockOf 3 = .ok (.invokevirtual 178, 3) := by decide +kernel
theorem dX9_blockOf_6 : decode cX9_blockOf 6 = .ok (.ireturn, 1) := by decide +kernel
theorem dX9_priority_0 : decode cX9_priority 0 = .ok (.aload_n 0, 1) := by decide +kernel
theorem dX9_priority_1 : decode cX9_priority 1 = .ok (.iload_n 1, 1) := by decide +kernel
theorem dX9_priority_2 : decode cX9_priority 2 = .ok (.iconst 1, 1) := by decide +kernel
theorem dX9_priority_3 : decode cX9_priority 3 = .ok (.invokevirtual 178, 3) := by decide +kernel
theorem dX9_priority_6 : decode cX9_priority 6 = .ok (.ireturn, 1) := by decide +kernel
theorem dX9_remainingTicks_0 : decode cX9_remainingTicks 0 = .ok (.aload_n 0, 1) := by decide +kernel
theorem dX9_remainingTicks_1 : decode cX9_remainingTicks 1 = .ok (.iload_n 1, 1) := by decide +kernel
theorem dX9_remainingTicks_2 : decode cX9_remainingTicks 2 = .ok (.iconst 2, 1) := by decide +kernel
theorem dX9_remainingTicks_3 : decode cX9_remainingTicks 3 = .ok (.invokevirtual 178, 3) := by decide +kernel
theorem dX9_remainingTicks_6 : decode cX9_remainingTicks 6 = .ok (.ireturn, 1) := by decide +kernel
theorem dX9_goal_0 : decode cX9_goal 0 = .ok (.aload_n 0, 1) := by decide +kernel
theorem dX9_goal_1 : decode cX9_goal 1 = .ok (.aload_n 0, 1) := by decide +kernel
theorem dX9_goal_2 : decode cX9_goal 2 = .ok (.iload_n 1, 1) := by decide +kernel
theorem dX9_goal_3 : decode cX9_goal 3 = .ok (.invokevirtual 109, 3) := by decide +kernel
theorem dX9_goal_6 : decode cX9_goal 6 = .ok (.ifCond .ne 7, 3) := by decide +kernel
theorem dX9_goal_9 : decode cX9_goal 9 = .ok (.iconst 1, 1) := by decide +kernel
theorem dX9_goal_10 : decode cX9_goal 10 = .ok (.goto 17, 3) := by decide +kernel
theorem dX9_goal_13 : decode cX9_goal 13 = .ok (.aload_n 0, 1) := by decide +kernel
theorem dX9_goal_14 : decode cX9_goal 14 = .ok (.iload_n 1, 1) := by decide +kernel
theorem dX9_goal_15 : decode cX9_goal 15 = .ok (.invokevirtual 81, 3) := by decide +kernel
theorem dX9_goal_18 : decode cX9_goal 18 = .ok (.iconst (-1), 1) := by decide +kernel
theorem dX9_goal_19 : decode cX9_goal 19 = .ok (.if_icmp .ne 7, 3) := by decide +kernel
theorem dX9_goal_22 : decode cX9_goal 22 = .ok (.iconst 2, 1) := by decide +kernel
theorem dX9_goal_23 : decode cX9_goal 23 = .ok (.goto 4, 3) := by decide +kernel
theorem dX9_goal_26 : decode cX9_goal 26 = .ok (.iconst 0, 1) := by decide +kernel
theorem dX9_goal_27 : decode cX9_goal 27 = .ok (.putfield 47, 3) := by decide +kernel
theorem dX9_goal_30 : decode cX9_goal 30 = .ok (.aload_n 0, 1) := by decide +kernel
theorem dX9_goal_31 : decode cX9_goal 31 = .ok (.getfield 47, 3) := by decide +kernel
theorem dX9_goal_34 : decode cX9_goal 34 = .ok (.ifCond .le 7, 3) := by decide +kernel
theorem dX9_goal_37 : decode cX9_goal 37 = .ok (.iconst 0, 1) := by decide +kernel
theorem dX9_goal_38 : decode cX9_goal 38 = .ok (.goto 8, 3) := by decide +kernel
theorem dX9_goal_41 : decode cX9_goal 41 = .ok (.aload_n 0, 1) := by decide +kernel
theorem dX9_goal_42 : decode cX9_goal 42 = .ok (.iload_n 1, 1) := by decide +kernel
theorem dX9_goal_43 : decode cX9_goal 43 = .ok (.invokevirtual 81, 3) := by decide +kernel
theorem dX9_goal_46 : decode cX9_goal 46 = .ok (.ireturn, 1) := by decide +kernel
theorem dX9_isDerailed_0 : decode cX9_isDerailed 0 = .ok (.aload_n 0, 1) := by decide +kernel
theorem dX9_isDerailed_1 : decode cX9_isDerailed 1 = .ok (.iload_n 1, 1) := by decide +kernel
theorem dX9_isDerailed_2 : decode cX9_isDerailed 2 = .ok (.iconst 4, 1) := by decide +kernel
theorem dX9_isDerailed_3 : decode cX9_isDerailed 3 = .ok (.invokevirtual 178, 3) := by decide +kernel
theorem dX9_isDerailed_6 : decode cX9_isDerailed 6 = .ok (.iconst 1, 1) := by decide +kernel
theorem dX9_isDerailed_7 : decode cX9_isDerailed 7 = .ok (.if_icmp .ne 7, 3) := by decide +kernel
theorem dX9_isDerailed_10 : decode cX9_isDerailed 10 = .ok (.iconst 1, 1) := by decide +kernel
theorem dX9_isDerailed_11 : decode cX9_isDerailed 11 = .ok (.goto 4, 3) := by decide +kernel
theorem dX9_isDerailed_14 : decode cX9_isDerailed 14 = .ok (.iconst 0, 1) := by decide +kernel
theorem dX9_isDerailed_15 : decode cX9_isDerailed 15 = .ok (.ireturn, 1) := by decide +kernel
theorem dX9_waits_0 : decode cX9_waits 0 = .ok (.aload_n 0, 1) := by decide +kernel
theorem dX9_waits_1 : decode cX9_waits 1 = .ok (.iload_n 1, 1) := by decide +kernel
theorem dX9_waits_2 : decode cX9_waits 2 = .ok (.iconst 5, 1) := by decide +kernel
theorem dX9_waits_3 : decode cX9_waits 3 = .ok (.invokevirtual 178, 3) := by decide +kernel
theorem dX9_waits_6 : decode cX9_waits 6 = .ok (.ireturn, 1) := by decide +kernel
theorem dX9_trainByPriority_0 : decode cX9_trainByPriority 0 = .ok (.aload_n 0, 1) := by decide +kernel
theorem dX9_trainByPriority_1 : decode cX9_trainByPriority 1 = .ok (.iconst 0, 1) := by decide +kernel
theorem dX9_trainByPriority_2 : decode cX9_trainByPriority 2 = .ok (.putfield 47, 3) := by decide +kernel
theorem dX9_trainByPriority_5 : decode cX9_trainByPriority 5 = .ok (.aload_n 0, 1) := by decide +kernel
theorem dX9_trainByPriority_6 : decode cX9_trainByPriority 6 = .ok (.iload_n 1, 1) := by decide +kernel
theorem dX9_trainByPriority_7 : decode cX9_trainByPriority 7 = .ok (.invokevirtual 118, 3) := by decide +kernel
theorem dX9_trainByPriority_10 : decode cX9_trainByPriority 10 = .ok (.istore_n 2, 1) := by decide +kernel
theorem dX9_trainByPriority_11 : decode cX9_trainByPriority 11 = .ok (.iload_n 2, 1) := by decide +kernel
theorem dX9_trainByPriority_12 : decode cX9_trainByPriority 12 = .ok (.iconst (-1), 1) := by decide +kernel
theorem dX9_trainByPriority_13 : decode cX9_trainByPriority 13 = .ok (.if_icmp .ne 11, 3) := by decide +kernel
theorem dX9_trainByPriority_16 : decode cX9_trainByPriority 16 = .ok (.aload_n 0, 1) := by decide +kernel
theorem dX9_trainByPriority_17 : decode cX9_trainByPriority 17 = .ok (.iconst 1, 1) := by decide +kernel
theorem dX9_trainByPriority_18 : decode cX9_trainByPriority 18 = .ok (.invokevirtual 60, 3) := by decide +kernel
theorem dX9_trainByPriority_21 : decode cX9_trainByPriority 21 = .ok (.goto 4, 3) := by decide +kernel
theorem dX9_trainByPriority_24 : decode cX9_trainByPriority 24 = .ok (.iload_n 2, 1) := by decide +kernel
theorem dX9_trainByPriority_25 : decode cX9_trainByPriority 25 = .ok (.ireturn, 1) := by decide +kernel
theorem dX9_blocker_0 : decode cX9_blocker 0 = .ok (.aload_n 0, 1) := by decide +kernel
theorem dX9_blocker_1 : decode cX9_blocker 1 = .ok (.iload_n 1, 1) := by decide +kernel
theorem dX9_blocker_2 : decode cX9_blocker 2 = .ok (.iconst 4, 1) := by decide +kernel
theorem dX9_blocker_3 : decode cX9_blocker 3 = .ok (.invokevirtual 75, 3) := by decide +kernel
theorem dX9_blocker_6 : decode cX9_blocker 6 = .ok (.iconst 1, 1) := by decide +kernel
theorem dX9_blocker_7 : decode cX9_blocker 7 = .ok (.if_icmp .ne 7, 3) := by decide +kernel
theorem dX9_blocker_10 : decode cX9_blocker 10 = .ok (.iconst (-1), 1) := by decide +kernel
theorem dX9_blocker_11 : decode cX9_blocker 11 = .ok (.goto 8, 3) := by decide +kernel
theorem dX9_blocker_14 : decode cX9_blocker 14 = .ok (.aload_n 0, 1) := by decide +kernel
theorem dX9_blocker_15 : decode cX9_blocker 15 = .ok (.iload_n 1, 1) := by decide +kernel
theorem dX9_blocker_16 : decode cX9_blocker 16 = .ok (.invokevirtual 115, 3) := by decide +kernel
theorem dX9_blocker_19 : decode cX9_blocker 19 = .ok (.istore_n 2, 1) := by decide +kernel
theorem dX9_blocker_20 : decode cX9_blocker 20 = .ok (.iload_n 2, 1) := by decide +kernel
theorem dX9_blocker_21 : decode cX9_blocker 21 = .ok (.iconst (-1), 1) := by decide +kernel
theorem dX9_blocker_22 : decode cX9_blocker 22 = .ok (.if_icmp .ne 7, 3) := by decide +kernel
theorem dX9_blocker_25 : decode cX9_blocker 25 = .ok (.iconst (-1), 1) := by decide +kernel
theorem dX9_blocker_26 : decode cX9_blocker 26 = .ok (.goto 8, 3) := by decide +kernel
theorem dX9_blocker_29 : decode cX9_blocker 29 = .ok (.aload_n 0, 1) := by decide +kernel
theorem dX9_blocker_30 : decode cX9_blocker 30 = .ok (.iload_n 2, 1) := by decide +kernel
theorem dX9_blocker_31 : decode cX9_blocker 31 = .ok (.invokevirtual 99, 3) := by decide +kernel
theorem dX9_blocker_34 : decode cX9_blocker 34 = .ok (.ireturn, 1) := by decide +kernel
theorem dX9_blockedBy_0 : decode cX9_blockedBy 0 = .ok (.aload_n 0, 1) := by decide +kernel
theorem dX9_blockedBy_1 : decode cX9_blockedBy 1 = .ok (.aload_n 0, 1) := by decide +kernel
theorem dX9_blockedBy_2 : decode cX9_blockedBy 2 = .ok (.iload_n 1, 1) := by decide +kernel
theorem dX9_blockedBy_3 : decode cX9_blockedBy 3 = .ok (.invokevirtual 109, 3) := by decide +kernel
theorem dX9_blockedBy_6 : decode cX9_blockedBy 6 = .ok (.ifCond .eq 7, 3) := by decide +kernel
theorem dX9_blockedBy_9 : decode cX9_blockedBy 9 = .ok (.iconst 0, 1) := by decide +kernel
theorem dX9_blockedBy_10 : decode cX9_blockedBy 10 = .ok (.goto 4, 3) := by decide +kernel
theorem dX9_blockedBy_13 : decode cX9_blockedBy 13 = .ok (.iconst 1, 1) := by decide +kernel
theorem dX9_blockedBy_14 : decode cX9_blockedBy 14 = .ok (.putfield 47, 3) := by decide +kernel
theorem dX9_blockedBy_17 : decode cX9_blockedBy 17 = .ok (.aload_n 0, 1) := by decide +kernel
theorem dX9_blockedBy_18 : decode cX9_blockedBy 18 = .ok (.getfield 47, 3) := by decide +kernel
theorem dX9_blockedBy_21 : decode cX9_blockedBy 21 = .ok (.ifCond .le 5, 3) := by decide +kernel
theorem dX9_blockedBy_24 : decode cX9_blockedBy 24 = .ok (.iconst 0, 1) := by decide +kernel
theorem dX9_blockedBy_25 : decode cX9_blockedBy 25 = .ok (.ireturn, 1) := by decide +kernel
theorem dX9_blockedBy_26 : decode cX9_blockedBy 26 = .ok (.aload_n 0, 1) := by decide +kernel
theorem dX9_blockedBy_27 : decode cX9_blockedBy 27 = .ok (.iload_n 1, 1) := by decide +kernel
theorem dX9_blockedBy_28 : decode cX9_blockedBy 28 = .ok (.invokevirtual 181, 3) := by decide +kernel
theorem dX9_blockedBy_31 : decode cX9_blockedBy 31 = .ok (.istore_n 2, 1) := by decide +kernel
theorem dX9_blockedBy_32 : decode cX9_blockedBy 32 = .ok (.iload_n 2, 1) := by decide +kernel
theorem dX9_blockedBy_33 : decode cX9_blockedBy 33 = .ok (.iconst (-1), 1) := by decide +kernel
theorem dX9_blockedBy_34 : decode cX9_blockedBy 34 = .ok (.if_icmp .ne 11, 3) := by decide +kernel
theorem dX9_blockedBy_37 : decode cX9_blockedBy 37 = .ok (.aload_n 0, 1) := by decide +kernel
theorem dX9_blockedBy_38 : decode cX9_blockedBy 38 = .ok (.iconst 2, 1) := by decide +kernel
theorem dX9_blockedBy_39 : decode cX9_blockedBy 39 = .ok (.invokevirtual 60, 3) := by decide +kernel
theorem dX9_blockedBy_42 : decode cX9_blockedBy 42 = .ok (.goto 4, 3) := by decide +kernel
theorem dX9_blockedBy_45 : decode cX9_blockedBy 45 = .ok (.iload_n 2, 1) := by decide +kernel
theorem dX9_blockedBy_46 : decode cX9_blockedBy 46 = .ok (.ireturn, 1) := by decide +kernel
theorem dX9_deadlocked_0 : decode cX9_deadlocked 0 = .ok (.aload_n 0, 1) := by decide +kernel
theorem dX9_deadlocked_1 : decode cX9_deadlocked 1 = .ok (.iconst 0, 1) := by decide +kernel
theorem dX9_deadlocked_2 : decode cX9_deadlocked 2 = .ok (.putfield 47, 3) := by decide +kernel
theorem dX9_deadlocked_5 : decode cX9_deadlocked 5 = .ok (.iconst 0, 1) := by decide +kernel
theorem dX9_deadlocked_6 : decode cX9_deadlocked 6 = .ok (.istore_n 1, 1) := by decide +kernel
theorem dX9_deadlocked_7 : decode cX9_deadlocked 7 = .ok (.iconst 0, 1) := by decide +kernel
theorem dX9_deadlocked_8 : decode cX9_deadlocked 8 = .ok (.istore_n 2, 1) := by decide +kernel
theorem dX9_deadlocked_9 : decode cX9_deadlocked 9 = .ok (.iload_n 2, 1) := by decide +kernel
theorem dX9_deadlocked_10 : decode cX9_deadlocked 10 = .ok (.aload_n 0, 1) := by decide +kernel
theorem dX9_deadlocked_11 : decode cX9_deadlocked 11 = .ok (.getfield 7, 3) := by decide +kernel
theorem dX9_deadlocked_14 : decode cX9_deadlocked 14 = .ok (.iconst 1, 1) := by decide +kernel
theorem dX9_deadlocked_15 : decode cX9_deadlocked 15 = .ok (.iaload, 1) := by decide +kernel
theorem dX9_deadlocked_16 : decode cX9_deadlocked 16 = .ok (.if_icmp .ge 20, 3) := by decide +kernel
theorem dX9_deadlocked_19 : decode cX9_deadlocked 19 = .ok (.aload_n 0, 1) := by decide +kernel
theorem dX9_deadlocked_20 : decode cX9_deadlocked 20 = .ok (.getfield 37, 3) := by decide +kernel
theorem dX9_deadlocked_23 : decode cX9_deadlocked 23 = .ok (.iload_n 2, 1) := by decide +kernel
theorem dX9_deadlocked_24 : decode cX9_deadlocked 24 = .ok (.aload_n 0, 1) := by decide +kernel
theorem dX9_deadlocked_25 : decode cX9_deadlocked 25 = .ok (.iload_n 2, 1) := by decide +kernel
theorem dX9_deadlocked_26 : decode cX9_deadlocked 26 = .ok (.invokevirtual 181, 3) := by decide +kernel
theorem dX9_deadlocked_29 : decode cX9_deadlocked 29 = .ok (.iastore, 1) := by decide +kernel
theorem dX9_deadlocked_30 : decode cX9_deadlocked 30 = .ok (.iinc 2 1, 3) := by decide +kernel
theorem dX9_deadlocked_33 : decode cX9_deadlocked 33 = .ok (.goto (-24), 3) := by decide +kernel
theorem dX9_deadlocked_36 : decode cX9_deadlocked 36 = .ok (.iconst 0, 1) := by decide +kernel
theorem dX9_deadlocked_37 : decode cX9_deadlocked 37 = .ok (.istore_n 2, 1) := by decide +kernel
theorem dX9_deadlocked_38 : decode cX9_deadlocked 38 = .ok (.iload_n 2, 1) := by decide +kernel
theorem dX9_deadlocked_39 : decode cX9_deadlocked 39 = .ok (.aload_n 0, 1) := by decide +kernel
theorem dX9_deadlocked_40 : decode cX9_deadlocked 40 = .ok (.getfield 7, 3) := by decide +kernel
theorem dX9_deadlocked_43 : decode cX9_deadlocked 43 = .ok (.iconst 1, 1) := by decide +kernel
theorem dX9_deadlocked_44 : decode cX9_deadlocked 44 = .ok (.iaload, 1) := by decide +kernel
theorem dX9_deadlocked_45 : decode cX9_deadlocked 45 = .ok (.if_icmp .ge 62, 3) := by decide +kernel
theorem dX9_deadlocked_48 : decode cX9_deadlocked 48 = .ok (.aload_n 0, 1) := by decide +kernel
theorem dX9_deadlocked_49 : decode cX9_deadlocked 49 = .ok (.getfield 37, 3) := by decide +kernel
theorem dX9_deadlocked_52 : decode cX9_deadlocked 52 = .ok (.iload_n 2, 1) := by decide +kernel
theorem dX9_deadlocked_53 : decode cX9_deadlocked 53 = .ok (.iaload, 1) := by decide +kernel
theorem dX9_deadlocked_54 : decode cX9_deadlocked 54 = .ok (.istore_n 3, 1) := by decide +kernel
theorem dX9_deadlocked_55 : decode cX9_deadlocked 55 = .ok (.iconst 0, 1) := by decide +kernel
theorem dX9_deadlocked_56 : decode cX9_deadlocked 56 = .ok (.istore 4, 2) := by decide +kernel
theorem dX9_deadlocked_58 : decode cX9_deadlocked 58 = .ok (.iload 4, 2) := by decide +kernel
theorem dX9_deadlocked_60 : decode cX9_deadlocked 60 = .ok (.bipush 6, 2) := by decide +kernel
theorem dX9_deadlocked_62 : decode cX9_deadlocked 62 = .ok (.if_icmp .ge 26, 3) := by decide +kernel
theorem dX9_deadlocked_65 : decode cX9_deadlocked 65 = .ok (.iload_n 3, 1) := by decide +kernel
theorem dX9_deadlocked_66 : decode cX9_deadlocked 66 = .ok (.iconst (-1), 1) := by decide +kernel
theorem dX9_deadlocked_67 : decode cX9_deadlocked 67 = .ok (.if_icmp .eq 21, 3) := by decide +kernel
theorem dX9_deadlocked_70 : decode cX9_deadlocked 70 = .ok (.iload_n 3, 1) := by decide +kernel
theorem dX9_deadlocked_71 : decode cX9_deadlocked 71 = .ok (.iload_n 2, 1) := by decide +kernel
theorem dX9_deadlocked_72 : decode cX9_deadlocked 72 = .ok (.if_icmp .eq 16, 3) := by decide +kernel
theorem dX9_deadlocked_75 : decode cX9_deadlocked 75 = .ok (.aload_n 0, 1) := by decide +kernel
theorem dX9_deadlocked_76 : decode cX9_deadlocked 76 = .ok (.getfield 37, 3) := by decide +kernel
theorem dX9_deadlocked_79 : decode cX9_deadlocked 79 = .ok (.iload_n 3, 1) := by decide +kernel
theorem dX9_deadlocked_80 : decode cX9_deadlocked 80 = .ok (.iaload, 1) := by decide +kernel
theorem dX9_deadlocked_81 : decode cX9_deadlocked 81 = .ok (.istore_n 3, 1) := by decide +kernel
theorem dX9_deadlocked_82 : decode cX9_deadlocked 82 = .ok (.iinc 4 1, 3) := by decide +kernel
theorem dX9_deadlocked_85 : decode cX9_deadlocked 85 = .ok (.goto (-27), 3) := by decide +kernel
theorem dX9_deadlocked_88 : decode cX9_deadlocked 88 = .ok (.iload_n 1, 1) := by decide +kernel
theorem dX9_deadlocked_89 : decode cX9_deadlocked 89 = .ok (.iload_n 3, 1) := by decide +kernel
theorem dX9_deadlocked_90 : decode cX9_deadlocked 90 = .ok (.iload_n 2, 1) := by decide +kernel
theorem dX9_deadlocked_91 : decode cX9_deadlocked 91 = .ok (.if_icmp .ne 7, 3) := by decide +kernel
theorem dX9_deadlocked_94 : decode cX9_deadlocked 94 = .ok (.iconst 1, 1) := by decide +kernel
theorem dX9_deadlocked_95 : decode cX9_deadlocked 95 = .ok (.goto 4, 3) := by decide +kernel
theorem dX9_deadlocked_98 : decode cX9_deadlocked 98 = .ok (.iconst 0, 1) := by decide +kernel
theorem dX9_deadlocked_99 : decode cX9_deadlocked 99 = .ok (.iadd, 1) := by decide +kernel
theorem dX9_deadlocked_100 : decode cX9_deadlocked 100 = .ok (.istore_n 1, 1) := by decide +kernel
theorem dX9_deadlocked_101 : decode cX9_deadlocked 101 = .ok (.iinc 2 1, 3) := by decide +kernel
theorem dX9_deadlocked_104 : decode cX9_deadlocked 104 = .ok (.goto (-66), 3) := by decide +kernel
theorem dX9_deadlocked_107 : decode cX9_deadlocked 107 = .ok (.iload_n 1, 1) := by decide +kernel
theorem dX9_deadlocked_108 : decode cX9_deadlocked 108 = .ok (.ireturn, 1) := by decide +kernel
theorem dX9_deadlockedByTable_0 : decode cX9_deadlockedByTable 0 = .ok (.aload_n 0, 1) := by decide +kernel
theorem dX9_deadlockedByTable_1 : decode cX9_deadlockedByTable 1 = .ok (.invokevirtual 184, 3) := by decide +kernel
theorem dX9_deadlockedByTable_4 : decode cX9_deadlockedByTable 4 = .ok (.ireturn, 1) := by decide +kernel
theorem dX9_passTicks_0 : decode cX9_passTicks 0 = .ok (.aload_n 0, 1) := by decide +kernel
theorem dX9_passTicks_1 : decode cX9_passTicks 1 = .ok (.invokevirtual 127, 3) := by decide +kernel
theorem dX9_passTicks_4 : decode cX9_passTicks 4 = .ok (.aload_n 0, 1) := by decide +kernel
theorem dX9_passTicks_5 : decode cX9_passTicks 5 = .ok (.aload_n 0, 1) := by decide +kernel
theorem dX9_passTicks_6 : decode cX9_passTicks 6 = .ok (.iload_n 1, 1) := by decide +kernel
theorem dX9_passTicks_7 : decode cX9_passTicks 7 = .ok (.invokevirtual 187, 3) := by decide +kernel
theorem dX9_passTicks_10 : decode cX9_passTicks 10 = .ok (.invokevirtual 133, 3) := by decide +kernel
theorem dX9_passTicks_13 : decode cX9_passTicks 13 = .ok (.ireturn, 1) := by decide +kernel
theorem dX9_ticks_0 : decode cX9_ticks 0 = .ok (.aload_n 0, 1) := by decide +kernel
theorem dX9_ticks_1 : decode cX9_ticks 1 = .ok (.iconst 0, 1) := by decide +kernel
theorem dX9_ticks_2 : decode cX9_ticks 2 = .ok (.putfield 47, 3) := by decide +kernel
theorem dX9_ticks_5 : decode cX9_ticks 5 = .ok (.aload_n 0, 1) := by decide +kernel
theorem dX9_ticks_6 : decode cX9_ticks 6 = .ok (.getfield 7, 3) := by decide +kernel
theorem dX9_ticks_9 : decode cX9_ticks 9 = .ok (.iconst 2, 1) := by decide +kernel
theorem dX9_ticks_10 : decode cX9_ticks 10 = .ok (.iaload, 1) := by decide +kernel
theorem dX9_ticks_11 : decode cX9_ticks 11 = .ok (.ireturn, 1) := by decide +kernel
theorem dX9_arrivals_0 : decode cX9_arrivals 0 = .ok (.aload_n 0, 1) := by decide +kernel
theorem dX9_arrivals_1 : decode cX9_arrivals 1 = .ok (.iconst 0, 1) := by decide +kernel
theorem dX9_arrivals_2 : decode cX9_arrivals 2 = .ok (.putfield 47, 3) := by decide +kernel
theorem dX9_arrivals_5 : decode cX9_arrivals 5 = .ok (.aload_n 0, 1) := by decide +kernel
theorem dX9_arrivals_6 : decode cX9_arrivals 6 = .ok (.getfield 7, 3) := by decide +kernel
theorem dX9_arrivals_9 : decode cX9_arrivals 9 = .ok (.iconst 3, 1) := by decide +kernel
theorem dX9_arrivals_10 : decode cX9_arrivals 10 = .ok (.iaload, 1) := by decide +kernel
theorem dX9_arrivals_11 : decode cX9_arrivals 11 = .ok (.ireturn, 1) := by decide +kernel
theorem dX9_ticksUntilArrival_0 : decode cX9_ticksUntilArrival 0 = .ok (.aload_n 0, 1) := by decide +kernel
theorem dX9_ticksUntilArrival_1 : decode cX9_ticksUntilArrival 1 = .ok (.aload_n 0, 1) := by decide +kernel
theorem dX9_ticksUntilArrival_2 : decode cX9_ticksUntilArrival 2 = .ok (.iload_n 1, 1) := by decide +kernel
theorem dX9_ticksUntilArrival_3 : decode cX9_ticksUntilArrival 3 = .ok (.invokevirtual 109, 3) := by decide +kernel
theorem dX9_ticksUntilArrival_6 : decode cX9_ticksUntilArrival 6 = .ok (.ifCond .ne 7, 3) := by decide +kernel
theorem dX9_ticksUntilArrival_9 : decode cX9_ticksUntilArrival 9 = .ok (.iconst 1, 1) := by decide +kernel
theorem dX9_ticksUntilArrival_10 : decode cX9_ticksUntilArrival 10 = .ok (.goto 17, 3) := by decide +kernel
theorem dX9_ticksUntilArrival_13 : decode cX9_ticksUntilArrival 13 = .ok (.aload_n 0, 1) := by decide +kernel
theorem dX9_ticksUntilArrival_14 : decode cX9_ticksUntilArrival 14 = .ok (.iload_n 1, 1) := by decide +kernel
theorem dX9_ticksUntilArrival_15 : decode cX9_ticksUntilArrival 15 = .ok (.invokevirtual 81, 3) := by decide +kernel
theorem dX9_ticksUntilArrival_18 : decode cX9_ticksUntilArrival 18 = .ok (.iconst (-1), 1) := by decide +kernel
theorem dX9_ticksUntilArrival_19 : decode cX9_ticksUntilArrival 19 = .ok (.if_icmp .ne 7, 3) := by decide +kernel
theorem dX9_ticksUntilArrival_22 : decode cX9_ticksUntilArrival 22 = .ok (.iconst 2, 1) := by decide +kernel
theorem dX9_ticksUntilArrival_23 : decode cX9_ticksUntilArrival 23 = .ok (.goto 4, 3) := by decide +kernel
theorem dX9_ticksUntilArrival_26 : decode cX9_ticksUntilArrival 26 = .ok (.iconst 0, 1) := by decide +kernel
theorem dX9_ticksUntilArrival_27 : decode cX9_ticksUntilArrival 27 = .ok (.putfield 47, 3) := by decide +kernel
theorem dX9_ticksUntilArrival_30 : decode cX9_ticksUntilArrival 30 = .ok (.aload_n 0, 1) := by decide +kernel
theorem dX9_ticksUntilArrival_31 : decode cX9_ticksUntilArrival 31 = .ok (.getfield 47, 3) := by decide +kernel
theorem dX9_ticksUntilArrival_34 : decode cX9_ticksUntilArrival 34 = .ok (.ifCond .le 5, 3) := by decide +kernel
theorem dX9_ticksUntilArrival_37 : decode cX9_ticksUntilArrival 37 = .ok (.iconst 0, 1) := by decide +kernel
theorem dX9_ticksUntilArrival_38 : decode cX9_ticksUntilArrival 38 = .ok (.ireturn, 1) := by decide +kernel
theorem dX9_ticksUntilArrival_39 : decode cX9_ticksUntilArrival 39 = .ok (.iconst 0, 1) := by decide +kernel
theorem dX9_ticksUntilArrival_40 : decode cX9_ticksUntilArrival 40 = .ok (.istore_n 2, 1) := by decide +kernel
theorem dX9_ticksUntilArrival_41 : decode cX9_ticksUntilArrival 41 = .ok (.iload_n 2, 1) := by decide +kernel
theorem dX9_ticksUntilArrival_42 : decode cX9_ticksUntilArrival 42 = .ok (.bipush 116, 2) := by decide +kernel
theorem dX9_ticksUntilArrival_44 : decode cX9_ticksUntilArrival 44 = .ok (.if_icmp .ge 21, 3) := by decide +kernel
theorem dX9_ticksUntilArrival_47 : decode cX9_ticksUntilArrival 47 = .ok (.aload_n 0, 1) := by decide +kernel
theorem dX9_ticksUntilArrival_48 : decode cX9_ticksUntilArrival 48 = .ok (.getfield 22, 3) := by decide +kernel
theorem dX9_ticksUntilArrival_51 : decode cX9_ticksUntilArrival 51 = .ok (.iload_n 2, 1) := by decide +kernel
theorem dX9_ticksUntilArrival_52 : decode cX9_ticksUntilArrival 52 = .ok (.aload_n 0, 1) := by decide +kernel
theorem dX9_ticksUntilArrival_53 : decode cX9_ticksUntilArrival 53 = .ok (.getfield 7, 3) := by decide +kernel
theorem dX9_ticksUntilArrival_56 : decode cX9_ticksUntilArrival 56 = .ok (.iload_n 2, 1) := by decide +kernel
theorem dX9_ticksUntilArrival_57 : decode cX9_ticksUntilArrival 57 = .ok (.iaload, 1) := by decide +kernel
theorem dX9_ticksUntilArrival_58 : decode cX9_ticksUntilArrival 58 = .ok (.iastore, 1) := by decide +kernel
theorem dX9_ticksUntilArrival_59 : decode cX9_ticksUntilArrival 59 = .ok (.iinc 2 1, 3) := by decide +kernel
theorem dX9_ticksUntilArrival_62 : decode cX9_ticksUntilArrival 62 = .ok (.goto (-21), 3) := by decide +kernel
theorem dX9_ticksUntilArrival_65 : decode cX9_ticksUntilArrival 65 = .ok (.iconst 0, 1) := by decide +kernel
theorem dX9_ticksUntilArrival_66 : decode cX9_ticksUntilArrival 66 = .ok (.istore_n 2, 1) := by decide +kernel
theorem dX9_ticksUntilArrival_67 : decode cX9_ticksUntilArrival 67 = .ok (.iconst 1, 1) := by decide +kernel
theorem dX9_ticksUntilArrival_68 : decode cX9_ticksUntilArrival 68 = .ok (.istore_n 3, 1) := by decide +kernel
theorem dX9_ticksUntilArrival_69 : decode cX9_ticksUntilArrival 69 = .ok (.iload_n 3, 1) := by decide +kernel
theorem dX9_ticksUntilArrival_70 : decode cX9_ticksUntilArrival 70 = .ok (.bipush 99, 2) := by decide +kernel
theorem dX9_ticksUntilArrival_72 : decode cX9_ticksUntilArrival 72 = .ok (.if_icmp .gt 31, 3) := by decide +kernel
theorem dX9_ticksUntilArrival_75 : decode cX9_ticksUntilArrival 75 = .ok (.iload_n 2, 1) := by decide +kernel
theorem dX9_ticksUntilArrival_76 : decode cX9_ticksUntilArrival 76 = .ok (.ifCond .ne 27, 3) := by decide +kernel
theorem dX9_ticksUntilArrival_79 : decode cX9_ticksUntilArrival 79 = .ok (.aload_n 0, 1) := by decide +kernel
theorem dX9_ticksUntilArrival_80 : decode cX9_ticksUntilArrival 80 = .ok (.invokevirtual 124, 3) := by decide +kernel
theorem dX9_ticksUntilArrival_83 : decode cX9_ticksUntilArrival 83 = .ok (.iload_n 1, 1) := by decide +kernel
theorem dX9_ticksUntilArrival_84 : decode cX9_ticksUntilArrival 84 = .ok (.ishr, 1) := by decide +kernel
theorem dX9_ticksUntilArrival_85 : decode cX9_ticksUntilArrival 85 = .ok (.iconst 1, 1) := by decide +kernel
theorem dX9_ticksUntilArrival_86 : decode cX9_ticksUntilArrival 86 = .ok (.iand, 1) := by decide +kernel
theorem dX9_ticksUntilArrival_87 : decode cX9_ticksUntilArrival 87 = .ok (.iconst 1, 1) := by decide +kernel
theorem dX9_ticksUntilArrival_88 : decode cX9_ticksUntilArrival 88 = .ok (.if_icmp .ne 7, 3) := by decide +kernel
theorem dX9_ticksUntilArrival_91 : decode cX9_ticksUntilArrival 91 = .ok (.iload_n 3, 1) := by decide +kernel
theorem dX9_ticksUntilArrival_92 : decode cX9_ticksUntilArrival 92 = .ok (.goto 4, 3) := by decide +kernel
theorem dX9_ticksUntilArrival_95 : decode cX9_ticksUntilArrival 95 = .ok (.iconst 0, 1) := by decide +kernel
theorem dX9_ticksUntilArrival_96 : decode cX9_ticksUntilArrival 96 = .ok (.istore_n 2, 1) := by decide +kernel
theorem dX9_ticksUntilArrival_97 : decode cX9_ticksUntilArrival 97 = .ok (.iinc 3 1, 3) := by decide +kernel
theorem dX9_ticksUntilArrival_100 : decode cX9_ticksUntilArrival 100 = .ok (.goto (-31), 3) := by decide +kernel
theorem dX9_ticksUntilArrival_103 : decode cX9_ticksUntilArrival 103 = .ok (.iconst 0, 1) := by decide +kernel
theorem dX9_ticksUntilArrival_104 : decode cX9_ticksUntilArrival 104 = .ok (.istore_n 3, 1) := by decide +kernel
theorem dX9_ticksUntilArrival_105 : decode cX9_ticksUntilArrival 105 = .ok (.iload_n 3, 1) := by decide +kernel
theorem dX9_ticksUntilArrival_106 : decode cX9_ticksUntilArrival 106 = .ok (.bipush 116, 2) := by decide +kernel
theorem dX9_ticksUntilArrival_108 : decode cX9_ticksUntilArrival 108 = .ok (.if_icmp .ge 21, 3) := by decide +kernel
theorem dX9_ticksUntilArrival_111 : decode cX9_ticksUntilArrival 111 = .ok (.aload_n 0, 1) := by decide +kernel
theorem dX9_ticksUntilArrival_112 : decode cX9_ticksUntilArrival 112 = .ok (.getfield 7, 3) := by decide +kernel
theorem dX9_ticksUntilArrival_115 : decode cX9_ticksUntilArrival 115 = .ok (.iload_n 3, 1) := by decide +kernel
theorem dX9_ticksUntilArrival_116 : decode cX9_ticksUntilArrival 116 = .ok (.aload_n 0, 1) := by decide +kernel
theorem dX9_ticksUntilArrival_117 : decode cX9_ticksUntilArrival 117 = .ok (.getfield 22, 3) := by decide +kernel
theorem dX9_ticksUntilArrival_120 : decode cX9_ticksUntilArrival 120 = .ok (.iload_n 3, 1) := by decide +kernel
theorem dX9_ticksUntilArrival_121 : decode cX9_ticksUntilArrival 121 = .ok (.iaload, 1) := by decide +kernel
theorem dX9_ticksUntilArrival_122 : decode cX9_ticksUntilArrival 122 = .ok (.iastore, 1) := by decide +kernel
theorem dX9_ticksUntilArrival_123 : decode cX9_ticksUntilArrival 123 = .ok (.iinc 3 1, 3) := by decide +kernel
theorem dX9_ticksUntilArrival_126 : decode cX9_ticksUntilArrival 126 = .ok (.goto (-21), 3) := by decide +kernel
theorem dX9_ticksUntilArrival_129 : decode cX9_ticksUntilArrival 129 = .ok (.iload_n 2, 1) := by decide +kernel
theorem dX9_ticksUntilArrival_130 : decode cX9_ticksUntilArrival 130 = .ok (.ifCond .ne 11, 3) := by decide +kernel
theorem dX9_ticksUntilArrival_133 : decode cX9_ticksUntilArrival 133 = .ok (.aload_n 0, 1) := by decide +kernel
theorem dX9_ticksUntilArrival_134 : decode cX9_ticksUntilArrival 134 = .ok (.iconst 2, 1) := by decide +kernel
theorem dX9_ticksUntilArrival_135 : decode cX9_ticksUntilArrival 135 = .ok (.invokevirtual 60, 3) := by decide +kernel
theorem dX9_ticksUntilArrival_138 : decode cX9_ticksUntilArrival 138 = .ok (.goto 4, 3) := by decide +kernel
theorem dX9_ticksUntilArrival_141 : decode cX9_ticksUntilArrival 141 = .ok (.iload_n 2, 1) := by decide +kernel
theorem dX9_ticksUntilArrival_142 : decode cX9_ticksUntilArrival 142 = .ok (.ireturn, 1) := by decide +kernel
theorem dX9_meanWaits_0 : decode cX9_meanWaits 0 = .ok (.aload_n 0, 1) := by decide +kernel
theorem dX9_meanWaits_1 : decode cX9_meanWaits 1 = .ok (.aload_n 0, 1) := by decide +kernel
theorem dX9_meanWaits_2 : decode cX9_meanWaits 2 = .ok (.getfield 7, 3) := by decide +kernel
theorem dX9_meanWaits_5 : decode cX9_meanWaits 5 = .ok (.iconst 1, 1) := by decide +kernel
theorem dX9_meanWaits_6 : decode cX9_meanWaits 6 = .ok (.iaload, 1) := by decide +kernel
theorem dX9_meanWaits_7 : decode cX9_meanWaits 7 = .ok (.ifCond .ne 7, 3) := by decide +kernel
theorem dX9_meanWaits_10 : decode cX9_meanWaits 10 = .ok (.iconst 1, 1) := by decide +kernel
theorem dX9_meanWaits_11 : decode cX9_meanWaits 11 = .ok (.goto 4, 3) := by decide +kernel
theorem dX9_meanWaits_14 : decode cX9_meanWaits 14 = .ok (.iconst 0, 1) := by decide +kernel
theorem dX9_meanWaits_15 : decode cX9_meanWaits 15 = .ok (.putfield 47, 3) := by decide +kernel
theorem dX9_meanWaits_18 : decode cX9_meanWaits 18 = .ok (.aload_n 0, 1) := by decide +kernel
theorem dX9_meanWaits_19 : decode cX9_meanWaits 19 = .ok (.getfield 47, 3) := by decide +kernel
theorem dX9_meanWaits_22 : decode cX9_meanWaits 22 = .ok (.ifCond .le 5, 3) := by decide +kernel
theorem dX9_meanWaits_25 : decode cX9_meanWaits 25 = .ok (.dconst 0, 1) := by decide +kernel
theorem dX9_meanWaits_26 : decode cX9_meanWaits 26 = .ok (.dreturn, 1) := by decide +kernel
theorem dX9_meanWaits_27 : decode cX9_meanWaits 27 = .ok (.iconst 0, 1) := by decide +kernel
theorem dX9_meanWaits_28 : decode cX9_meanWaits 28 = .ok (.istore_n 1, 1) := by decide +kernel
theorem dX9_meanWaits_29 : decode cX9_meanWaits 29 = .ok (.iconst 0, 1) := by decide +kernel
theorem dX9_meanWaits_30 : decode cX9_meanWaits 30 = .ok (.istore_n 2, 1) := by decide +kernel
theorem dX9_meanWaits_31 : decode cX9_meanWaits 31 = .ok (.iload_n 2, 1) := by decide +kernel
theorem dX9_meanWaits_32 : decode cX9_meanWaits 32 = .ok (.aload_n 0, 1) := by decide +kernel
theorem dX9_meanWaits_33 : decode cX9_meanWaits 33 = .ok (.getfield 7, 3) := by decide +kernel
theorem dX9_meanWaits_36 : decode cX9_meanWaits 36 = .ok (.iconst 1, 1) := by decide +kernel
theorem dX9_meanWaits_37 : decode cX9_meanWaits 37 = .ok (.iaload, 1) := by decide +kernel
theorem dX9_meanWaits_38 : decode cX9_meanWaits 38 = .ok (.if_icmp .ge 18, 3) := by decide +kernel
theorem dX9_meanWaits_41 : decode cX9_meanWaits 41 = .ok (.iload_n 1, 1) := by decide +kernel
theorem dX9_meanWaits_42 : decode cX9_meanWaits 42 = .ok (.aload_n 0, 1) := by decide +kernel
theorem dX9_meanWaits_43 : decode cX9_meanWaits 43 = .ok (.iload_n 2, 1) := by decide +kernel
theorem dX9_meanWaits_44 : decode cX9_meanWaits 44 = .ok (.iconst 5, 1) := by decide +kernel
theorem dX9_meanWaits_45 : decode cX9_meanWaits 45 = .ok (.invokevirtual 75, 3) := by decide +kernel
theorem dX9_meanWaits_48 : decode cX9_meanWaits 48 = .ok (.iadd, 1) := by decide +kernel
theorem dX9_meanWaits_49 : decode cX9_meanWaits 49 = .ok (.istore_n 1, 1) := by decide +kernel
theorem dX9_meanWaits_50 : decode cX9_meanWaits 50 = .ok (.iinc 2 1, 3) := by decide +kernel
theorem dX9_meanWaits_53 : decode cX9_meanWaits 53 = .ok (.goto (-22), 3) := by decide +kernel
theorem dX9_meanWaits_56 : decode cX9_meanWaits 56 = .ok (.iload_n 1, 1) := by decide +kernel
theorem dX9_meanWaits_57 : decode cX9_meanWaits 57 = .ok (.i2d, 1) := by decide +kernel
theorem dX9_meanWaits_58 : decode cX9_meanWaits 58 = .ok (.aload_n 0, 1) := by decide +kernel
theorem dX9_meanWaits_59 : decode cX9_meanWaits 59 = .ok (.getfield 7, 3) := by decide +kernel
theorem dX9_meanWaits_62 : decode cX9_meanWaits 62 = .ok (.iconst 1, 1) := by decide +kernel
theorem dX9_meanWaits_63 : decode cX9_meanWaits 63 = .ok (.iaload, 1) := by decide +kernel
theorem dX9_meanWaits_64 : decode cX9_meanWaits 64 = .ok (.i2d, 1) := by decide +kernel
theorem dX9_meanWaits_65 : decode cX9_meanWaits 65 = .ok (.ddiv, 1) := by decide +kernel
theorem dX9_meanWaits_66 : decode cX9_meanWaits 66 = .ok (.dreturn, 1) := by decide +kernel
theorem dX9_occupiedFraction_0 : decode cX9_occupiedFraction 0 = .ok (.aload_n 0, 1) := by decide +kernel
theorem dX9_occupiedFraction_1 : decode cX9_occupiedFraction 1 = .ok (.aload_n 0, 1) := by decide +kernel
theorem dX9_occupiedFraction_2 : decode cX9_occupiedFraction 2 = .ok (.getfield 7, 3) := by decide +kernel
theorem dX9_occupiedFraction_5 : decode cX9_occupiedFraction 5 = .ok (.iconst 0, 1) := by decide +kernel
theorem dX9_occupiedFraction_6 : decode cX9_occupiedFraction 6 = .ok (.iaload, 1) := by decide +kernel
theorem dX9_occupiedFraction_7 : decode cX9_occupiedFraction 7 = .ok (.ifCond .ne 7, 3) := by decide +kernel
theorem dX9_occupiedFraction_10 : decode cX9_occupiedFraction 10 = .ok (.iconst 1, 1) := by decide +kernel
theorem dX9_occupiedFraction_11 : decode cX9_occupiedFraction 11 = .ok (.goto 4, 3) := by decide +kernel
theorem dX9_occupiedFraction_14 : decode cX9_occupiedFraction 14 = .ok (.iconst 0, 1) := by decide +kernel
theorem dX9_occupiedFraction_15 : decode cX9_occupiedFraction 15 = .ok (.putfield 47, 3) := by decide +kernel
theorem dX9_occupiedFraction_18 : decode cX9_occupiedFraction 18 = .ok (.aload_n 0, 1) := by decide +kernel
theorem dX9_occupiedFraction_19 : decode cX9_occupiedFraction 19 = .ok (.getfield 47, 3) := by decide +kernel
theorem dX9_occupiedFraction_22 : decode cX9_occupiedFraction 22 = .ok (.ifCond .le 7, 3) := by decide +kernel
theorem dX9_occupiedFraction_25 : decode cX9_occupiedFraction 25 = .ok (.fconst 0, 1) := by decide +kernel
theorem dX9_occupiedFraction_26 : decode cX9_occupiedFraction 26 = .ok (.goto 18, 3) := by decide +kernel
theorem dX9_occupiedFraction_29 : decode cX9_occupiedFraction 29 = .ok (.aload_n 0, 1) := by decide +kernel
theorem dX9_occupiedFraction_30 : decode cX9_occupiedFraction 30 = .ok (.getfield 7, 3) := by decide +kernel
theorem dX9_occupiedFraction_33 : decode cX9_occupiedFraction 33 = .ok (.iconst 1, 1) := by decide +kernel
theorem dX9_occupiedFraction_34 : decode cX9_occupiedFraction 34 = .ok (.iaload, 1) := by decide +kernel
theorem dX9_occupiedFraction_35 : decode cX9_occupiedFraction 35 = .ok (.i2f, 1) := by decide +kernel
theorem dX9_occupiedFraction_36 : decode cX9_occupiedFraction 36 = .ok (.aload_n 0, 1) := by decide +kernel
theorem dX9_occupiedFraction_37 : decode cX9_occupiedFraction 37 = .ok (.getfield 7, 3) := by decide +kernel
theorem dX9_occupiedFraction_40 : decode cX9_occupiedFraction 40 = .ok (.iconst 0, 1) := by decide +kernel
theorem dX9_occupiedFraction_41 : decode cX9_occupiedFraction 41 = .ok (.iaload, 1) := by decide +kernel
theorem dX9_occupiedFraction_42 : decode cX9_occupiedFraction 42 = .ok (.i2f, 1) := by decide +kernel
theorem dX9_occupiedFraction_43 : decode cX9_occupiedFraction 43 = .ok (.fdiv, 1) := by decide +kernel
theorem dX9_occupiedFraction_44 : decode cX9_occupiedFraction 44 = .ok (.freturn, 1) := by decide +kernel
theorem dX9_writes_0 : decode cX9_writes 0 = .ok (.aload_n 0, 1) := by decide +kernel
theorem dX9_writes_1 : decode cX9_writes 1 = .ok (.getfield 31, 3) := by decide +kernel
theorem dX9_writes_4 : decode cX9_writes 4 = .ok (.aload_n 0, 1) := by decide +kernel
theorem dX9_writes_5 : decode cX9_writes 5 = .ok (.getfield 190, 3) := by decide +kernel
theorem dX9_writes_8 : decode cX9_writes 8 = .ok (.iload_n 1, 1) := by decide +kernel
theorem dX9_writes_9 : decode cX9_writes 9 = .ok (.iastore, 1) := by decide +kernel
theorem dX9_writes_10 : decode cX9_writes 10 = .ok (.aload_n 0, 1) := by decide +kernel
theorem dX9_writes_11 : decode cX9_writes 11 = .ok (.dup, 1) := by decide +kernel
theorem dX9_writes_12 : decode cX9_writes 12 = .ok (.getfield 190, 3) := by decide +kernel
theorem dX9_writes_15 : decode cX9_writes 15 = .ok (.iconst 1, 1) := by decide +kernel
theorem dX9_writes_16 : decode cX9_writes 16 = .ok (.iadd, 1) := by decide +kernel
theorem dX9_writes_17 : decode cX9_writes 17 = .ok (.putfield 190, 3) := by decide +kernel
theorem dX9_writes_20 : decode cX9_writes 20 = .ok (.return_, 1) := by decide +kernel
theorem dX9_writesNumber_0 : decode cX9_writesNumber 0 = .ok (.iload_n 1, 1) := by decide +kernel
theorem dX9_writesNumber_1 : decode cX9_writesNumber 1 = .ok (.bipush 9, 2) := by decide +kernel
theorem dX9_writesNumber_3 : decode cX9_writesNumber 3 = .ok (.if_icmp .le 14, 3) := by decide +kernel
theorem dX9_writesNumber_6 : decode cX9_writesNumber 6 = .ok (.aload_n 0, 1) := by decide +kernel
theorem dX9_writesNumber_7 : decode cX9_writesNumber 7 = .ok (.bipush 48, 2) := by decide +kernel
theorem dX9_writesNumber_9 : decode cX9_writesNumber 9 = .ok (.iload_n 1, 1) := by decide +kernel
theorem dX9_writesNumber_10 : decode cX9_writesNumber 10 = .ok (.bipush 10, 2) := by decide +kernel
theorem dX9_writesNumber_12 : decode cX9_writesNumber 12 = .ok (.idiv, 1) := by decide +kernel
theorem dX9_writesNumber_13 : decode cX9_writesNumber 13 = .ok (.iadd, 1) := by decide +kernel
theorem dX9_writesNumber_14 : decode cX9_writesNumber 14 = .ok (.invokevirtual 193, 3) := by decide +kernel
theorem dX9_writesNumber_17 : decode cX9_writesNumber 17 = .ok (.aload_n 0, 1) := by decide +kernel
theorem dX9_writesNumber_18 : decode cX9_writesNumber 18 = .ok (.bipush 48, 2) := by decide +kernel
theorem dX9_writesNumber_20 : decode cX9_writesNumber 20 = .ok (.iload_n 1, 1) := by decide +kernel
theorem dX9_writesNumber_21 : decode cX9_writesNumber 21 = .ok (.bipush 10, 2) := by decide +kernel
theorem dX9_writesNumber_23 : decode cX9_writesNumber 23 = .ok (.irem, 1) := by decide +kernel
theorem dX9_writesNumber_24 : decode cX9_writesNumber 24 = .ok (.iadd, 1) := by decide +kernel
theorem dX9_writesNumber_25 : decode cX9_writesNumber 25 = .ok (.invokevirtual 193, 3) := by decide +kernel
theorem dX9_writesNumber_28 : decode cX9_writesNumber 28 = .ok (.return_, 1) := by decide +kernel
theorem dX9_writeTrain_0 : decode cX9_writeTrain 0 = .ok (.aload_n 0, 1) := by decide +kernel
theorem dX9_writeTrain_1 : decode cX9_writeTrain 1 = .ok (.aload_n 0, 1) := by decide +kernel
theorem dX9_writeTrain_2 : decode cX9_writeTrain 2 = .ok (.iload_n 1, 1) := by decide +kernel
theorem dX9_writeTrain_3 : decode cX9_writeTrain 3 = .ok (.invokevirtual 109, 3) := by decide +kernel
theorem dX9_writeTrain_6 : decode cX9_writeTrain 6 = .ok (.ifCond .eq 7, 3) := by decide +kernel
theorem dX9_writeTrain_9 : decode cX9_writeTrain 9 = .ok (.iconst 0, 1) := by decide +kernel
theorem dX9_writeTrain_10 : decode cX9_writeTrain 10 = .ok (.goto 4, 3) := by decide +kernel
theorem dX9_writeTrain_13 : decode cX9_writeTrain 13 = .ok (.iconst 1, 1) := by decide +kernel
theorem dX9_writeTrain_14 : decode cX9_writeTrain 14 = .ok (.putfield 47, 3) := by decide +kernel
theorem dX9_writeTrain_17 : decode cX9_writeTrain 17 = .ok (.aload_n 0, 1) := by decide +kernel
theorem dX9_writeTrain_18 : decode cX9_writeTrain 18 = .ok (.getfield 47, 3) := by decide +kernel
theorem dX9_writeTrain_21 : decode cX9_writeTrain 21 = .ok (.ifCond .le 5, 3) := by decide +kernel
theorem dX9_writeTrain_24 : decode cX9_writeTrain 24 = .ok (.iconst 0, 1) := by decide +kernel
theorem dX9_writeTrain_25 : decode cX9_writeTrain 25 = .ok (.ireturn, 1) := by decide +kernel
theorem dX9_writeTrain_26 : decode cX9_writeTrain 26 = .ok (.aload_n 0, 1) := by decide +kernel
theorem dX9_writeTrain_27 : decode cX9_writeTrain 27 = .ok (.iconst 0, 1) := by decide +kernel
theorem dX9_writeTrain_28 : decode cX9_writeTrain 28 = .ok (.putfield 190, 3) := by decide +kernel
theorem dX9_writeTrain_31 : decode cX9_writeTrain 31 = .ok (.aload_n 0, 1) := by decide +kernel
theorem dX9_writeTrain_32 : decode cX9_writeTrain 32 = .ok (.bipush 84, 2) := by decide +kernel
theorem dX9_writeTrain_34 : decode cX9_writeTrain 34 = .ok (.invokevirtual 193, 3) := by decide +kernel
theorem dX9_writeTrain_37 : decode cX9_writeTrain 37 = .ok (.aload_n 0, 1) := by decide +kernel
theorem dX9_writeTrain_38 : decode cX9_writeTrain 38 = .ok (.iload_n 1, 1) := by decide +kernel
theorem dX9_writeTrain_39 : decode cX9_writeTrain 39 = .ok (.invokevirtual 196, 3) := by decide +kernel
theorem dX9_writeTrain_42 : decode cX9_writeTrain 42 = .ok (.aload_n 0, 1) := by decide +kernel
theorem dX9_writeTrain_43 : decode cX9_writeTrain 43 = .ok (.bipush 64, 2) := by decide +kernel
theorem dX9_writeTrain_45 : decode cX9_writeTrain 45 = .ok (.invokevirtual 193, 3) := by decide +kernel
theorem dX9_writeTrain_48 : decode cX9_writeTrain 48 = .ok (.aload_n 0, 1) := by decide +kernel
theorem dX9_writeTrain_49 : decode cX9_writeTrain 49 = .ok (.aload_n 0, 1) := by decide +kernel
theorem dX9_writeTrain_50 : decode cX9_writeTrain 50 = .ok (.iload_n 1, 1) := by decide +kernel
theorem dX9_writeTrain_51 : decode cX9_writeTrain 51 = .ok (.iconst 0, 1) := by decide +kernel
theorem dX9_writeTrain_52 : decode cX9_writeTrain 52 = .ok (.invokevirtual 75, 3) := by decide +kernel
theorem dX9_writeTrain_55 : decode cX9_writeTrain 55 = .ok (.invokevirtual 196, 3) := by decide +kernel
theorem dX9_writeTrain_58 : decode cX9_writeTrain 58 = .ok (.aload_n 0, 1) := by decide +kernel
theorem dX9_writeTrain_59 : decode cX9_writeTrain 59 = .ok (.iload_n 1, 1) := by decide +kernel
theorem dX9_writeTrain_60 : decode cX9_writeTrain 60 = .ok (.iconst 2, 1) := by decide +kernel
theorem dX9_writeTrain_61 : decode cX9_writeTrain 61 = .ok (.invokevirtual 75, 3) := by decide +kernel
theorem dX9_writeTrain_64 : decode cX9_writeTrain 64 = .ok (.ifCond .le 19, 3) := by decide +kernel
theorem dX9_writeTrain_67 : decode cX9_writeTrain 67 = .ok (.aload_n 0, 1) := by decide +kernel
theorem dX9_writeTrain_68 : decode cX9_writeTrain 68 = .ok (.bipush 43, 2) := by decide +kernel
theorem dX9_writeTrain_70 : decode cX9_writeTrain 70 = .ok (.invokevirtual 193, 3) := by decide +kernel
theorem dX9_writeTrain_73 : decode cX9_writeTrain 73 = .ok (.aload_n 0, 1) := by decide +kernel
theorem dX9_writeTrain_74 : decode cX9_writeTrain 74 = .ok (.aload_n 0, 1) := by decide +kernel
theorem dX9_writeTrain_75 : decode cX9_writeTrain 75 = .ok (.iload_n 1, 1) := by decide +kernel
theorem dX9_writeTrain_76 : decode cX9_writeTrain 76 = .ok (.iconst 2, 1) := by decide +kernel
theorem dX9_writeTrain_77 : decode cX9_writeTrain 77 = .ok (.invokevirtual 75, 3) := by decide +kernel
theorem dX9_writeTrain_80 : decode cX9_writeTrain 80 = .ok (.invokevirtual 196, 3) := by decide +kernel
theorem dX9_writeTrain_83 : decode cX9_writeTrain 83 = .ok (.aload_n 0, 1) := by decide +kernel
theorem dX9_writeTrain_84 : decode cX9_writeTrain 84 = .ok (.iload_n 1, 1) := by decide +kernel
theorem dX9_writeTrain_85 : decode cX9_writeTrain 85 = .ok (.invokevirtual 81, 3) := by decide +kernel
theorem dX9_writeTrain_88 : decode cX9_writeTrain 88 = .ok (.iconst (-1), 1) := by decide +kernel
theorem dX9_writeTrain_89 : decode cX9_writeTrain 89 = .ok (.if_icmp .eq 18, 3) := by decide +kernel
theorem dX9_writeTrain_92 : decode cX9_writeTrain 92 = .ok (.aload_n 0, 1) := by decide +kernel
theorem dX9_writeTrain_93 : decode cX9_writeTrain 93 = .ok (.bipush 62, 2) := by decide +kernel
theorem dX9_writeTrain_95 : decode cX9_writeTrain 95 = .ok (.invokevirtual 193, 3) := by decide +kernel
theorem dX9_writeTrain_98 : decode cX9_writeTrain 98 = .ok (.aload_n 0, 1) := by decide +kernel
theorem dX9_writeTrain_99 : decode cX9_writeTrain 99 = .ok (.aload_n 0, 1) := by decide +kernel
theorem dX9_writeTrain_100 : decode cX9_writeTrain 100 = .ok (.iload_n 1, 1) := by decide +kernel
theorem dX9_writeTrain_101 : decode cX9_writeTrain 101 = .ok (.invokevirtual 81, 3) := by decide +kernel
theorem dX9_writeTrain_104 : decode cX9_writeTrain 104 = .ok (.invokevirtual 196, 3) := by decide +kernel
theorem dX9_writeTrain_107 : decode cX9_writeTrain 107 = .ok (.aload_n 0, 1) := by decide +kernel
theorem dX9_writeTrain_108 : decode cX9_writeTrain 108 = .ok (.iload_n 1, 1) := by decide +kernel
theorem dX9_writeTrain_109 : decode cX9_writeTrain 109 = .ok (.iconst 4, 1) := by decide +kernel
theorem dX9_writeTrain_110 : decode cX9_writeTrain 110 = .ok (.invokevirtual 75, 3) := by decide +kernel
theorem dX9_writeTrain_113 : decode cX9_writeTrain 113 = .ok (.iconst 1, 1) := by decide +kernel
theorem dX9_writeTrain_114 : decode cX9_writeTrain 114 = .ok (.if_icmp .ne 9, 3) := by decide +kernel
theorem dX9_writeTrain_117 : decode cX9_writeTrain 117 = .ok (.aload_n 0, 1) := by decide +kernel
theorem dX9_writeTrain_118 : decode cX9_writeTrain 118 = .ok (.bipush 33, 2) := by decide +kernel
theorem dX9_writeTrain_120 : decode cX9_writeTrain 120 = .ok (.invokevirtual 193, 3) := by decide +kernel
theorem dX9_writeTrain_123 : decode cX9_writeTrain 123 = .ok (.aload_n 0, 1) := by decide +kernel
theorem dX9_writeTrain_124 : decode cX9_writeTrain 124 = .ok (.getfield 190, 3) := by decide +kernel
theorem dX9_writeTrain_127 : decode cX9_writeTrain 127 = .ok (.ireturn, 1) := by decide +kernel
theorem dX9_writeSignals_0 : decode cX9_writeSignals 0 = .ok (.aload_n 0, 1) := by decide +kernel
theorem dX9_writeSignals_1 : decode cX9_writeSignals 1 = .ok (.iconst 0, 1) := by decide +kernel
theorem dX9_writeSignals_2 : decode cX9_writeSignals 2 = .ok (.putfield 47, 3) := by decide +kernel
theorem dX9_writeSignals_5 : decode cX9_writeSignals 5 = .ok (.aload_n 0, 1) := by decide +kernel
theorem dX9_writeSignals_6 : decode cX9_writeSignals 6 = .ok (.iconst 0, 1) := by decide +kernel
theorem dX9_writeSignals_7 : decode cX9_writeSignals 7 = .ok (.putfield 190, 3) := by decide +kernel
theorem dX9_writeSignals_10 : decode cX9_writeSignals 10 = .ok (.iconst 0, 1) := by decide +kernel
theorem dX9_writeSignals_11 : decode cX9_writeSignals 11 = .ok (.istore_n 1, 1) := by decide +kernel
theorem dX9_writeSignals_12 : decode cX9_writeSignals 12 = .ok (.iload_n 1, 1) := by decide +kernel
theorem dX9_writeSignals_13 : decode cX9_writeSignals 13 = .ok (.aload_n 0, 1) := by decide +kernel
theorem dX9_writeSignals_14 : decode cX9_writeSignals 14 = .ok (.getfield 7, 3) := by decide +kernel
theorem dX9_writeSignals_17 : decode cX9_writeSignals 17 = .ok (.iconst 0, 1) := by decide +kernel
theorem dX9_writeSignals_18 : decode cX9_writeSignals 18 = .ok (.iaload, 1) := by decide +kernel
theorem dX9_writeSignals_19 : decode cX9_writeSignals 19 = .ok (.if_icmp .ge 18, 3) := by decide +kernel
theorem dX9_writeSignals_22 : decode cX9_writeSignals 22 = .ok (.aload_n 0, 1) := by decide +kernel
theorem dX9_writeSignals_23 : decode cX9_writeSignals 23 = .ok (.aload_n 0, 1) := by decide +kernel
theorem dX9_writeSignals_24 : decode cX9_writeSignals 24 = .ok (.iload_n 1, 1) := by decide +kernel
theorem dX9_writeSignals_25 : decode cX9_writeSignals 25 = .ok (.invokevirtual 151, 3) := by decide +kernel
theorem dX9_writeSignals_28 : decode cX9_writeSignals 28 = .ok (.invokevirtual 193, 3) := by decide +kernel
theorem dX9_writeSignals_31 : decode cX9_writeSignals 31 = .ok (.iinc 1 1, 3) := by decide +kernel
theorem dX9_writeSignals_34 : decode cX9_writeSignals 34 = .ok (.goto (-22), 3) := by decide +kernel
theorem dX9_writeSignals_37 : decode cX9_writeSignals 37 = .ok (.aload_n 0, 1) := by decide +kernel
theorem dX9_writeSignals_38 : decode cX9_writeSignals 38 = .ok (.getfield 190, 3) := by decide +kernel
theorem dX9_writeSignals_41 : decode cX9_writeSignals 41 = .ok (.ireturn, 1) := by decide +kernel
theorem dX9_outputCharacter_0 : decode cX9_outputCharacter 0 = .ok (.aload_n 0, 1) := by decide +kernel
theorem dX9_outputCharacter_1 : decode cX9_outputCharacter 1 = .ok (.iload_n 1, 1) := by decide +kernel
theorem dX9_outputCharacter_2 : decode cX9_outputCharacter 2 = .ok (.iconst 0, 1) := by decide +kernel
theorem dX9_outputCharacter_3 : decode cX9_outputCharacter 3 = .ok (.aload_n 0, 1) := by decide +kernel
theorem dX9_outputCharacter_4 : decode cX9_outputCharacter 4 = .ok (.getfield 190, 3) := by decide +kernel
theorem dX9_outputCharacter_7 : decode cX9_outputCharacter 7 = .ok (.iconst 1, 1) := by decide +kernel
theorem dX9_outputCharacter_8 : decode cX9_outputCharacter 8 = .ok (.isub, 1) := by decide +kernel
theorem dX9_outputCharacter_9 : decode cX9_outputCharacter 9 = .ok (.invokestatic 63, 3) := by decide +kernel
theorem dX9_outputCharacter_12 : decode cX9_outputCharacter 12 = .ok (.ifCond .eq 7, 3) := by decide +kernel
theorem dX9_outputCharacter_15 : decode cX9_outputCharacter 15 = .ok (.iconst 0, 1) := by decide +kernel
theorem dX9_outputCharacter_16 : decode cX9_outputCharacter 16 = .ok (.goto 4, 3) := by decide +kernel
theorem dX9_outputCharacter_19 : decode cX9_outputCharacter 19 = .ok (.iconst 1, 1) := by decide +kernel
theorem dX9_outputCharacter_20 : decode cX9_outputCharacter 20 = .ok (.putfield 47, 3) := by decide +kernel
theorem dX9_outputCharacter_23 : decode cX9_outputCharacter 23 = .ok (.aload_n 0, 1) := by decide +kernel
theorem dX9_outputCharacter_24 : decode cX9_outputCharacter 24 = .ok (.getfield 47, 3) := by decide +kernel
theorem dX9_outputCharacter_27 : decode cX9_outputCharacter 27 = .ok (.ifCond .le 7, 3) := by decide +kernel
theorem dX9_outputCharacter_30 : decode cX9_outputCharacter 30 = .ok (.iconst 0, 1) := by decide +kernel
theorem dX9_outputCharacter_31 : decode cX9_outputCharacter 31 = .ok (.goto 10, 3) := by decide +kernel
theorem dX9_outputCharacter_34 : decode cX9_outputCharacter 34 = .ok (.aload_n 0, 1) := by decide +kernel
theorem dX9_outputCharacter_35 : decode cX9_outputCharacter 35 = .ok (.getfield 31, 3) := by decide +kernel
theorem dX9_outputCharacter_38 : decode cX9_outputCharacter 38 = .ok (.iload_n 1, 1) := by decide +kernel
theorem dX9_outputCharacter_39 : decode cX9_outputCharacter 39 = .ok (.iaload, 1) := by decide +kernel
theorem dX9_outputCharacter_40 : decode cX9_outputCharacter 40 = .ok (.i2c, 1) := by decide +kernel
theorem dX9_outputCharacter_41 : decode cX9_outputCharacter 41 = .ok (.ireturn, 1) := by decide +kernel
theorem dX9_isConsistent_0 : decode cX9_isConsistent 0 = .ok (.aload_n 0, 1) := by decide +kernel
theorem dX9_isConsistent_1 : decode cX9_isConsistent 1 = .ok (.iconst 0, 1) := by decide +kernel
theorem dX9_isConsistent_2 : decode cX9_isConsistent 2 = .ok (.putfield 47, 3) := by decide +kernel
theorem dX9_isConsistent_5 : decode cX9_isConsistent 5 = .ok (.iconst 1, 1) := by decide +kernel
theorem dX9_isConsistent_6 : decode cX9_isConsistent 6 = .ok (.ireturn, 1) := by decide +kernel
theorem dX9_feed_0 : decode cX9_feed 0 = .ok (.aload_n 0, 1) := by decide +kernel
theorem dX9_feed_1 : decode cX9_feed 1 = .ok (.aload_n 0, 1) := by decide +kernel
theorem dX9_feed_2 : decode cX9_feed 2 = .ok (.getfield 199, 3) := by decide +kernel
theorem dX9_feed_5 : decode cX9_feed 5 = .ok (.bipush 60, 2) := by decide +kernel
theorem dX9_feed_7 : decode cX9_feed 7 = .ok (.if_icmp .ne 7, 3) := by decide +kernel
theorem dX9_feed_10 : decode cX9_feed 10 = .ok (.iconst 1, 1) := by decide +kernel
theorem dX9_feed_11 : decode cX9_feed 11 = .ok (.goto 4, 3) := by decide +kernel
theorem dX9_feed_14 : decode cX9_feed 14 = .ok (.iconst 0, 1) := by decide +kernel
theorem dX9_feed_15 : decode cX9_feed 15 = .ok (.putfield 47, 3) := by decide +kernel
theorem dX9_feed_18 : decode cX9_feed 18 = .ok (.aload_n 0, 1) := by decide +kernel
theorem dX9_feed_19 : decode cX9_feed 19 = .ok (.getfield 47, 3) := by decide +kernel
theorem dX9_feed_22 : decode cX9_feed 22 = .ok (.ifCond .le 5, 3) := by decide +kernel
theorem dX9_feed_25 : decode cX9_feed 25 = .ok (.iconst 0, 1) := by decide +kernel
theorem dX9_feed_26 : decode cX9_feed 26 = .ok (.ireturn, 1) := by decide +kernel
theorem dX9_feed_27 : decode cX9_feed 27 = .ok (.aload_n 0, 1) := by decide +kernel
theorem dX9_feed_28 : decode cX9_feed 28 = .ok (.getfield 25, 3) := by decide +kernel
theorem dX9_feed_31 : decode cX9_feed 31 = .ok (.aload_n 0, 1) := by decide +kernel
theorem dX9_feed_32 : decode cX9_feed 32 = .ok (.getfield 199, 3) := by decide +kernel
theorem dX9_feed_35 : decode cX9_feed 35 = .ok (.iload_n 1, 1) := by decide +kernel
theorem dX9_feed_36 : decode cX9_feed 36 = .ok (.iastore, 1) := by decide +kernel
theorem dX9_feed_37 : decode cX9_feed 37 = .ok (.aload_n 0, 1) := by decide +kernel
theorem dX9_feed_38 : decode cX9_feed 38 = .ok (.dup, 1) := by decide +kernel
theorem dX9_feed_39 : decode cX9_feed 39 = .ok (.getfield 199, 3) := by decide +kernel
theorem dX9_feed_42 : decode cX9_feed 42 = .ok (.iconst 1, 1) := by decide +kernel
theorem dX9_feed_43 : decode cX9_feed 43 = .ok (.iadd, 1) := by decide +kernel
theorem dX9_feed_44 : decode cX9_feed 44 = .ok (.putfield 199, 3) := by decide +kernel
theorem dX9_feed_47 : decode cX9_feed 47 = .ok (.aload_n 0, 1) := by decide +kernel
theorem dX9_feed_48 : decode cX9_feed 48 = .ok (.getfield 199, 3) := by decide +kernel
theorem dX9_feed_51 : decode cX9_feed 51 = .ok (.ireturn, 1) := by decide +kernel
theorem dX9_here_0 : decode cX9_here 0 = .ok (.aload_n 0, 1) := by decide +kernel
theorem dX9_here_1 : decode cX9_here 1 = .ok (.getfield 202, 3) := by decide +kernel
theorem dX9_here_4 : decode cX9_here 4 = .ok (.iload_n 1, 1) := by decide +kernel
theorem dX9_here_5 : decode cX9_here 5 = .ok (.iadd, 1) := by decide +kernel
theorem dX9_here_6 : decode cX9_here 6 = .ok (.aload_n 0, 1) := by decide +kernel
theorem dX9_here_7 : decode cX9_here 7 = .ok (.getfield 205, 3) := by decide +kernel
theorem dX9_here_10 : decode cX9_here 10 = .ok (.if_icmp .ge 17, 3) := by decide +kernel
theorem dX9_here_13 : decode cX9_here 13 = .ok (.aload_n 0, 1) := by decide +kernel
theorem dX9_here_14 : decode cX9_here 14 = .ok (.getfield 25, 3) := by decide +kernel
theorem dX9_here_17 : decode cX9_here 17 = .ok (.aload_n 0, 1) := by decide +kernel
theorem dX9_here_18 : decode cX9_here 18 = .ok (.getfield 202, 3) := by decide +kernel
theorem dX9_here_21 : decode cX9_here 21 = .ok (.iload_n 1, 1) := by decide +kernel
theorem dX9_here_22 : decode cX9_here 22 = .ok (.iadd, 1) := by decide +kernel
theorem dX9_here_23 : decode cX9_here 23 = .ok (.iaload, 1) := by decide +kernel
theorem dX9_here_24 : decode cX9_here 24 = .ok (.goto 4, 3) := by decide +kernel
theorem dX9_here_27 : decode cX9_here 27 = .ok (.iconst (-1), 1) := by decide +kernel
theorem dX9_here_28 : decode cX9_here 28 = .ok (.ireturn, 1) := by decide +kernel
theorem dX9_says_0 : decode cX9_says 0 = .ok (.iconst 0, 1) := by decide +kernel
theorem dX9_says_1 : decode cX9_says 1 = .ok (.istore_n 2, 1) := by decide +kernel
theorem dX9_says_2 : decode cX9_says 2 = .ok (.iload_n 2, 1) := by decide +kernel
theorem dX9_says_3 : decode cX9_says 3 = .ok (.aload_n 1, 1) := by decide +kernel
theorem dX9_says_4 : decode cX9_says 4 = .ok (.invokevirtual 208, 3) := by decide +kernel
theorem dX9_says_7 : decode cX9_says 7 = .ok (.if_icmp .ge 59, 3) := by decide +kernel
theorem dX9_says_10 : decode cX9_says 10 = .ok (.aload_n 0, 1) := by decide +kernel
theorem dX9_says_11 : decode cX9_says 11 = .ok (.getfield 213, 3) := by decide +kernel
theorem dX9_says_14 : decode cX9_says 14 = .ok (.ifCond .ne 52, 3) := by decide +kernel
theorem dX9_says_17 : decode cX9_says 17 = .ok (.aload_n 0, 1) := by decide +kernel
theorem dX9_says_18 : decode cX9_says 18 = .ok (.aload_n 0, 1) := by decide +kernel
theorem dX9_says_19 : decode cX9_says 19 = .ok (.iconst 0, 1) := by decide +kernel
theorem dX9_says_20 : decode cX9_says 20 = .ok (.invokevirtual 217, 3) := by decide +kernel
theorem dX9_says_23 : decode cX9_says 23 = .ok (.aload_n 1, 1) := by decide +kernel
theorem dX9_says_24 : decode cX9_says 24 = .ok (.iload_n 2, 1) := by decide +kernel
theorem dX9_says_25 : decode cX9_says 25 = .ok (.invokevirtual 220, 3) := by decide +kernel
theorem dX9_says_28 : decode cX9_says 28 = .ok (.if_icmp .eq 7, 3) := by decide +kernel
theorem dX9_says_31 : decode cX9_says 31 = .ok (.iconst 1, 1) := by decide +kernel
theorem dX9_says_32 : decode cX9_says 32 = .ok (.goto 4, 3) := by decide +kernel
theorem dX9_says_35 : decode cX9_says 35 = .ok (.iconst 0, 1) := by decide +kernel
theorem dX9_says_36 : decode cX9_says 36 = .ok (.putfield 213, 3) := by decide +kernel
theorem dX9_says_39 : decode cX9_says 39 = .ok (.aload_n 0, 1) := by decide +kernel
theorem dX9_says_40 : decode cX9_says 40 = .ok (.dup, 1) := by decide +kernel
theorem dX9_says_41 : decode cX9_says 41 = .ok (.getfield 202, 3) := by decide +kernel
theorem dX9_says_44 : decode cX9_says 44 = .ok (.aload_n 0, 1) := by decide +kernel
theorem dX9_says_45 : decode cX9_says 45 = .ok (.getfield 213, 3) := by decide +kernel
theorem dX9_says_48 : decode cX9_says 48 = .ok (.ifCond .eq 7, 3) := by decide +kernel
theorem dX9_says_51 : decode cX9_says 51 = .ok (.iconst 0, 1) := by decide +kernel
theorem dX9_says_52 : decode cX9_says 52 = .ok (.goto 4, 3) := by decide +kernel
theorem dX9_says_55 : decode cX9_says 55 = .ok (.iconst 1, 1) := by decide +kernel
theorem dX9_says_56 : decode cX9_says 56 = .ok (.iadd, 1) := by decide +kernel
theorem dX9_says_57 : decode cX9_says 57 = .ok (.putfield 202, 3) := by decide +kernel
theorem dX9_says_60 : decode cX9_says 60 = .ok (.iinc 2 1, 3) := by decide +kernel
theorem dX9_says_63 : decode cX9_says 63 = .ok (.goto (-61), 3) := by decide +kernel
theorem dX9_says_66 : decode cX9_says 66 = .ok (.return_, 1) := by decide +kernel
theorem dX9_number_0 : decode cX9_number 0 = .ok (.iconst 0, 1) := by decide +kernel
theorem dX9_number_1 : decode cX9_number 1 = .ok (.istore_n 3, 1) := by decide +kernel
theorem dX9_number_2 : decode cX9_number 2 = .ok (.iconst 0, 1) := by decide +kernel
theorem dX9_number_3 : decode cX9_number 3 = .ok (.istore 4, 2) := by decide +kernel
theorem dX9_number_5 : decode cX9_number 5 = .ok (.aload_n 0, 1) := by decide +kernel
theorem dX9_number_6 : decode cX9_number 6 = .ok (.getfield 213, 3) := by decide +kernel
theorem dX9_number_9 : decode cX9_number 9 = .ok (.ifCond .ne 54, 3) := by decide +kernel
theorem dX9_number_12 : decode cX9_number 12 = .ok (.iload 4, 2) := by decide +kernel
theorem dX9_number_14 : decode cX9_number 14 = .ok (.iload_n 2, 1) := by decide +kernel
theorem dX9_number_15 : decode cX9_number 15 = .ok (.if_icmp .ge 48, 3) := by decide +kernel
theorem dX9_number_18 : decode cX9_number 18 = .ok (.aload_n 0, 1) := by decide +kernel
theorem dX9_number_19 : decode cX9_number 19 = .ok (.iconst 0, 1) := by decide +kernel
theorem dX9_number_20 : decode cX9_number 20 = .ok (.invokevirtual 217, 3) := by decide +kernel
theorem dX9_number_23 : decode cX9_number 23 = .ok (.bipush 48, 2) := by decide +kernel
theorem dX9_number_25 : decode cX9_number 25 = .ok (.bipush 57, 2) := by decide +kernel
theorem dX9_number_27 : decode cX9_number 27 = .ok (.invokestatic 63, 3) := by decide +kernel
theorem dX9_number_30 : decode cX9_number 30 = .ok (.ifCond .eq 33, 3) := by decide +kernel
theorem dX9_number_33 : decode cX9_number 33 = .ok (.bipush 10, 2) := by decide +kernel
theorem dX9_number_35 : decode cX9_number 35 = .ok (.iload_n 3, 1) := by decide +kernel
theorem dX9_number_36 : decode cX9_number 36 = .ok (.imul, 1) := by decide +kernel
theorem dX9_number_37 : decode cX9_number 37 = .ok (.aload_n 0, 1) := by decide +kernel
theorem dX9_number_38 : decode cX9_number 38 = .ok (.iconst 0, 1) := by decide +kernel
theorem dX9_number_39 : decode cX9_number 39 = .ok (.invokevirtual 217, 3) := by decide +kernel
theorem dX9_number_42 : decode cX9_number 42 = .ok (.iadd, 1) := by decide +kernel
theorem dX9_number_43 : decode cX9_number 43 = .ok (.bipush 48, 2) := by decide +kernel
theorem dX9_number_45 : decode cX9_number 45 = .ok (.isub, 1) := by decide +kernel
theorem dX9_number_46 : decode cX9_number 46 = .ok (.istore_n 3, 1) := by decide +kernel
theorem dX9_number_47 : decode cX9_number 47 = .ok (.aload_n 0, 1) := by decide +kernel
theorem dX9_number_48 : decode cX9_number 48 = .ok (.dup, 1) := by decide +kernel
theorem dX9_number_49 : decode cX9_number 49 = .ok (.getfield 202, 3) := by decide +kernel
theorem dX9_number_52 : decode cX9_number 52 = .ok (.iconst 1, 1) := by decide +kernel
theorem dX9_number_53 : decode cX9_number 53 = .ok (.iadd, 1) := by decide +kernel
theorem dX9_number_54 : decode cX9_number 54 = .ok (.putfield 202, 3) := by decide +kernel
theorem dX9_number_57 : decode cX9_number 57 = .ok (.iinc 4 1, 3) := by decide +kernel
theorem dX9_number_60 : decode cX9_number 60 = .ok (.goto (-55), 3) := by decide +kernel
theorem dX9_number_63 : decode cX9_number 63 = .ok (.aload_n 0, 1) := by decide +kernel
theorem dX9_number_64 : decode cX9_number 64 = .ok (.aload_n 0, 1) := by decide +kernel
theorem dX9_number_65 : decode cX9_number 65 = .ok (.getfield 213, 3) := by decide +kernel
theorem dX9_number_68 : decode cX9_number 68 = .ok (.ifCond .ne 8, 3) := by decide +kernel
theorem dX9_number_71 : decode cX9_number 71 = .ok (.iload 4, 2) := by decide +kernel
theorem dX9_number_73 : decode cX9_number 73 = .ok (.ifCond .ne 7, 3) := by decide +kernel
theorem dX9_number_76 : decode cX9_number 76 = .ok (.iconst 1, 1) := by decide +kernel
theorem dX9_number_77 : decode cX9_number 77 = .ok (.goto 4, 3) := by decide +kernel
theorem dX9_number_80 : decode cX9_number 80 = .ok (.iconst 0, 1) := by decide +kernel
theorem dX9_number_81 : decode cX9_number 81 = .ok (.putfield 213, 3) := by decide +kernel
theorem dX9_number_84 : decode cX9_number 84 = .ok (.aload_n 0, 1) := by decide +kernel
theorem dX9_number_85 : decode cX9_number 85 = .ok (.getfield 28, 3) := by decide +kernel
theorem dX9_number_88 : decode cX9_number 88 = .ok (.iconst 3, 1) := by decide +kernel
theorem dX9_number_89 : decode cX9_number 89 = .ok (.aload_n 0, 1) := by decide +kernel
theorem dX9_number_90 : decode cX9_number 90 = .ok (.getfield 224, 3) := by decide +kernel
theorem dX9_number_93 : decode cX9_number 93 = .ok (.imul, 1) := by decide +kernel
theorem dX9_number_94 : decode cX9_number 94 = .ok (.iload_n 1, 1) := by decide +kernel
theorem dX9_number_95 : decode cX9_number 95 = .ok (.iadd, 1) := by decide +kernel
theorem dX9_number_96 : decode cX9_number 96 = .ok (.iload_n 3, 1) := by decide +kernel
theorem dX9_number_97 : decode cX9_number 97 = .ok (.iastore, 1) := by decide +kernel
theorem dX9_number_98 : decode cX9_number 98 = .ok (.return_, 1) := by decide +kernel
theorem dX9_one_0 : decode cX9_one 0 = .ok (.aload_n 0, 1) := by decide +kernel
theorem dX9_one_1 : decode cX9_one 1 = .ok (.getfield 28, 3) := by decide +kernel
theorem dX9_one_4 : decode cX9_one 4 = .ok (.iconst 3, 1) := by decide +kernel
theorem dX9_one_5 : decode cX9_one 5 = .ok (.aload_n 0, 1) := by decide +kernel
theorem dX9_one_6 : decode cX9_one 6 = .ok (.getfield 224, 3) := by decide +kernel
theorem dX9_one_9 : decode cX9_one 9 = .ok (.imul, 1) := by decide +kernel
theorem dX9_one_10 : decode cX9_one 10 = .ok (.iload_n 1, 1) := by decide +kernel
theorem dX9_one_11 : decode cX9_one 11 = .ok (.iastore, 1) := by decide +kernel
theorem dX9_one_12 : decode cX9_one 12 = .ok (.aload_n 0, 1) := by decide +kernel
theorem dX9_one_13 : decode cX9_one 13 = .ok (.aload_n 2, 1) := by decide +kernel
theorem dX9_one_14 : decode cX9_one 14 = .ok (.invokevirtual 227, 3) := by decide +kernel
theorem dX9_one_17 : decode cX9_one 17 = .ok (.aload_n 0, 1) := by decide +kernel
theorem dX9_one_18 : decode cX9_one 18 = .ok (.iconst 1, 1) := by decide +kernel
theorem dX9_one_19 : decode cX9_one 19 = .ok (.iload_n 3, 1) := by decide +kernel
theorem dX9_one_20 : decode cX9_one 20 = .ok (.invokevirtual 231, 3) := by decide +kernel
theorem dX9_one_23 : decode cX9_one 23 = .ok (.return_, 1) := by decide +kernel
theorem dX9_two_0 : decode cX9_two 0 = .ok (.aload_n 0, 1) := by decide +kernel
theorem dX9_two_1 : decode cX9_two 1 = .ok (.iload_n 1, 1) := by decide +kernel
theorem dX9_two_2 : decode cX9_two 2 = .ok (.aload_n 2, 1) := by decide +kernel
theorem dX9_two_3 : decode cX9_two 3 = .ok (.iload_n 3, 1) := by decide +kernel
theorem dX9_two_4 : decode cX9_two 4 = .ok (.invokevirtual 235, 3) := by decide +kernel
theorem dX9_two_7 : decode cX9_two 7 = .ok (.aload_n 0, 1) := by decide +kernel
theorem dX9_two_8 : decode cX9_two 8 = .ok (.aload 4, 2) := by decide +kernel
theorem dX9_two_10 : decode cX9_two 10 = .ok (.invokevirtual 227, 3) := by decide +kernel
theorem dX9_two_13 : decode cX9_two 13 = .ok (.aload_n 0, 1) := by decide +kernel
theorem dX9_two_14 : decode cX9_two 14 = .ok (.iconst 2, 1) := by decide +kernel
theorem dX9_two_15 : decode cX9_two 15 = .ok (.iload 5, 2) := by decide +kernel
theorem dX9_two_17 : decode cX9_two 17 = .ok (.invokevirtual 231, 3) := by decide +kernel
theorem dX9_two_20 : decode cX9_two 20 = .ok (.return_, 1) := by decide +kernel
theorem dX9_readsOne_0 : decode cX9_readsOne 0 = .ok (.aload_n 0, 1) := by decide +kernel
theorem dX9_readsOne_1 : decode cX9_readsOne 1 = .ok (.iconst 0, 1) := by decide +kernel
theorem dX9_readsOne_2 : decode cX9_readsOne 2 = .ok (.invokevirtual 217, 3) := by decide +kernel
theorem dX9_readsOne_5 : decode cX9_readsOne 5 = .ok (.tableswitch 237 98 116 #[91, 103, 237, 237, 237, 190, 207, 237, 237, 237, 137, 237, 237, 237, 237, 237, 224, 237, 152], 91) := by decide +kernel
theorem dX9_readsOne_96 : decode cX9_readsOne 96 = .ok (.aload_n 0, 1) := by decide +kernel
theorem dX9_readsOne_97 : decode cX9_readsOne 97 = .ok (.bipush 98, 2) := by decide +kernel
theorem dX9_readsOne_99 : decode cX9_readsOne 99 = .ok (.ldc 239, 2) := by decide +kernel
theorem dX9_readsOne_101 : decode cX9_readsOne 101 = .ok (.iconst 1, 1) := by decide +kernel
theorem dX9_readsOne_102 : decode cX9_readsOne 102 = .ok (.invokevirtual 235, 3) := by decide +kernel
theorem dX9_readsOne_105 : decode cX9_readsOne 105 = .ok (.goto 142, 3) := by decide +kernel
theorem dX9_readsOne_108 : decode cX9_readsOne 108 = .ok (.aload_n 0, 1) := by decide +kernel
theorem dX9_readsOne_109 : decode cX9_readsOne 109 = .ok (.iconst 1, 1) := by decide +kernel
theorem dX9_readsOne_110 : decode cX9_readsOne 110 = .ok (.invokevirtual 217, 3) := by decide +kernel
theorem dX9_readsOne_113 : decode cX9_readsOne 113 = .ok (.bipush 97, 2) := by decide +kernel
theorem dX9_readsOne_115 : decode cX9_readsOne 115 = .ok (.if_icmp .ne 15, 3) := by decide +kernel
theorem dX9_readsOne_118 : decode cX9_readsOne 118 = .ok (.aload_n 0, 1) := by decide +kernel
theorem dX9_readsOne_119 : decode cX9_readsOne 119 = .ok (.bipush 107, 2) := by decide +kernel
theorem dX9_readsOne_121 : decode cX9_readsOne 121 = .ok (.ldc 241, 2) := by decide +kernel
theorem dX9_readsOne_123 : decode cX9_readsOne 123 = .ok (.iconst 2, 1) := by decide +kernel
theorem dX9_readsOne_124 : decode cX9_readsOne 124 = .ok (.invokevirtual 235, 3) := by decide +kernel
theorem dX9_readsOne_127 : decode cX9_readsOne 127 = .ok (.goto 120, 3) := by decide +kernel
theorem dX9_readsOne_130 : decode cX9_readsOne 130 = .ok (.aload_n 0, 1) := by decide +kernel
theorem dX9_readsOne_131 : decode cX9_readsOne 131 = .ok (.bipush 99, 2) := by decide +kernel
theorem dX9_readsOne_133 : decode cX9_readsOne 133 = .ok (.ldc 243, 2) := by decide +kernel
theorem dX9_readsOne_135 : decode cX9_readsOne 135 = .ok (.iconst 1, 1) := by decide +kernel
theorem dX9_readsOne_136 : decode cX9_readsOne 136 = .ok (.invokevirtual 235, 3) := by decide +kernel
theorem dX9_readsOne_139 : decode cX9_readsOne 139 = .ok (.goto 108, 3) := by decide +kernel
theorem dX9_readsOne_142 : decode cX9_readsOne 142 = .ok (.aload_n 0, 1) := by decide +kernel
theorem dX9_readsOne_143 : decode cX9_readsOne 143 = .ok (.bipush 108, 2) := by decide +kernel
theorem dX9_readsOne_145 : decode cX9_readsOne 145 = .ok (.ldc 245, 2) := by decide +kernel
theorem dX9_readsOne_147 : decode cX9_readsOne 147 = .ok (.iconst 2, 1) := by decide +kernel
theorem dX9_readsOne_148 : decode cX9_readsOne 148 = .ok (.ldc 247, 2) := by decide +kernel
theorem dX9_readsOne_150 : decode cX9_readsOne 150 = .ok (.iconst 2, 1) := by decide +kernel
theorem dX9_readsOne_151 : decode cX9_readsOne 151 = .ok (.invokevirtual 249, 3) := by decide +kernel
theorem dX9_readsOne_154 : decode cX9_readsOne 154 = .ok (.goto 93, 3) := by decide +kernel
theorem dX9_readsOne_157 : decode cX9_readsOne 157 = .ok (.aload_n 0, 1) := by decide +kernel
theorem dX9_readsOne_158 : decode cX9_readsOne 158 = .ok (.iconst 1, 1) := by decide +kernel
theorem dX9_readsOne_159 : decode cX9_readsOne 159 = .ok (.invokevirtual 217, 3) := by decide +kernel
theorem dX9_readsOne_162 : decode cX9_readsOne 162 = .ok (.bipush 105, 2) := by decide +kernel
theorem dX9_readsOne_164 : decode cX9_readsOne 164 = .ok (.if_icmp .ne 15, 3) := by decide +kernel
theorem dX9_readsOne_167 : decode cX9_readsOne 167 = .ok (.aload_n 0, 1) := by decide +kernel
theorem dX9_readsOne_168 : decode cX9_readsOne 168 = .ok (.bipush 105, 2) := by decide +kernel
theorem dX9_readsOne_170 : decode cX9_readsOne 170 = .ok (.ldc 253, 2) := by decide +kernel
theorem dX9_readsOne_172 : decode cX9_readsOne 172 = .ok (.iconst 2, 1) := by decide +kernel
theorem dX9_readsOne_173 : decode cX9_readsOne 173 = .ok (.invokevirtual 235, 3) := by decide +kernel
theorem dX9_readsOne_176 : decode cX9_readsOne 176 = .ok (.goto 71, 3) := by decide +kernel
theorem dX9_readsOne_179 : decode cX9_readsOne 179 = .ok (.aload_n 0, 1) := by decide +kernel
theorem dX9_readsOne_180 : decode cX9_readsOne 180 = .ok (.bipush 116, 2) := by decide +kernel
theorem dX9_readsOne_182 : decode cX9_readsOne 182 = .ok (.ldc 255, 2) := by decide +kernel
theorem dX9_readsOne_184 : decode cX9_readsOne 184 = .ok (.iconst 2, 1) := by decide +kernel
theorem dX9_readsOne_185 : decode cX9_readsOne 185 = .ok (.ldc_w 257, 3) := by decide +kernel
theorem dX9_readsOne_188 : decode cX9_readsOne 188 = .ok (.iconst 1, 1) := by decide +kernel
theorem dX9_readsOne_189 : decode cX9_readsOne 189 = .ok (.invokevirtual 249, 3) := by decide +kernel
theorem dX9_readsOne_192 : decode cX9_readsOne 192 = .ok (.goto 55, 3) := by decide +kernel
theorem dX9_readsOne_195 : decode cX9_readsOne 195 = .ok (.aload_n 0, 1) := by decide +kernel
theorem dX9_readsOne_196 : decode cX9_readsOne 196 = .ok (.bipush 103, 2) := by decide +kernel
theorem dX9_readsOne_198 : decode cX9_readsOne 198 = .ok (.ldc_w 259, 3) := by decide +kernel
theorem dX9_readsOne_201 : decode cX9_readsOne 201 = .ok (.iconst 1, 1) := by decide +kernel
theorem dX9_readsOne_202 : decode cX9_readsOne 202 = .ok (.ldc_w 261, 3) := by decide +kernel
theorem dX9_readsOne_205 : decode cX9_readsOne 205 = .ok (.iconst 2, 1) := by decide +kernel
theorem dX9_readsOne_206 : decode cX9_readsOne 206 = .ok (.invokevirtual 249, 3) := by decide +kernel
theorem dX9_readsOne_209 : decode cX9_readsOne 209 = .ok (.goto 38, 3) := by decide +kernel
theorem dX9_readsOne_212 : decode cX9_readsOne 212 = .ok (.aload_n 0, 1) := by decide +kernel
theorem dX9_readsOne_213 : decode cX9_readsOne 213 = .ok (.bipush 104, 2) := by decide +kernel
theorem dX9_readsOne_215 : decode cX9_readsOne 215 = .ok (.ldc_w 263, 3) := by decide +kernel
theorem dX9_readsOne_218 : decode cX9_readsOne 218 = .ok (.iconst 1, 1) := by decide +kernel
theorem dX9_readsOne_219 : decode cX9_readsOne 219 = .ok (.ldc_w 265, 3) := by decide +kernel
theorem dX9_readsOne_222 : decode cX9_readsOne 222 = .ok (.iconst 2, 1) := by decide +kernel
theorem dX9_readsOne_223 : decode cX9_readsOne 223 = .ok (.invokevirtual 249, 3) := by decide +kernel
theorem dX9_readsOne_226 : decode cX9_readsOne 226 = .ok (.goto 21, 3) := by decide +kernel
theorem dX9_readsOne_229 : decode cX9_readsOne 229 = .ok (.aload_n 0, 1) := by decide +kernel
theorem dX9_readsOne_230 : decode cX9_readsOne 230 = .ok (.bipush 114, 2) := by decide +kernel
theorem dX9_readsOne_232 : decode cX9_readsOne 232 = .ok (.ldc_w 267, 3) := by decide +kernel
theorem dX9_readsOne_235 : decode cX9_readsOne 235 = .ok (.iconst 1, 1) := by decide +kernel
theorem dX9_readsOne_236 : decode cX9_readsOne 236 = .ok (.invokevirtual 235, 3) := by decide +kernel
theorem dX9_readsOne_239 : decode cX9_readsOne 239 = .ok (.goto 8, 3) := by decide +kernel
theorem dX9_readsOne_242 : decode cX9_readsOne 242 = .ok (.aload_n 0, 1) := by decide +kernel
theorem dX9_readsOne_243 : decode cX9_readsOne 243 = .ok (.iconst 1, 1) := by decide +kernel
theorem dX9_readsOne_244 : decode cX9_readsOne 244 = .ok (.putfield 213, 3) := by decide +kernel
theorem dX9_readsOne_247 : decode cX9_readsOne 247 = .ok (.aload_n 0, 1) := by decide +kernel
theorem dX9_readsOne_248 : decode cX9_readsOne 248 = .ok (.dup, 1) := by decide +kernel
theorem dX9_readsOne_249 : decode cX9_readsOne 249 = .ok (.getfield 224, 3) := by decide +kernel
theorem dX9_readsOne_252 : decode cX9_readsOne 252 = .ok (.iconst 1, 1) := by decide +kernel
theorem dX9_readsOne_253 : decode cX9_readsOne 253 = .ok (.iadd, 1) := by decide +kernel
theorem dX9_readsOne_254 : decode cX9_readsOne 254 = .ok (.putfield 224, 3) := by decide +kernel
theorem dX9_readsOne_257 : decode cX9_readsOne 257 = .ok (.return_, 1) := by decide +kernel
theorem dX9_does_0 : decode cX9_does 0 = .ok (.aload_n 0, 1) := by decide +kernel
theorem dX9_does_1 : decode cX9_does 1 = .ok (.getfield 28, 3) := by decide +kernel
theorem dX9_does_4 : decode cX9_does 4 = .ok (.iconst 3, 1) := by decide +kernel
theorem dX9_does_5 : decode cX9_does 5 = .ok (.iload_n 1, 1) := by decide +kernel
theorem dX9_does_6 : decode cX9_does 6 = .ok (.imul, 1) := by decide +kernel
theorem dX9_does_7 : decode cX9_does 7 = .ok (.iconst 1, 1) := by decide +kernel
theorem dX9_does_8 : decode cX9_does 8 = .ok (.iadd, 1) := by decide +kernel
theorem dX9_does_9 : decode cX9_does 9 = .ok (.iaload, 1) := by decide +kernel
theorem dX9_does_10 : decode cX9_does 10 = .ok (.istore_n 2, 1) := by decide +kernel
theorem dX9_does_11 : decode cX9_does 11 = .ok (.aload_n 0, 1) := by decide +kernel
theorem dX9_does_12 : decode cX9_does 12 = .ok (.getfield 28, 3) := by decide +kernel
theorem dX9_does_15 : decode cX9_does 15 = .ok (.iconst 3, 1) := by decide +kernel
theorem dX9_does_16 : decode cX9_does 16 = .ok (.iload_n 1, 1) := by decide +kernel
theorem dX9_does_17 : decode cX9_does 17 = .ok (.imul, 1) := by decide +kernel
theorem dX9_does_18 : decode cX9_does 18 = .ok (.iconst 2, 1) := by decide +kernel
theorem dX9_does_19 : decode cX9_does 19 = .ok (.iadd, 1) := by decide +kernel
theorem dX9_does_20 : decode cX9_does 20 = .ok (.iaload, 1) := by decide +kernel
theorem dX9_does_21 : decode cX9_does 21 = .ok (.istore_n 3, 1) := by decide +kernel
theorem dX9_does_22 : decode cX9_does 22 = .ok (.aload_n 0, 1) := by decide +kernel
theorem dX9_does_23 : decode cX9_does 23 = .ok (.getfield 28, 3) := by decide +kernel
theorem dX9_does_26 : decode cX9_does 26 = .ok (.iconst 3, 1) := by decide +kernel
theorem dX9_does_27 : decode cX9_does 27 = .ok (.iload_n 1, 1) := by decide +kernel
theorem dX9_does_28 : decode cX9_does 28 = .ok (.imul, 1) := by decide +kernel
theorem dX9_does_29 : decode cX9_does 29 = .ok (.iaload, 1) := by decide +kernel
theorem dX9_does_30 : decode cX9_does 30 = .ok (.tableswitch 144 98 116 #[90, 97, 144, 144, 144, 130, 137, 117, 144, 104, 110, 144, 144, 144, 144, 144, 144, 144, 123], 90) := by decide +kernel
theorem dX9_does_120 : decode cX9_does 120 = .ok (.aload_n 0, 1) := by decide +kernel
theorem dX9_does_121 : decode cX9_does 121 = .ok (.iload_n 2, 1) := by decide +kernel
theorem dX9_does_122 : decode cX9_does 122 = .ok (.iconst 0, 1) := by decide +kernel
theorem dX9_does_123 : decode cX9_does 123 = .ok (.invokevirtual 130, 3) := by decide +kernel
theorem dX9_does_126 : decode cX9_does 126 = .ok (.ireturn, 1) := by decide +kernel
