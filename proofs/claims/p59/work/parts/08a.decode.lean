theorem dX2_init_0 : decode cX2_init 0 = .ok (.aload_n 0, 1) := by decide +kernel
theorem dX2_init_1 : decode cX2_init 1 = .ok (.invokespecial 3, 3) := by decide +kernel
theorem dX2_init_4 : decode cX2_init 4 = .ok (.aload_n 0, 1) := by decide +kernel
theorem dX2_init_5 : decode cX2_init 5 = .ok (.bipush 60, 2) := by decide +kernel
theorem dX2_init_7 : decode cX2_init 7 = .ok (.newarray .char, 2) := by decide +kernel
theorem dX2_init_9 : decode cX2_init 9 = .ok (.putfield 9, 3) := by decide +kernel
theorem dX2_init_12 : decode cX2_init 12 = .ok (.aload_n 0, 1) := by decide +kernel
theorem dX2_init_13 : decode cX2_init 13 = .ok (.iconst 0, 1) := by decide +kernel
theorem dX2_init_14 : decode cX2_init 14 = .ok (.putfield 15, 3) := by decide +kernel
theorem dX2_init_17 : decode cX2_init 17 = .ok (.aload_n 0, 1) := by decide +kernel
theorem dX2_init_18 : decode cX2_init 18 = .ok (.iconst 0, 1) := by decide +kernel
theorem dX2_init_19 : decode cX2_init 19 = .ok (.putfield 19, 3) := by decide +kernel
theorem dX2_init_22 : decode cX2_init 22 = .ok (.aload_n 0, 1) := by decide +kernel
theorem dX2_init_23 : decode cX2_init 23 = .ok (.iconst 0, 1) := by decide +kernel
theorem dX2_init_24 : decode cX2_init 24 = .ok (.putfield 22, 3) := by decide +kernel
theorem dX2_init_27 : decode cX2_init 27 = .ok (.aload_n 0, 1) := by decide +kernel
theorem dX2_init_28 : decode cX2_init 28 = .ok (.getstatic 26, 3) := by decide +kernel
theorem dX2_init_31 : decode cX2_init 31 = .ok (.putfield 32, 3) := by decide +kernel
theorem dX2_init_34 : decode cX2_init 34 = .ok (.aload_n 0, 1) := by decide +kernel
theorem dX2_init_35 : decode cX2_init 35 = .ok (.iconst 0, 1) := by decide +kernel
theorem dX2_init_36 : decode cX2_init 36 = .ok (.putfield 35, 3) := by decide +kernel
theorem dX2_init_39 : decode cX2_init 39 = .ok (.aload_n 0, 1) := by decide +kernel
theorem dX2_init_40 : decode cX2_init 40 = .ok (.iconst 0, 1) := by decide +kernel
theorem dX2_init_41 : decode cX2_init 41 = .ok (.putfield 38, 3) := by decide +kernel
theorem dX2_init_44 : decode cX2_init 44 = .ok (.return_, 1) := by decide +kernel
theorem dX2_append_0 : decode cX2_append 0 = .ok (.aload_n 0, 1) := by decide +kernel
theorem dX2_append_1 : decode cX2_append 1 = .ok (.getfield 15, 3) := by decide +kernel
theorem dX2_append_4 : decode cX2_append 4 = .ok (.bipush 60, 2) := by decide +kernel
theorem dX2_append_6 : decode cX2_append 6 = .ok (.if_icmp .lt 5, 3) := by decide +kernel
theorem dX2_append_9 : decode cX2_append 9 = .ok (.iconst 0, 1) := by decide +kernel
theorem dX2_append_10 : decode cX2_append 10 = .ok (.ireturn, 1) := by decide +kernel
theorem dX2_append_11 : decode cX2_append 11 = .ok (.aload_n 0, 1) := by decide +kernel
theorem dX2_append_12 : decode cX2_append 12 = .ok (.getfield 9, 3) := by decide +kernel
theorem dX2_append_15 : decode cX2_append 15 = .ok (.aload_n 0, 1) := by decide +kernel
theorem dX2_append_16 : decode cX2_append 16 = .ok (.getfield 15, 3) := by decide +kernel
theorem dX2_append_19 : decode cX2_append 19 = .ok (.iload_n 1, 1) := by decide +kernel
theorem dX2_append_20 : decode cX2_append 20 = .ok (.castore, 1) := by decide +kernel
theorem dX2_append_21 : decode cX2_append 21 = .ok (.aload_n 0, 1) := by decide +kernel
theorem dX2_append_22 : decode cX2_append 22 = .ok (.dup, 1) := by decide +kernel
theorem dX2_append_23 : decode cX2_append 23 = .ok (.getfield 15, 3) := by decide +kernel
theorem dX2_append_26 : decode cX2_append 26 = .ok (.iconst 1, 1) := by decide +kernel
theorem dX2_append_27 : decode cX2_append 27 = .ok (.iadd, 1) := by decide +kernel
theorem dX2_append_28 : decode cX2_append 28 = .ok (.putfield 15, 3) := by decide +kernel
theorem dX2_append_31 : decode cX2_append 31 = .ok (.iconst 1, 1) := by decide +kernel
theorem dX2_append_32 : decode cX2_append 32 = .ok (.ireturn, 1) := by decide +kernel
theorem dX2_clear_0 : decode cX2_clear 0 = .ok (.aload_n 0, 1) := by decide +kernel
theorem dX2_clear_1 : decode cX2_clear 1 = .ok (.iconst 0, 1) := by decide +kernel
theorem dX2_clear_2 : decode cX2_clear 2 = .ok (.putfield 15, 3) := by decide +kernel
theorem dX2_clear_5 : decode cX2_clear 5 = .ok (.return_, 1) := by decide +kernel
theorem dX2_rewind_0 : decode cX2_rewind 0 = .ok (.aload_n 0, 1) := by decide +kernel
theorem dX2_rewind_1 : decode cX2_rewind 1 = .ok (.iconst 0, 1) := by decide +kernel
theorem dX2_rewind_2 : decode cX2_rewind 2 = .ok (.putfield 19, 3) := by decide +kernel
theorem dX2_rewind_5 : decode cX2_rewind 5 = .ok (.aload_n 0, 1) := by decide +kernel
theorem dX2_rewind_6 : decode cX2_rewind 6 = .ok (.iconst 0, 1) := by decide +kernel
theorem dX2_rewind_7 : decode cX2_rewind 7 = .ok (.putfield 22, 3) := by decide +kernel
theorem dX2_rewind_10 : decode cX2_rewind 10 = .ok (.return_, 1) := by decide +kernel
theorem dX2_findError_0 : decode cX2_findError 0 = .ok (.aload_n 0, 1) := by decide +kernel
theorem dX2_findError_1 : decode cX2_findError 1 = .ok (.invokevirtual 41, 3) := by decide +kernel
theorem dX2_findError_4 : decode cX2_findError 4 = .ok (.iconst 0, 1) := by decide +kernel
theorem dX2_findError_5 : decode cX2_findError 5 = .ok (.istore_n 1, 1) := by decide +kernel
theorem dX2_findError_6 : decode cX2_findError 6 = .ok (.iload_n 1, 1) := by decide +kernel
theorem dX2_findError_7 : decode cX2_findError 7 = .ok (.bipush 60, 2) := by decide +kernel
theorem dX2_findError_9 : decode cX2_findError 9 = .ok (.if_icmp .gt 28, 3) := by decide +kernel
theorem dX2_findError_12 : decode cX2_findError 12 = .ok (.aload_n 0, 1) := by decide +kernel
theorem dX2_findError_13 : decode cX2_findError 13 = .ok (.getfield 22, 3) := by decide +kernel
theorem dX2_findError_16 : decode cX2_findError 16 = .ok (.ifCond .ne 21, 3) := by decide +kernel
theorem dX2_findError_19 : decode cX2_findError 19 = .ok (.aload_n 0, 1) := by decide +kernel
theorem dX2_findError_20 : decode cX2_findError 20 = .ok (.invokevirtual 44, 3) := by decide +kernel
theorem dX2_findError_23 : decode cX2_findError 23 = .ok (.ifCond .ne 8, 3) := by decide +kernel
theorem dX2_findError_26 : decode cX2_findError 26 = .ok (.aload_n 0, 1) := by decide +kernel
theorem dX2_findError_27 : decode cX2_findError 27 = .ok (.getfield 19, 3) := by decide +kernel
theorem dX2_findError_30 : decode cX2_findError 30 = .ok (.ireturn, 1) := by decide +kernel
theorem dX2_findError_31 : decode cX2_findError 31 = .ok (.iinc 1 1, 3) := by decide +kernel
theorem dX2_findError_34 : decode cX2_findError 34 = .ok (.goto (-28), 3) := by decide +kernel
theorem dX2_findError_37 : decode cX2_findError 37 = .ok (.iconst (-1), 1) := by decide +kernel
theorem dX2_findError_38 : decode cX2_findError 38 = .ok (.ireturn, 1) := by decide +kernel
theorem dX2_readCommand_0 : decode cX2_readCommand 0 = .ok (.aload_n 0, 1) := by decide +kernel
theorem dX2_readCommand_1 : decode cX2_readCommand 1 = .ok (.getfield 22, 3) := by decide +kernel
theorem dX2_readCommand_4 : decode cX2_readCommand 4 = .ok (.ifCond .eq 5, 3) := by decide +kernel
theorem dX2_readCommand_7 : decode cX2_readCommand 7 = .ok (.iconst 0, 1) := by decide +kernel
theorem dX2_readCommand_8 : decode cX2_readCommand 8 = .ok (.ireturn, 1) := by decide +kernel
theorem dX2_readCommand_9 : decode cX2_readCommand 9 = .ok (.aload_n 0, 1) := by decide +kernel
theorem dX2_readCommand_10 : decode cX2_readCommand 10 = .ok (.getfield 19, 3) := by decide +kernel
theorem dX2_readCommand_13 : decode cX2_readCommand 13 = .ok (.istore_n 1, 1) := by decide +kernel
theorem dX2_readCommand_14 : decode cX2_readCommand 14 = .ok (.getstatic 48, 3) := by decide +kernel
theorem dX2_readCommand_17 : decode cX2_readCommand 17 = .ok (.astore_n 2, 1) := by decide +kernel
theorem dX2_readCommand_18 : decode cX2_readCommand 18 = .ok (.aload_n 2, 1) := by decide +kernel
theorem dX2_readCommand_19 : decode cX2_readCommand 19 = .ok (.arraylength, 1) := by decide +kernel
theorem dX2_readCommand_20 : decode cX2_readCommand 20 = .ok (.istore_n 3, 1) := by decide +kernel
theorem dX2_readCommand_21 : decode cX2_readCommand 21 = .ok (.iconst 0, 1) := by decide +kernel
theorem dX2_readCommand_22 : decode cX2_readCommand 22 = .ok (.istore 4, 2) := by decide +kernel
theorem dX2_readCommand_24 : decode cX2_readCommand 24 = .ok (.iload 4, 2) := by decide +kernel
theorem dX2_readCommand_26 : decode cX2_readCommand 26 = .ok (.iload_n 3, 1) := by decide +kernel
theorem dX2_readCommand_27 : decode cX2_readCommand 27 = .ok (.if_icmp .ge 57, 3) := by decide +kernel
theorem dX2_readCommand_30 : decode cX2_readCommand 30 = .ok (.aload_n 2, 1) := by decide +kernel
theorem dX2_readCommand_31 : decode cX2_readCommand 31 = .ok (.iload 4, 2) := by decide +kernel
theorem dX2_readCommand_33 : decode cX2_readCommand 33 = .ok (.aaload, 1) := by decide +kernel
theorem dX2_readCommand_34 : decode cX2_readCommand 34 = .ok (.astore 5, 2) := by decide +kernel
theorem dX2_readCommand_36 : decode cX2_readCommand 36 = .ok (.aload_n 0, 1) := by decide +kernel
theorem dX2_readCommand_37 : decode cX2_readCommand 37 = .ok (.aload 5, 2) := by decide +kernel
theorem dX2_readCommand_39 : decode cX2_readCommand 39 = .ok (.getfield 52, 3) := by decide +kernel
theorem dX2_readCommand_42 : decode cX2_readCommand 42 = .ok (.aload_n 0, 1) := by decide +kernel
theorem dX2_readCommand_43 : decode cX2_readCommand 43 = .ok (.getfield 19, 3) := by decide +kernel
theorem dX2_readCommand_46 : decode cX2_readCommand 46 = .ok (.invokevirtual 56, 3) := by decide +kernel
theorem dX2_readCommand_49 : decode cX2_readCommand 49 = .ok (.istore 6, 2) := by decide +kernel
theorem dX2_readCommand_51 : decode cX2_readCommand 51 = .ok (.iload 6, 2) := by decide +kernel
theorem dX2_readCommand_53 : decode cX2_readCommand 53 = .ok (.ifCond .lt 16, 3) := by decide +kernel
theorem dX2_readCommand_56 : decode cX2_readCommand 56 = .ok (.aload_n 0, 1) := by decide +kernel
theorem dX2_readCommand_57 : decode cX2_readCommand 57 = .ok (.aload 5, 2) := by decide +kernel
theorem dX2_readCommand_59 : decode cX2_readCommand 59 = .ok (.putfield 32, 3) := by decide +kernel
theorem dX2_readCommand_62 : decode cX2_readCommand 62 = .ok (.aload_n 0, 1) := by decide +kernel
theorem dX2_readCommand_63 : decode cX2_readCommand 63 = .ok (.iload 6, 2) := by decide +kernel
theorem dX2_readCommand_65 : decode cX2_readCommand 65 = .ok (.invokevirtual 60, 3) := by decide +kernel
theorem dX2_readCommand_68 : decode cX2_readCommand 68 = .ok (.ireturn, 1) := by decide +kernel
theorem dX2_readCommand_69 : decode cX2_readCommand 69 = .ok (.iload_n 1, 1) := by decide +kernel
theorem dX2_readCommand_70 : decode cX2_readCommand 70 = .ok (.iload 6, 2) := by decide +kernel
theorem dX2_readCommand_72 : decode cX2_readCommand 72 = .ok (.iconst (-1), 1) := by decide +kernel
theorem dX2_readCommand_73 : decode cX2_readCommand 73 = .ok (.ixor, 1) := by decide +kernel
theorem dX2_readCommand_74 : decode cX2_readCommand 74 = .ok (.invokestatic 64, 3) := by decide +kernel
theorem dX2_readCommand_77 : decode cX2_readCommand 77 = .ok (.istore_n 1, 1) := by decide +kernel
theorem dX2_readCommand_78 : decode cX2_readCommand 78 = .ok (.iinc 4 1, 3) := by decide +kernel
theorem dX2_readCommand_81 : decode cX2_readCommand 81 = .ok (.goto (-57), 3) := by decide +kernel
theorem dX2_readCommand_84 : decode cX2_readCommand 84 = .ok (.aload_n 0, 1) := by decide +kernel
theorem dX2_readCommand_85 : decode cX2_readCommand 85 = .ok (.iload_n 1, 1) := by decide +kernel
theorem dX2_readCommand_86 : decode cX2_readCommand 86 = .ok (.putfield 19, 3) := by decide +kernel
theorem dX2_readCommand_89 : decode cX2_readCommand 89 = .ok (.iconst 0, 1) := by decide +kernel
theorem dX2_readCommand_90 : decode cX2_readCommand 90 = .ok (.ireturn, 1) := by decide +kernel
theorem dX2_closeCommand_0 : decode cX2_closeCommand 0 = .ok (.aload_n 0, 1) := by decide +kernel
theorem dX2_closeCommand_1 : decode cX2_closeCommand 1 = .ok (.iload_n 1, 1) := by decide +kernel
theorem dX2_closeCommand_2 : decode cX2_closeCommand 2 = .ok (.putfield 19, 3) := by decide +kernel
theorem dX2_closeCommand_5 : decode cX2_closeCommand 5 = .ok (.iload_n 1, 1) := by decide +kernel
theorem dX2_closeCommand_6 : decode cX2_closeCommand 6 = .ok (.aload_n 0, 1) := by decide +kernel
theorem dX2_closeCommand_7 : decode cX2_closeCommand 7 = .ok (.getfield 15, 3) := by decide +kernel
theorem dX2_closeCommand_10 : decode cX2_closeCommand 10 = .ok (.if_icmp .lt 10, 3) := by decide +kernel
theorem dX2_closeCommand_13 : decode cX2_closeCommand 13 = .ok (.aload_n 0, 1) := by decide +kernel
theorem dX2_closeCommand_14 : decode cX2_closeCommand 14 = .ok (.iconst 1, 1) := by decide +kernel
theorem dX2_closeCommand_15 : decode cX2_closeCommand 15 = .ok (.putfield 22, 3) := by decide +kernel
theorem dX2_closeCommand_18 : decode cX2_closeCommand 18 = .ok (.iconst 1, 1) := by decide +kernel
theorem dX2_closeCommand_19 : decode cX2_closeCommand 19 = .ok (.ireturn, 1) := by decide +kernel
theorem dX2_closeCommand_20 : decode cX2_closeCommand 20 = .ok (.aload_n 0, 1) := by decide +kernel
theorem dX2_closeCommand_21 : decode cX2_closeCommand 21 = .ok (.getfield 9, 3) := by decide +kernel
theorem dX2_closeCommand_24 : decode cX2_closeCommand 24 = .ok (.iload_n 1, 1) := by decide +kernel
theorem dX2_closeCommand_25 : decode cX2_closeCommand 25 = .ok (.caload, 1) := by decide +kernel
theorem dX2_closeCommand_26 : decode cX2_closeCommand 26 = .ok (.bipush 59, 2) := by decide +kernel
theorem dX2_closeCommand_28 : decode cX2_closeCommand 28 = .ok (.if_icmp .eq 5, 3) := by decide +kernel
theorem dX2_closeCommand_31 : decode cX2_closeCommand 31 = .ok (.iconst 0, 1) := by decide +kernel
theorem dX2_closeCommand_32 : decode cX2_closeCommand 32 = .ok (.ireturn, 1) := by decide +kernel
theorem dX2_closeCommand_33 : decode cX2_closeCommand 33 = .ok (.aload_n 0, 1) := by decide +kernel
theorem dX2_closeCommand_34 : decode cX2_closeCommand 34 = .ok (.dup, 1) := by decide +kernel
theorem dX2_closeCommand_35 : decode cX2_closeCommand 35 = .ok (.getfield 19, 3) := by decide +kernel
theorem dX2_closeCommand_38 : decode cX2_closeCommand 38 = .ok (.iconst 1, 1) := by decide +kernel
theorem dX2_closeCommand_39 : decode cX2_closeCommand 39 = .ok (.iadd, 1) := by decide +kernel
theorem dX2_closeCommand_40 : decode cX2_closeCommand 40 = .ok (.putfield 19, 3) := by decide +kernel
theorem dX2_closeCommand_43 : decode cX2_closeCommand 43 = .ok (.iconst 1, 1) := by decide +kernel
theorem dX2_closeCommand_44 : decode cX2_closeCommand 44 = .ok (.ireturn, 1) := by decide +kernel
theorem dX2_match_0 : decode cX2_match 0 = .ok (.iload_n 2, 1) := by decide +kernel
theorem dX2_match_1 : decode cX2_match 1 = .ok (.istore_n 3, 1) := by decide +kernel
theorem dX2_match_2 : decode cX2_match 2 = .ok (.iconst 0, 1) := by decide +kernel
theorem dX2_match_3 : decode cX2_match 3 = .ok (.istore 4, 2) := by decide +kernel
theorem dX2_match_5 : decode cX2_match 5 = .ok (.iconst 0, 1) := by decide +kernel
theorem dX2_match_6 : decode cX2_match 6 = .ok (.istore 5, 2) := by decide +kernel
theorem dX2_match_8 : decode cX2_match 8 = .ok (.iload 5, 2) := by decide +kernel
theorem dX2_match_10 : decode cX2_match 10 = .ok (.aload_n 1, 1) := by decide +kernel
theorem dX2_match_11 : decode cX2_match 11 = .ok (.invokevirtual 70, 3) := by decide +kernel
theorem dX2_match_14 : decode cX2_match 14 = .ok (.if_icmp .ge 113, 3) := by decide +kernel
theorem dX2_match_17 : decode cX2_match 17 = .ok (.aload_n 1, 1) := by decide +kernel
theorem dX2_match_18 : decode cX2_match 18 = .ok (.iload 5, 2) := by decide +kernel
theorem dX2_match_20 : decode cX2_match 20 = .ok (.invokevirtual 76, 3) := by decide +kernel
theorem dX2_match_23 : decode cX2_match 23 = .ok (.istore 6, 2) := by decide +kernel
theorem dX2_match_25 : decode cX2_match 25 = .ok (.iload 6, 2) := by decide +kernel
theorem dX2_match_27 : decode cX2_match 27 = .ok (.bipush 49, 2) := by decide +kernel
theorem dX2_match_29 : decode cX2_match 29 = .ok (.if_icmp .eq 10, 3) := by decide +kernel
theorem dX2_match_32 : decode cX2_match 32 = .ok (.iload 6, 2) := by decide +kernel
theorem dX2_match_34 : decode cX2_match 34 = .ok (.bipush 50, 2) := by decide +kernel
theorem dX2_match_36 : decode cX2_match 36 = .ok (.if_icmp .ne 59, 3) := by decide +kernel
theorem dX2_match_39 : decode cX2_match 39 = .ok (.aload_n 0, 1) := by decide +kernel
theorem dX2_match_40 : decode cX2_match 40 = .ok (.iload_n 3, 1) := by decide +kernel
theorem dX2_match_41 : decode cX2_match 41 = .ok (.invokevirtual 80, 3) := by decide +kernel
theorem dX2_match_44 : decode cX2_match 44 = .ok (.ifCond .ne 7, 3) := by decide +kernel
theorem dX2_match_47 : decode cX2_match 47 = .ok (.iload_n 3, 1) := by decide +kernel
theorem dX2_match_48 : decode cX2_match 48 = .ok (.iconst (-1), 1) := by decide +kernel
theorem dX2_match_49 : decode cX2_match 49 = .ok (.ixor, 1) := by decide +kernel
theorem dX2_match_50 : decode cX2_match 50 = .ok (.ireturn, 1) := by decide +kernel
theorem dX2_match_51 : decode cX2_match 51 = .ok (.iload 6, 2) := by decide +kernel
theorem dX2_match_53 : decode cX2_match 53 = .ok (.bipush 50, 2) := by decide +kernel
theorem dX2_match_55 : decode cX2_match 55 = .ok (.if_icmp .ne 17, 3) := by decide +kernel
theorem dX2_match_58 : decode cX2_match 58 = .ok (.aload_n 0, 1) := by decide +kernel
theorem dX2_match_59 : decode cX2_match 59 = .ok (.iload_n 3, 1) := by decide +kernel
theorem dX2_match_60 : decode cX2_match 60 = .ok (.iconst 1, 1) := by decide +kernel
theorem dX2_match_61 : decode cX2_match 61 = .ok (.iadd, 1) := by decide +kernel
theorem dX2_match_62 : decode cX2_match 62 = .ok (.invokevirtual 80, 3) := by decide +kernel
theorem dX2_match_65 : decode cX2_match 65 = .ok (.ifCond .eq 7, 3) := by decide +kernel
theorem dX2_match_68 : decode cX2_match 68 = .ok (.iconst 2, 1) := by decide +kernel
theorem dX2_match_69 : decode cX2_match 69 = .ok (.goto 4, 3) := by decide +kernel
theorem dX2_match_72 : decode cX2_match 72 = .ok (.iconst 1, 1) := by decide +kernel
theorem dX2_match_73 : decode cX2_match 73 = .ok (.istore 7, 2) := by decide +kernel
theorem dX2_match_75 : decode cX2_match 75 = .ok (.aload_n 0, 1) := by decide +kernel
theorem dX2_match_76 : decode cX2_match 76 = .ok (.iload 4, 2) := by decide +kernel
theorem dX2_match_78 : decode cX2_match 78 = .ok (.iload_n 3, 1) := by decide +kernel
theorem dX2_match_79 : decode cX2_match 79 = .ok (.iload 7, 2) := by decide +kernel
theorem dX2_match_81 : decode cX2_match 81 = .ok (.invokevirtual 83, 3) := by decide +kernel
theorem dX2_match_84 : decode cX2_match 84 = .ok (.iinc 4 1, 3) := by decide +kernel
theorem dX2_match_87 : decode cX2_match 87 = .ok (.iload_n 3, 1) := by decide +kernel
theorem dX2_match_88 : decode cX2_match 88 = .ok (.iload 7, 2) := by decide +kernel
theorem dX2_match_90 : decode cX2_match 90 = .ok (.iadd, 1) := by decide +kernel
theorem dX2_match_91 : decode cX2_match 91 = .ok (.istore_n 3, 1) := by decide +kernel
theorem dX2_match_92 : decode cX2_match 92 = .ok (.goto 29, 3) := by decide +kernel
theorem dX2_match_95 : decode cX2_match 95 = .ok (.iload_n 3, 1) := by decide +kernel
theorem dX2_match_96 : decode cX2_match 96 = .ok (.aload_n 0, 1) := by decide +kernel
theorem dX2_match_97 : decode cX2_match 97 = .ok (.getfield 15, 3) := by decide +kernel
theorem dX2_match_100 : decode cX2_match 100 = .ok (.if_icmp .ge 14, 3) := by decide +kernel
theorem dX2_match_103 : decode cX2_match 103 = .ok (.aload_n 0, 1) := by decide +kernel
theorem dX2_match_104 : decode cX2_match 104 = .ok (.getfield 9, 3) := by decide +kernel
theorem dX2_match_107 : decode cX2_match 107 = .ok (.iload_n 3, 1) := by decide +kernel
theorem dX2_match_108 : decode cX2_match 108 = .ok (.caload, 1) := by decide +kernel
theorem dX2_match_109 : decode cX2_match 109 = .ok (.iload 6, 2) := by decide +kernel
theorem dX2_match_111 : decode cX2_match 111 = .ok (.if_icmp .eq 7, 3) := by decide +kernel
theorem dX2_match_114 : decode cX2_match 114 = .ok (.iload_n 3, 1) := by decide +kernel
theorem dX2_match_115 : decode cX2_match 115 = .ok (.iconst (-1), 1) := by decide +kernel
theorem dX2_match_116 : decode cX2_match 116 = .ok (.ixor, 1) := by decide +kernel
theorem dX2_match_117 : decode cX2_match 117 = .ok (.ireturn, 1) := by decide +kernel
theorem dX2_match_118 : decode cX2_match 118 = .ok (.iinc 3 1, 3) := by decide +kernel
theorem dX2_match_121 : decode cX2_match 121 = .ok (.iinc 5 1, 3) := by decide +kernel
theorem dX2_match_124 : decode cX2_match 124 = .ok (.goto (-116), 3) := by decide +kernel
theorem dX2_match_127 : decode cX2_match 127 = .ok (.iload_n 3, 1) := by decide +kernel
theorem dX2_match_128 : decode cX2_match 128 = .ok (.ireturn, 1) := by decide +kernel
theorem dX2_putNumber_0 : decode cX2_putNumber 0 = .ok (.iconst 0, 1) := by decide +kernel
theorem dX2_putNumber_1 : decode cX2_putNumber 1 = .ok (.istore 4, 2) := by decide +kernel
theorem dX2_putNumber_3 : decode cX2_putNumber 3 = .ok (.iload_n 2, 1) := by decide +kernel
theorem dX2_putNumber_4 : decode cX2_putNumber 4 = .ok (.istore 5, 2) := by decide +kernel
theorem dX2_putNumber_6 : decode cX2_putNumber 6 = .ok (.iload 5, 2) := by decide +kernel
theorem dX2_putNumber_8 : decode cX2_putNumber 8 = .ok (.iload_n 2, 1) := by decide +kernel
theorem dX2_putNumber_9 : decode cX2_putNumber 9 = .ok (.iload_n 3, 1) := by decide +kernel
theorem dX2_putNumber_10 : decode cX2_putNumber 10 = .ok (.iadd, 1) := by decide +kernel
theorem dX2_putNumber_11 : decode cX2_putNumber 11 = .ok (.if_icmp .ge 27, 3) := by decide +kernel
theorem dX2_putNumber_14 : decode cX2_putNumber 14 = .ok (.bipush 10, 2) := by decide +kernel
theorem dX2_putNumber_16 : decode cX2_putNumber 16 = .ok (.iload 4, 2) := by decide +kernel
theorem dX2_putNumber_18 : decode cX2_putNumber 18 = .ok (.imul, 1) := by decide +kernel
theorem dX2_putNumber_19 : decode cX2_putNumber 19 = .ok (.aload_n 0, 1) := by decide +kernel
theorem dX2_putNumber_20 : decode cX2_putNumber 20 = .ok (.getfield 9, 3) := by decide +kernel
theorem dX2_putNumber_23 : decode cX2_putNumber 23 = .ok (.iload 5, 2) := by decide +kernel
theorem dX2_putNumber_25 : decode cX2_putNumber 25 = .ok (.caload, 1) := by decide +kernel
theorem dX2_putNumber_26 : decode cX2_putNumber 26 = .ok (.iadd, 1) := by decide +kernel
theorem dX2_putNumber_27 : decode cX2_putNumber 27 = .ok (.bipush 48, 2) := by decide +kernel
theorem dX2_putNumber_29 : decode cX2_putNumber 29 = .ok (.isub, 1) := by decide +kernel
theorem dX2_putNumber_30 : decode cX2_putNumber 30 = .ok (.istore 4, 2) := by decide +kernel
theorem dX2_putNumber_32 : decode cX2_putNumber 32 = .ok (.iinc 5 1, 3) := by decide +kernel
theorem dX2_putNumber_35 : decode cX2_putNumber 35 = .ok (.goto (-29), 3) := by decide +kernel
theorem dX2_putNumber_38 : decode cX2_putNumber 38 = .ok (.iload_n 1, 1) := by decide +kernel
theorem dX2_putNumber_39 : decode cX2_putNumber 39 = .ok (.ifCond .ne 12, 3) := by decide +kernel
theorem dX2_putNumber_42 : decode cX2_putNumber 42 = .ok (.aload_n 0, 1) := by decide +kernel
theorem dX2_putNumber_43 : decode cX2_putNumber 43 = .ok (.iload 4, 2) := by decide +kernel
theorem dX2_putNumber_45 : decode cX2_putNumber 45 = .ok (.putfield 35, 3) := by decide +kernel
theorem dX2_putNumber_48 : decode cX2_putNumber 48 = .ok (.goto 9, 3) := by decide +kernel
theorem dX2_putNumber_51 : decode cX2_putNumber 51 = .ok (.aload_n 0, 1) := by decide +kernel
theorem dX2_putNumber_52 : decode cX2_putNumber 52 = .ok (.iload 4, 2) := by decide +kernel
theorem dX2_putNumber_54 : decode cX2_putNumber 54 = .ok (.putfield 38, 3) := by decide +kernel
theorem dX2_putNumber_57 : decode cX2_putNumber 57 = .ok (.return_, 1) := by decide +kernel
theorem dX2_isDigit_0 : decode cX2_isDigit 0 = .ok (.iload_n 1, 1) := by decide +kernel
theorem dX2_isDigit_1 : decode cX2_isDigit 1 = .ok (.ifCond .lt 37, 3) := by decide +kernel
theorem dX2_isDigit_4 : decode cX2_isDigit 4 = .ok (.iload_n 1, 1) := by decide +kernel
theorem dX2_isDigit_5 : decode cX2_isDigit 5 = .ok (.aload_n 0, 1) := by decide +kernel
theorem dX2_isDigit_6 : decode cX2_isDigit 6 = .ok (.getfield 15, 3) := by decide +kernel
theorem dX2_isDigit_9 : decode cX2_isDigit 9 = .ok (.if_icmp .ge 29, 3) := by decide +kernel
theorem dX2_isDigit_12 : decode cX2_isDigit 12 = .ok (.aload_n 0, 1) := by decide +kernel
theorem dX2_isDigit_13 : decode cX2_isDigit 13 = .ok (.getfield 9, 3) := by decide +kernel
theorem dX2_isDigit_16 : decode cX2_isDigit 16 = .ok (.iload_n 1, 1) := by decide +kernel
theorem dX2_isDigit_17 : decode cX2_isDigit 17 = .ok (.caload, 1) := by decide +kernel
theorem dX2_isDigit_18 : decode cX2_isDigit 18 = .ok (.bipush 48, 2) := by decide +kernel
theorem dX2_isDigit_20 : decode cX2_isDigit 20 = .ok (.if_icmp .lt 18, 3) := by decide +kernel
theorem dX2_isDigit_23 : decode cX2_isDigit 23 = .ok (.aload_n 0, 1) := by decide +kernel
theorem dX2_isDigit_24 : decode cX2_isDigit 24 = .ok (.getfield 9, 3) := by decide +kernel
theorem dX2_isDigit_27 : decode cX2_isDigit 27 = .ok (.iload_n 1, 1) := by decide +kernel
theorem dX2_isDigit_28 : decode cX2_isDigit 28 = .ok (.caload, 1) := by decide +kernel
theorem dX2_isDigit_29 : decode cX2_isDigit 29 = .ok (.bipush 57, 2) := by decide +kernel
theorem dX2_isDigit_31 : decode cX2_isDigit 31 = .ok (.if_icmp .gt 7, 3) := by decide +kernel
theorem dX2_isDigit_34 : decode cX2_isDigit 34 = .ok (.iconst 1, 1) := by decide +kernel
theorem dX2_isDigit_35 : decode cX2_isDigit 35 = .ok (.goto 4, 3) := by decide +kernel
theorem dX2_isDigit_38 : decode cX2_isDigit 38 = .ok (.iconst 0, 1) := by decide +kernel
theorem dX2_isDigit_39 : decode cX2_isDigit 39 = .ok (.ireturn, 1) := by decide +kernel
theorem dX3_init_0 : decode cX3_init 0 = .ok (.aload_n 0, 1) := by decide +kernel
theorem dX3_init_1 : decode cX3_init 1 = .ok (.invokespecial 3, 3) := by decide +kernel
theorem dX3_init_4 : decode cX3_init 4 = .ok (.aload_n 0, 1) := by decide +kernel
theorem dX3_init_5 : decode cX3_init 5 = .ok (.bipush 9, 2) := by decide +kernel
theorem dX3_init_7 : decode cX3_init 7 = .ok (.anewarray 9, 3) := by decide +kernel
theorem dX3_init_10 : decode cX3_init 10 = .ok (.putfield 11, 3) := by decide +kernel
theorem dX3_init_13 : decode cX3_init 13 = .ok (.aload_n 0, 1) := by decide +kernel
theorem dX3_init_14 : decode cX3_init 14 = .ok (.iconst 0, 1) := by decide +kernel
theorem dX3_init_15 : decode cX3_init 15 = .ok (.putfield 17, 3) := by decide +kernel
theorem dX3_init_18 : decode cX3_init 18 = .ok (.aload_n 0, 1) := by decide +kernel
theorem dX3_init_19 : decode cX3_init 19 = .ok (.iconst 0, 1) := by decide +kernel
theorem dX3_init_20 : decode cX3_init 20 = .ok (.putfield 21, 3) := by decide +kernel
theorem dX3_init_23 : decode cX3_init 23 = .ok (.iconst 0, 1) := by decide +kernel
theorem dX3_init_24 : decode cX3_init 24 = .ok (.istore_n 1, 1) := by decide +kernel
theorem dX3_init_25 : decode cX3_init 25 = .ok (.iload_n 1, 1) := by decide +kernel
theorem dX3_init_26 : decode cX3_init 26 = .ok (.bipush 9, 2) := by decide +kernel
theorem dX3_init_28 : decode cX3_init 28 = .ok (.if_icmp .ge 22, 3) := by decide +kernel
theorem dX3_init_31 : decode cX3_init 31 = .ok (.aload_n 0, 1) := by decide +kernel
theorem dX3_init_32 : decode cX3_init 32 = .ok (.getfield 11, 3) := by decide +kernel
theorem dX3_init_35 : decode cX3_init 35 = .ok (.iload_n 1, 1) := by decide +kernel
theorem dX3_init_36 : decode cX3_init 36 = .ok (.new 9, 3) := by decide +kernel
theorem dX3_init_39 : decode cX3_init 39 = .ok (.dup, 1) := by decide +kernel
theorem dX3_init_40 : decode cX3_init 40 = .ok (.invokespecial 24, 3) := by decide +kernel
theorem dX3_init_43 : decode cX3_init 43 = .ok (.aastore, 1) := by decide +kernel
theorem dX3_init_44 : decode cX3_init 44 = .ok (.iinc 1 1, 3) := by decide +kernel
theorem dX3_init_47 : decode cX3_init 47 = .ok (.goto (-22), 3) := by decide +kernel
theorem dX3_init_50 : decode cX3_init 50 = .ok (.return_, 1) := by decide +kernel
theorem dX3_keep_0 : decode cX3_keep 0 = .ok (.aload_n 0, 1) := by decide +kernel
theorem dX3_keep_1 : decode cX3_keep 1 = .ok (.getfield 11, 3) := by decide +kernel
theorem dX3_keep_4 : decode cX3_keep 4 = .ok (.aload_n 0, 1) := by decide +kernel
theorem dX3_keep_5 : decode cX3_keep 5 = .ok (.getfield 17, 3) := by decide +kernel
theorem dX3_keep_8 : decode cX3_keep 8 = .ok (.aaload, 1) := by decide +kernel
theorem dX3_keep_9 : decode cX3_keep 9 = .ok (.aload_n 1, 1) := by decide +kernel
theorem dX3_keep_10 : decode cX3_keep 10 = .ok (.invokevirtual 25, 3) := by decide +kernel
theorem dX3_keep_13 : decode cX3_keep 13 = .ok (.return_, 1) := by decide +kernel
theorem dX3_confirm_0 : decode cX3_confirm 0 = .ok (.aload_n 0, 1) := by decide +kernel
theorem dX3_confirm_1 : decode cX3_confirm 1 = .ok (.aload_n 0, 1) := by decide +kernel
theorem dX3_confirm_2 : decode cX3_confirm 2 = .ok (.getfield 17, 3) := by decide +kernel
theorem dX3_confirm_5 : decode cX3_confirm 5 = .ok (.iconst 1, 1) := by decide +kernel
theorem dX3_confirm_6 : decode cX3_confirm 6 = .ok (.iadd, 1) := by decide +kernel
theorem dX3_confirm_7 : decode cX3_confirm 7 = .ok (.bipush 9, 2) := by decide +kernel
theorem dX3_confirm_9 : decode cX3_confirm 9 = .ok (.irem, 1) := by decide +kernel
theorem dX3_confirm_10 : decode cX3_confirm 10 = .ok (.putfield 17, 3) := by decide +kernel
theorem dX3_confirm_13 : decode cX3_confirm 13 = .ok (.aload_n 0, 1) := by decide +kernel
theorem dX3_confirm_14 : decode cX3_confirm 14 = .ok (.aload_n 0, 1) := by decide +kernel
theorem dX3_confirm_15 : decode cX3_confirm 15 = .ok (.getfield 21, 3) := by decide +kernel
theorem dX3_confirm_18 : decode cX3_confirm 18 = .ok (.iconst 1, 1) := by decide +kernel
theorem dX3_confirm_19 : decode cX3_confirm 19 = .ok (.iadd, 1) := by decide +kernel
theorem dX3_confirm_20 : decode cX3_confirm 20 = .ok (.bipush 8, 2) := by decide +kernel
theorem dX3_confirm_22 : decode cX3_confirm 22 = .ok (.invokestatic 29, 3) := by decide +kernel
theorem dX3_confirm_25 : decode cX3_confirm 25 = .ok (.putfield 21, 3) := by decide +kernel
theorem dX3_confirm_28 : decode cX3_confirm 28 = .ok (.return_, 1) := by decide +kernel
theorem dX3_revert_0 : decode cX3_revert 0 = .ok (.aload_n 1, 1) := by decide +kernel
theorem dX3_revert_1 : decode cX3_revert 1 = .ok (.aload_n 0, 1) := by decide +kernel
theorem dX3_revert_2 : decode cX3_revert 2 = .ok (.getfield 11, 3) := by decide +kernel
theorem dX3_revert_5 : decode cX3_revert 5 = .ok (.aload_n 0, 1) := by decide +kernel
theorem dX3_revert_6 : decode cX3_revert 6 = .ok (.getfield 17, 3) := by decide +kernel
theorem dX3_revert_9 : decode cX3_revert 9 = .ok (.aaload, 1) := by decide +kernel
theorem dX3_revert_10 : decode cX3_revert 10 = .ok (.invokevirtual 25, 3) := by decide +kernel
theorem dX3_revert_13 : decode cX3_revert 13 = .ok (.return_, 1) := by decide +kernel
theorem dX3_stepBack_0 : decode cX3_stepBack 0 = .ok (.aload_n 0, 1) := by decide +kernel
theorem dX3_stepBack_1 : decode cX3_stepBack 1 = .ok (.aload_n 0, 1) := by decide +kernel
theorem dX3_stepBack_2 : decode cX3_stepBack 2 = .ok (.getfield 17, 3) := by decide +kernel
theorem dX3_stepBack_5 : decode cX3_stepBack 5 = .ok (.bipush 8, 2) := by decide +kernel
theorem dX3_stepBack_7 : decode cX3_stepBack 7 = .ok (.iadd, 1) := by decide +kernel
theorem dX3_stepBack_8 : decode cX3_stepBack 8 = .ok (.bipush 9, 2) := by decide +kernel
theorem dX3_stepBack_10 : decode cX3_stepBack 10 = .ok (.irem, 1) := by decide +kernel
theorem dX3_stepBack_11 : decode cX3_stepBack 11 = .ok (.putfield 17, 3) := by decide +kernel
theorem dX3_stepBack_14 : decode cX3_stepBack 14 = .ok (.aload_n 1, 1) := by decide +kernel
theorem dX3_stepBack_15 : decode cX3_stepBack 15 = .ok (.aload_n 0, 1) := by decide +kernel
theorem dX3_stepBack_16 : decode cX3_stepBack 16 = .ok (.getfield 11, 3) := by decide +kernel
theorem dX3_stepBack_19 : decode cX3_stepBack 19 = .ok (.aload_n 0, 1) := by decide +kernel
theorem dX3_stepBack_20 : decode cX3_stepBack 20 = .ok (.getfield 17, 3) := by decide +kernel
theorem dX3_stepBack_23 : decode cX3_stepBack 23 = .ok (.aaload, 1) := by decide +kernel
theorem dX3_stepBack_24 : decode cX3_stepBack 24 = .ok (.invokevirtual 25, 3) := by decide +kernel
theorem dX3_stepBack_27 : decode cX3_stepBack 27 = .ok (.aload_n 0, 1) := by decide +kernel
theorem dX3_stepBack_28 : decode cX3_stepBack 28 = .ok (.dup, 1) := by decide +kernel
theorem dX3_stepBack_29 : decode cX3_stepBack 29 = .ok (.getfield 21, 3) := by decide +kernel
theorem dX3_stepBack_32 : decode cX3_stepBack 32 = .ok (.iconst 1, 1) := by decide +kernel
theorem dX3_stepBack_33 : decode cX3_stepBack 33 = .ok (.isub, 1) := by decide +kernel
theorem dX3_stepBack_34 : decode cX3_stepBack 34 = .ok (.putfield 21, 3) := by decide +kernel
theorem dX3_stepBack_37 : decode cX3_stepBack 37 = .ok (.aload_n 0, 1) := by decide +kernel
theorem dX3_stepBack_38 : decode cX3_stepBack 38 = .ok (.getfield 21, 3) := by decide +kernel
theorem dX3_stepBack_41 : decode cX3_stepBack 41 = .ok (.ireturn, 1) := by decide +kernel
theorem dX3_forget_0 : decode cX3_forget 0 = .ok (.aload_n 0, 1) := by decide +kernel
theorem dX3_forget_1 : decode cX3_forget 1 = .ok (.iconst 0, 1) := by decide +kernel
theorem dX3_forget_2 : decode cX3_forget 2 = .ok (.putfield 21, 3) := by decide +kernel
theorem dX3_forget_5 : decode cX3_forget 5 = .ok (.return_, 1) := by decide +kernel
theorem dX4_init_0 : decode cX4_init 0 = .ok (.aload_n 0, 1) := by decide +kernel
theorem dX4_init_1 : decode cX4_init 1 = .ok (.invokespecial 3, 3) := by decide +kernel
theorem dX4_init_4 : decode cX4_init 4 = .ok (.aload_n 0, 1) := by decide +kernel
theorem dX4_init_5 : decode cX4_init 5 = .ok (.iconst 0, 1) := by decide +kernel
theorem dX4_init_6 : decode cX4_init 6 = .ok (.putfield 9, 3) := by decide +kernel
theorem dX4_init_9 : decode cX4_init 9 = .ok (.aload_n 0, 1) := by decide +kernel
theorem dX4_init_10 : decode cX4_init 10 = .ok (.iconst 0, 1) := by decide +kernel
theorem dX4_init_11 : decode cX4_init 11 = .ok (.putfield 15, 3) := by decide +kernel
theorem dX4_init_14 : decode cX4_init 14 = .ok (.aload_n 0, 1) := by decide +kernel
theorem dX4_init_15 : decode cX4_init 15 = .ok (.iconst 0, 1) := by decide +kernel
theorem dX4_init_16 : decode cX4_init 16 = .ok (.putfield 18, 3) := by decide +kernel
theorem dX4_init_19 : decode cX4_init 19 = .ok (.aload_n 0, 1) := by decide +kernel
theorem dX4_init_20 : decode cX4_init 20 = .ok (.iconst 0, 1) := by decide +kernel
theorem dX4_init_21 : decode cX4_init 21 = .ok (.putfield 21, 3) := by decide +kernel
theorem dX4_init_24 : decode cX4_init 24 = .ok (.aload_n 0, 1) := by decide +kernel
theorem dX4_init_25 : decode cX4_init 25 = .ok (.iconst 0, 1) := by decide +kernel
theorem dX4_init_26 : decode cX4_init 26 = .ok (.putfield 24, 3) := by decide +kernel
theorem dX4_init_29 : decode cX4_init 29 = .ok (.aload_n 0, 1) := by decide +kernel
theorem dX4_init_30 : decode cX4_init 30 = .ok (.iconst 0, 1) := by decide +kernel
theorem dX4_init_31 : decode cX4_init 31 = .ok (.putfield 27, 3) := by decide +kernel
theorem dX4_init_34 : decode cX4_init 34 = .ok (.aload_n 0, 1) := by decide +kernel
theorem dX4_init_35 : decode cX4_init 35 = .ok (.iconst 0, 1) := by decide +kernel
theorem dX4_init_36 : decode cX4_init 36 = .ok (.putfield 30, 3) := by decide +kernel
theorem dX4_init_39 : decode cX4_init 39 = .ok (.aload_n 0, 1) := by decide +kernel
theorem dX4_init_40 : decode cX4_init 40 = .ok (.bipush 14, 2) := by decide +kernel
theorem dX4_init_42 : decode cX4_init 42 = .ok (.newarray .int, 2) := by decide +kernel
theorem dX4_init_44 : decode cX4_init 44 = .ok (.putfield 33, 3) := by decide +kernel
theorem dX4_init_47 : decode cX4_init 47 = .ok (.aload_n 0, 1) := by decide +kernel
theorem dX4_init_48 : decode cX4_init 48 = .ok (.bipush 14, 2) := by decide +kernel
theorem dX4_init_50 : decode cX4_init 50 = .ok (.newarray .int, 2) := by decide +kernel
theorem dX4_init_52 : decode cX4_init 52 = .ok (.putfield 37, 3) := by decide +kernel
theorem dX4_init_55 : decode cX4_init 55 = .ok (.aload_n 0, 1) := by decide +kernel
theorem dX4_init_56 : decode cX4_init 56 = .ok (.bipush 6, 2) := by decide +kernel
theorem dX4_init_58 : decode cX4_init 58 = .ok (.newarray .int, 2) := by decide +kernel
theorem dX4_init_60 : decode cX4_init 60 = .ok (.putfield 40, 3) := by decide +kernel
theorem dX4_init_63 : decode cX4_init 63 = .ok (.aload_n 0, 1) := by decide +kernel
theorem dX4_init_64 : decode cX4_init 64 = .ok (.bipush 6, 2) := by decide +kernel
theorem dX4_init_66 : decode cX4_init 66 = .ok (.newarray .int, 2) := by decide +kernel
theorem dX4_init_68 : decode cX4_init 68 = .ok (.putfield 43, 3) := by decide +kernel
theorem dX4_init_71 : decode cX4_init 71 = .ok (.aload_n 0, 1) := by decide +kernel
theorem dX4_init_72 : decode cX4_init 72 = .ok (.bipush 6, 2) := by decide +kernel
theorem dX4_init_74 : decode cX4_init 74 = .ok (.newarray .int, 2) := by decide +kernel
theorem dX4_init_76 : decode cX4_init 76 = .ok (.putfield 46, 3) := by decide +kernel
theorem dX4_init_79 : decode cX4_init 79 = .ok (.aload_n 0, 1) := by decide +kernel
theorem dX4_init_80 : decode cX4_init 80 = .ok (.bipush 6, 2) := by decide +kernel
theorem dX4_init_82 : decode cX4_init 82 = .ok (.newarray .int, 2) := by decide +kernel
theorem dX4_init_84 : decode cX4_init 84 = .ok (.putfield 49, 3) := by decide +kernel
theorem dX4_init_87 : decode cX4_init 87 = .ok (.aload_n 0, 1) := by decide +kernel
theorem dX4_init_88 : decode cX4_init 88 = .ok (.bipush 6, 2) := by decide +kernel
theorem dX4_init_90 : decode cX4_init 90 = .ok (.newarray .int, 2) := by decide +kernel
theorem dX4_init_92 : decode cX4_init 92 = .ok (.putfield 52, 3) := by decide +kernel
theorem dX4_init_95 : decode cX4_init 95 = .ok (.aload_n 0, 1) := by decide +kernel
theorem dX4_init_96 : decode cX4_init 96 = .ok (.bipush 6, 2) := by decide +kernel
theorem dX4_init_98 : decode cX4_init 98 = .ok (.newarray .int, 2) := by decide +kernel
theorem dX4_init_100 : decode cX4_init 100 = .ok (.putfield 55, 3) := by decide +kernel
theorem dX4_init_103 : decode cX4_init 103 = .ok (.return_, 1) := by decide +kernel
theorem dX4_copyFrom_0 : decode cX4_copyFrom 0 = .ok (.aload_n 0, 1) := by decide +kernel
theorem dX4_copyFrom_1 : decode cX4_copyFrom 1 = .ok (.aload_n 1, 1) := by decide +kernel
theorem dX4_copyFrom_2 : decode cX4_copyFrom 2 = .ok (.getfield 9, 3) := by decide +kernel
theorem dX4_copyFrom_5 : decode cX4_copyFrom 5 = .ok (.putfield 9, 3) := by decide +kernel
theorem dX4_copyFrom_8 : decode cX4_copyFrom 8 = .ok (.aload_n 0, 1) := by decide +kernel
theorem dX4_copyFrom_9 : decode cX4_copyFrom 9 = .ok (.aload_n 1, 1) := by decide +kernel
theorem dX4_copyFrom_10 : decode cX4_copyFrom 10 = .ok (.getfield 15, 3) := by decide +kernel
theorem dX4_copyFrom_13 : decode cX4_copyFrom 13 = .ok (.putfield 15, 3) := by decide +kernel
theorem dX4_copyFrom_16 : decode cX4_copyFrom 16 = .ok (.aload_n 0, 1) := by decide +kernel
theorem dX4_copyFrom_17 : decode cX4_copyFrom 17 = .ok (.aload_n 1, 1) := by decide +kernel
theorem dX4_copyFrom_18 : decode cX4_copyFrom 18 = .ok (.getfield 18, 3) := by decide +kernel
theorem dX4_copyFrom_21 : decode cX4_copyFrom 21 = .ok (.putfield 18, 3) := by decide +kernel
theorem dX4_copyFrom_24 : decode cX4_copyFrom 24 = .ok (.aload_n 0, 1) := by decide +kernel
theorem dX4_copyFrom_25 : decode cX4_copyFrom 25 = .ok (.aload_n 1, 1) := by decide +kernel
theorem dX4_copyFrom_26 : decode cX4_copyFrom 26 = .ok (.getfield 21, 3) := by decide +kernel
theorem dX4_copyFrom_29 : decode cX4_copyFrom 29 = .ok (.putfield 21, 3) := by decide +kernel
theorem dX4_copyFrom_32 : decode cX4_copyFrom 32 = .ok (.aload_n 0, 1) := by decide +kernel
theorem dX4_copyFrom_33 : decode cX4_copyFrom 33 = .ok (.aload_n 1, 1) := by decide +kernel
theorem dX4_copyFrom_34 : decode cX4_copyFrom 34 = .ok (.getfield 24, 3) := by decide +kernel
theorem dX4_copyFrom_37 : decode cX4_copyFrom 37 = .ok (.putfield 24, 3) := by decide +kernel
theorem dX4_copyFrom_40 : decode cX4_copyFrom 40 = .ok (.aload_n 0, 1) := by decide +kernel
theorem dX4_copyFrom_41 : decode cX4_copyFrom 41 = .ok (.aload_n 1, 1) := by decide +kernel
theorem dX4_copyFrom_42 : decode cX4_copyFrom 42 = .ok (.getfield 27, 3) := by decide +kernel
theorem dX4_copyFrom_45 : decode cX4_copyFrom 45 = .ok (.putfield 27, 3) := by decide +kernel
theorem dX4_copyFrom_48 : decode cX4_copyFrom 48 = .ok (.aload_n 0, 1) := by decide +kernel
theorem dX4_copyFrom_49 : decode cX4_copyFrom 49 = .ok (.aload_n 1, 1) := by decide +kernel
theorem dX4_copyFrom_50 : decode cX4_copyFrom 50 = .ok (.getfield 30, 3) := by decide +kernel
theorem dX4_copyFrom_53 : decode cX4_copyFrom 53 = .ok (.putfield 30, 3) := by decide +kernel
theorem dX4_copyFrom_56 : decode cX4_copyFrom 56 = .ok (.aload_n 1, 1) := by decide +kernel
theorem dX4_copyFrom_57 : decode cX4_copyFrom 57 = .ok (.getfield 33, 3) := by decide +kernel
theorem dX4_copyFrom_60 : decode cX4_copyFrom 60 = .ok (.iconst 0, 1) := by decide +kernel
theorem dX4_copyFrom_61 : decode cX4_copyFrom 61 = .ok (.aload_n 0, 1) := by decide +kernel
theorem dX4_copyFrom_62 : decode cX4_copyFrom 62 = .ok (.getfield 33, 3) := by decide +kernel
theorem dX4_copyFrom_65 : decode cX4_copyFrom 65 = .ok (.iconst 0, 1) := by decide +kernel
theorem dX4_copyFrom_66 : decode cX4_copyFrom 66 = .ok (.bipush 14, 2) := by decide +kernel
theorem dX4_copyFrom_68 : decode cX4_copyFrom 68 = .ok (.invokestatic 58, 3) := by decide +kernel
theorem dX4_copyFrom_71 : decode cX4_copyFrom 71 = .ok (.aload_n 1, 1) := by decide +kernel
theorem dX4_copyFrom_72 : decode cX4_copyFrom 72 = .ok (.getfield 37, 3) := by decide +kernel
theorem dX4_copyFrom_75 : decode cX4_copyFrom 75 = .ok (.iconst 0, 1) := by decide +kernel
theorem dX4_copyFrom_76 : decode cX4_copyFrom 76 = .ok (.aload_n 0, 1) := by decide +kernel
theorem dX4_copyFrom_77 : decode cX4_copyFrom 77 = .ok (.getfield 37, 3) := by decide +kernel
theorem dX4_copyFrom_80 : decode cX4_copyFrom 80 = .ok (.iconst 0, 1) := by decide +kernel
theorem dX4_copyFrom_81 : decode cX4_copyFrom 81 = .ok (.bipush 14, 2) := by decide +kernel
theorem dX4_copyFrom_83 : decode cX4_copyFrom 83 = .ok (.invokestatic 58, 3) := by decide +kernel
theorem dX4_copyFrom_86 : decode cX4_copyFrom 86 = .ok (.aload_n 1, 1) := by decide +kernel
theorem dX4_copyFrom_87 : decode cX4_copyFrom 87 = .ok (.getfield 40, 3) := by decide +kernel
theorem dX4_copyFrom_90 : decode cX4_copyFrom 90 = .ok (.iconst 0, 1) := by decide +kernel
theorem dX4_copyFrom_91 : decode cX4_copyFrom 91 = .ok (.aload_n 0, 1) := by decide +kernel
theorem dX4_copyFrom_92 : decode cX4_copyFrom 92 = .ok (.getfield 40, 3) := by decide +kernel
theorem dX4_copyFrom_95 : decode cX4_copyFrom 95 = .ok (.iconst 0, 1) := by decide +kernel
theorem dX4_copyFrom_96 : decode cX4_copyFrom 96 = .ok (.bipush 6, 2) := by decide +kernel
theorem dX4_copyFrom_98 : decode cX4_copyFrom 98 = .ok (.invokestatic 58, 3) := by decide +kernel
theorem dX4_copyFrom_101 : decode cX4_copyFrom 101 = .ok (.aload_n 1, 1) := by decide +kernel
theorem dX4_copyFrom_102 : decode cX4_copyFrom 102 = .ok (.getfield 43, 3) := by decide +kernel
theorem dX4_copyFrom_105 : decode cX4_copyFrom 105 = .ok (.iconst 0, 1) := by decide +kernel
theorem dX4_copyFrom_106 : decode cX4_copyFrom 106 = .ok (.aload_n 0, 1) := by decide +kernel
theorem dX4_copyFrom_107 : decode cX4_copyFrom 107 = .ok (.getfield 43, 3) := by decide +kernel
theorem dX4_copyFrom_110 : decode cX4_copyFrom 110 = .ok (.iconst 0, 1) := by decide +kernel
theorem dX4_copyFrom_111 : decode cX4_copyFrom 111 = .ok (.bipush 6, 2) := by decide +kernel
theorem dX4_copyFrom_113 : decode cX4_copyFrom 113 = .ok (.invokestatic 58, 3) := by decide +kernel
theorem dX4_copyFrom_116 : decode cX4_copyFrom 116 = .ok (.aload_n 1, 1) := by decide +kernel
theorem dX4_copyFrom_117 : decode cX4_copyFrom 117 = .ok (.getfield 46, 3) := by decide +kernel
theorem dX4_copyFrom_120 : decode cX4_copyFrom 120 = .ok (.iconst 0, 1) := by decide +kernel
theorem dX4_copyFrom_121 : decode cX4_copyFrom 121 = .ok (.aload_n 0, 1) := by decide +kernel
theorem dX4_copyFrom_122 : decode cX4_copyFrom 122 = .ok (.getfield 46, 3) := by decide +kernel
theorem dX4_copyFrom_125 : decode cX4_copyFrom 125 = .ok (.iconst 0, 1) := by decide +kernel
theorem dX4_copyFrom_126 : decode cX4_copyFrom 126 = .ok (.bipush 6, 2) := by decide +kernel
theorem dX4_copyFrom_128 : decode cX4_copyFrom 128 = .ok (.invokestatic 58, 3) := by decide +kernel
theorem dX4_copyFrom_131 : decode cX4_copyFrom 131 = .ok (.aload_n 1, 1) := by decide +kernel
theorem dX4_copyFrom_132 : decode cX4_copyFrom 132 = .ok (.getfield 49, 3) := by decide +kernel
theorem dX4_copyFrom_135 : decode cX4_copyFrom 135 = .ok (.iconst 0, 1) := by decide +kernel
theorem dX4_copyFrom_136 : decode cX4_copyFrom 136 = .ok (.aload_n 0, 1) := by decide +kernel
theorem dX4_copyFrom_137 : decode cX4_copyFrom 137 = .ok (.getfield 49, 3) := by decide +kernel
theorem dX4_copyFrom_140 : decode cX4_copyFrom 140 = .ok (.iconst 0, 1) := by decide +kernel
theorem dX4_copyFrom_141 : decode cX4_copyFrom 141 = .ok (.bipush 6, 2) := by decide +kernel
theorem dX4_copyFrom_143 : decode cX4_copyFrom 143 = .ok (.invokestatic 58, 3) := by decide +kernel
theorem dX4_copyFrom_146 : decode cX4_copyFrom 146 = .ok (.aload_n 1, 1) := by decide +kernel
theorem dX4_copyFrom_147 : decode cX4_copyFrom 147 = .ok (.getfield 52, 3) := by decide +kernel
theorem dX4_copyFrom_150 : decode cX4_copyFrom 150 = .ok (.iconst 0, 1) := by decide +kernel
theorem dX4_copyFrom_151 : decode cX4_copyFrom 151 = .ok (.aload_n 0, 1) := by decide +kernel
theorem dX4_copyFrom_152 : decode cX4_copyFrom 152 = .ok (.getfield 52, 3) := by decide +kernel
theorem dX4_copyFrom_155 : decode cX4_copyFrom 155 = .ok (.iconst 0, 1) := by decide +kernel
theorem dX4_copyFrom_156 : decode cX4_copyFrom 156 = .ok (.bipush 6, 2) := by decide +kernel
theorem dX4_copyFrom_158 : decode cX4_copyFrom 158 = .ok (.invokestatic 58, 3) := by decide +kernel
theorem dX4_copyFrom_161 : decode cX4_copyFrom 161 = .ok (.aload_n 1, 1) := by decide +kernel
theorem dX4_copyFrom_162 : decode cX4_copyFrom 162 = .ok (.getfield 55, 3) := by decide +kernel
theorem dX4_copyFrom_165 : decode cX4_copyFrom 165 = .ok (.iconst 0, 1) := by decide +kernel
theorem dX4_copyFrom_166 : decode cX4_copyFrom 166 = .ok (.aload_n 0, 1) := by decide +kernel
theorem dX4_copyFrom_167 : decode cX4_copyFrom 167 = .ok (.getfield 55, 3) := by decide +kernel
theorem dX4_copyFrom_170 : decode cX4_copyFrom 170 = .ok (.iconst 0, 1) := by decide +kernel
theorem dX4_copyFrom_171 : decode cX4_copyFrom 171 = .ok (.bipush 6, 2) := by decide +kernel
theorem dX4_copyFrom_173 : decode cX4_copyFrom 173 = .ok (.invokestatic 58, 3) := by decide +kernel
theorem dX4_copyFrom_176 : decode cX4_copyFrom 176 = .ok (.return_, 1) := by decide +kernel
theorem dX4_isBlock_0 : decode cX4_isBlock 0 = .ok (.iload_n 1, 1) := by decide +kernel
theorem dX4_isBlock_1 : decode cX4_isBlock 1 = .ok (.ifCond .lt 15, 3) := by decide +kernel
theorem dX4_isBlock_4 : decode cX4_isBlock 4 = .ok (.iload_n 1, 1) := by decide +kernel
theorem dX4_isBlock_5 : decode cX4_isBlock 5 = .ok (.aload_n 0, 1) := by decide +kernel
theorem dX4_isBlock_6 : decode cX4_isBlock 6 = .ok (.getfield 9, 3) := by decide +kernel
theorem dX4_isBlock_9 : decode cX4_isBlock 9 = .ok (.if_icmp .ge 7, 3) := by decide +kernel
theorem dX4_isBlock_12 : decode cX4_isBlock 12 = .ok (.iconst 1, 1) := by decide +kernel
theorem dX4_isBlock_13 : decode cX4_isBlock 13 = .ok (.goto 4, 3) := by decide +kernel
theorem dX4_isBlock_16 : decode cX4_isBlock 16 = .ok (.iconst 0, 1) := by decide +kernel
theorem dX4_isBlock_17 : decode cX4_isBlock 17 = .ok (.ireturn, 1) := by decide +kernel
