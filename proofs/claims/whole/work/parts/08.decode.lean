theorem dX2_init_0 : decode cX2_init 0 = .ok (.aload_n 0, 1) := by decide +kernel
theorem dX2_init_1 : decode cX2_init 1 = .ok (.invokespecial 3, 3) := by decide +kernel
theorem dX2_init_4 : decode cX2_init 4 = .ok (.aload_n 0, 1) := by decide +kernel
theorem dX2_init_5 : decode cX2_init 5 = .ok (.bipush 60, 2) := by decide +kernel
theorem dX2_init_7 : decode cX2_init 7 = .ok (.newarray .char, 2) := by decide +kernel
theorem dX2_init_9 : decode cX2_init 9 = .ok (.putfield 9, 3) := by decide +kernel
theorem dX2_init_12 : decode cX2_init 12 = .ok (.aload_n 0, 1) := by decide +kernel
theorem dX2_init_13 : decode cX2_init 13 = .ok (.iconst 0, 1) := by decide +kernel
theorem dX2_init_14 : decode cX2_init 14 = .ok (.putfield 15, 3) := by decide +kernel
theorem dX2_init_17 : decode cX2_init 17 = .ok (.aload_n 0, 1) := by decide +kernel
theorem dX2_init_18 : decode cX2_init 18 = .ok (.iconst 0, 1) := by decide +kernel
theorem dX2_init_19 : decode cX2_init 19 = .ok (.putfield 19, 3) := by decide +kernel
theorem dX2_init_22 : decode cX2_init 22 = .ok (.aload_n 0, 1) := by decide +kernel
theorem dX2_init_23 : decode cX2_init 23 = .ok (.iconst 0, 1) := by decide +kernel
theorem dX2_init_24 : decode cX2_init 24 = .ok (.putfield 22, 3) := by decide +kernel
theorem dX2_init_27 : decode cX2_init 27 = .ok (.aload_n 0, 1) := by decide +kernel
theorem dX2_init_28 : decode cX2_init 28 = .ok (.getstatic 26, 3) := by decide +kernel
theorem dX2_init_31 : decode cX2_init 31 = .ok (.putfield 32, 3) := by decide +kernel
theorem dX2_init_34 : decode cX2_init 34 = .ok (.aload_n 0, 1) := by decide +kernel
theorem dX2_init_35 : decode cX2_init 35 = .ok (.iconst 0, 1) := by decide +kernel
theorem dX2_init_36 : decode cX2_init 36 = .ok (.putfield 35, 3) := by decide +kernel
theorem dX2_init_39 : decode cX2_init 39 = .ok (.aload_n 0, 1) := by decide +kernel
theorem dX2_init_40 : decode cX2_init 40 = .ok (.iconst 0, 1) := by decide +kernel
theorem dX2_init_41 : decode cX2_init 41 = .ok (.putfield 38, 3) := by decide +kernel
theorem dX2_init_44 : decode cX2_init 44 = .ok (.return_, 1) := by decide +kernel
theorem dX2_append_0 : decode cX2_append 0 = .ok (.aload_n 0, 1) := by decide +kernel
theorem dX2_append_1 : decode cX2_append 1 = .ok (.getfield 15, 3) := by decide +kernel
theorem dX2_append_4 : decode cX2_append 4 = .ok (.bipush 60, 2) := by decide +kernel
theorem dX2_append_6 : decode cX2_append 6 = .ok (.if_icmp .lt 5, 3) := by decide +kernel
theorem dX2_append_9 : decode cX2_append 9 = .ok (.iconst 0, 1) := by decide +kernel
theorem dX2_append_10 : decode cX2_append 10 = .ok (.ireturn, 1) := by decide +kernel
theorem dX2_append_11 : decode cX2_append 11 = .ok (.aload_n 0, 1) := by decide +kernel
theorem dX2_append_12 : decode cX2_append 12 = .ok (.getfield 9, 3) := by decide +kernel
theorem dX2_append_15 : decode cX2_append 15 = .ok (.aload_n 0, 1) := by decide +kernel
theorem dX2_append_16 : decode cX2_append 16 = .ok (.getfield 15, 3) := by decide +kernel
theorem dX2_append_19 : decode cX2_append 19 = .ok (.iload_n 1, 1) := by decide +kernel
theorem dX2_append_20 : decode cX2_append 20 = .ok (.castore, 1) := by decide +kernel
theorem dX2_append_21 : decode cX2_append 21 = .ok (.aload_n 0, 1) := by decide +kernel
theorem dX2_append_22 : decode cX2_append 22 = .ok (.dup, 1) := by decide +kernel
theorem dX2_append_23 : decode cX2_append 23 = .ok (.getfield 15, 3) := by decide +kernel
theorem dX2_append_26 : decode cX2_append 26 = .ok (.iconst 1, 1) := by decide +kernel
theorem dX2_append_27 : decode cX2_append 27 = .ok (.iadd, 1) := by decide +kernel
theorem dX2_append_28 : decode cX2_append 28 = .ok (.putfield 15, 3) := by decide +kernel
theorem dX2_append_31 : decode cX2_append 31 = .ok (.iconst 1, 1) := by decide +kernel
theorem dX2_append_32 : decode cX2_append 32 = .ok (.ireturn, 1) := by decide +kernel
theorem dX2_clear_0 : decode cX2_clear 0 = .ok (.aload_n 0, 1) := by decide +kernel
theorem dX2_clear_1 : decode cX2_clear 1 = .ok (.iconst 0, 1) := by decide +kernel
theorem dX2_clear_2 : decode cX2_clear 2 = .ok (.putfield 15, 3) := by decide +kernel
theorem dX2_clear_5 : decode cX2_clear 5 = .ok (.return_, 1) := by decide +kernel
theorem dX2_rewind_0 : decode cX2_rewind 0 = .ok (.aload_n 0, 1) := by decide +kernel
theorem dX2_rewind_1 : decode cX2_rewind 1 = .ok (.iconst 0, 1) := by decide +kernel
theorem dX2_rewind_2 : decode cX2_rewind 2 = .ok (.putfield 19, 3) := by decide +kernel
theorem dX2_rewind_5 : decode cX2_rewind 5 = .ok (.aload_n 0, 1) := by decide +kernel
theorem dX2_rewind_6 : decode cX2_rewind 6 = .ok (.iconst 0, 1) := by decide +kernel
theorem dX2_rewind_7 : decode cX2_rewind 7 = .ok (.putfield 22, 3) := by decide +kernel
theorem dX2_rewind_10 : decode cX2_rewind 10 = .ok (.return_, 1) := by decide +kernel
theorem dX2_findError_0 : decode cX2_findError 0 = .ok (.aload_n 0, 1) := by decide +kernel
theorem dX2_findError_1 : decode cX2_findError 1 = .ok (.invokevirtual 41, 3) := by decide +kernel
theorem dX2_findError_4 : decode cX2_findError 4 = .ok (.iconst 0, 1) := by decide +kernel
theorem dX2_findError_5 : decode cX2_findError 5 = .ok (.istore_n 1, 1) := by decide +kernel
theorem dX2_findError_6 : decode cX2_findError 6 = .ok (.iload_n 1, 1) := by decide +kernel
theorem dX2_findError_7 : decode cX2_findError 7 = .ok (.bipush 60, 2) := by decide +kernel
theorem dX2_findError_9 : decode cX2_findError 9 = .ok (.if_icmp .gt 28, 3) := by decide +kernel
theorem dX2_findError_12 : decode cX2_findError 12 = .ok (.aload_n 0, 1) := by decide +kernel
theorem dX2_findError_13 : decode cX2_findError 13 = .ok (.getfield 22, 3) := by decide +kernel
theorem dX2_findError_16 : decode cX2_findError 16 = .ok (.ifCond .ne 21, 3) := by decide +kernel
theorem dX2_findError_19 : decode cX2_findError 19 = .ok (.aload_n 0, 1) := by decide +kernel
theorem dX2_findError_20 : decode cX2_findError 20 = .ok (.invokevirtual 44, 3) := by decide +kernel
theorem dX2_findError_23 : decode cX2_findError 23 = .ok (.ifCond .ne 8, 3) := by decide +kernel
theorem dX2_findError_26 : decode cX2_findError 26 = .ok (.aload_n 0, 1) := by decide +kernel
theorem dX2_findError_27 : decode cX2_findError 27 = .ok (.getfield 19, 3) := by decide +kernel
theorem dX2_findError_30 : decode cX2_findError 30 = .ok (.ireturn, 1) := by decide +kernel
theorem dX2_findError_31 : decode cX2_findError 31 = .ok (.iinc 1 1, 3) := by decide +kernel
theorem dX2_findError_34 : decode cX2_findError 34 = .ok (.goto (-28), 3) := by decide +kernel
theorem dX2_findError_37 : decode cX2_findError 37 = .ok (.iconst (-1), 1) := by decide +kernel
theorem dX2_findError_38 : decode cX2_findError 38 = .ok (.ireturn, 1) := by decide +kernel
theorem dX2_readCommand_0 : decode cX2_readCommand 0 = .ok (.aload_n 0, 1) := by decide +kernel
theorem dX2_readCommand_1 : decode cX2_readCommand 1 = .ok (.getfield 22, 3) := by decide +kernel
theorem dX2_readCommand_4 : decode cX2_readCommand 4 = .ok (.ifCond .eq 5, 3) := by decide +kernel
theorem dX2_readCommand_7 : decode cX2_readCommand 7 = .ok (.iconst 0, 1) := by decide +kernel
theorem dX2_readCommand_8 : decode cX2_readCommand 8 = .ok (.ireturn, 1) := by decide +kernel
theorem dX2_readCommand_9 : decode cX2_readCommand 9 = .ok (.aload_n 0, 1) := by decide +kernel
theorem dX2_readCommand_10 : decode cX2_readCommand 10 = .ok (.getfield 19, 3) := by decide +kernel
theorem dX2_readCommand_13 : decode cX2_readCommand 13 = .ok (.istore_n 1, 1) := by decide +kernel
theorem dX2_readCommand_14 : decode cX2_readCommand 14 = .ok (.getstatic 48, 3) := by decide +kernel
theorem dX2_readCommand_17 : decode cX2_readCommand 17 = .ok (.astore_n 2, 1) := by decide +kernel
theorem dX2_readCommand_18 : decode cX2_readCommand 18 = .ok (.aload_n 2, 1) := by decide +kernel
theorem dX2_readCommand_19 : decode cX2_readCommand 19 = .ok (.arraylength, 1) := by decide +kernel
theorem dX2_readCommand_20 : decode cX2_readCommand 20 = .ok (.istore_n 3, 1) := by decide +kernel
theorem dX2_readCommand_21 : decode cX2_readCommand 21 = .ok (.iconst 0, 1) := by decide +kernel
theorem dX2_readCommand_22 : decode cX2_readCommand 22 = .ok (.istore 4, 2) := by decide +kernel
theorem dX2_readCommand_24 : decode cX2_readCommand 24 = .ok (.iload 4, 2) := by decide +kernel
theorem dX2_readCommand_26 : decode cX2_readCommand 26 = .ok (.iload_n 3, 1) := by decide +kernel
theorem dX2_readCommand_27 : decode cX2_readCommand 27 = .ok (.if_icmp .ge 57, 3) := by decide +kernel
theorem dX2_readCommand_30 : decode cX2_readCommand 30 = .ok (.aload_n 2, 1) := by decide +kernel
theorem dX2_readCommand_31 : decode cX2_readCommand 31 = .ok (.iload 4, 2) := by decide +kernel
theorem dX2_readCommand_33 : decode cX2_readCommand 33 = .ok (.aaload, 1) := by decide +kernel
theorem dX2_readCommand_34 : decode cX2_readCommand 34 = .ok (.astore 5, 2) := by decide +kernel
theorem dX2_readCommand_36 : decode cX2_readCommand 36 = .ok (.aload_n 0, 1) := by decide +kernel
theorem dX2_readCommand_37 : decode cX2_readCommand 37 = .ok (.aload 5, 2) := by decide +kernel
theorem dX2_readCommand_39 : decode cX2_readCommand 39 = .ok (.getfield 52, 3) := by decide +kernel
theorem dX2_readCommand_42 : decode cX2_readCommand 42 = .ok (.aload_n 0, 1) := by decide +kernel
theorem dX2_readCommand_43 : decode cX2_readCommand 43 = .ok (.getfield 19, 3) := by decide +kernel
theorem dX2_readCommand_46 : decode cX2_readCommand 46 = .ok (.invokevirtual 56, 3) := by decide +kernel
theorem dX2_readCommand_49 : decode cX2_readCommand 49 = .ok (.istore 6, 2) := by decide +kernel
theorem dX2_readCommand_51 : decode cX2_readCommand 51 = .ok (.iload 6, 2) := by decide +kernel
theorem dX2_readCommand_53 : decode cX2_readCommand 53 = .ok (.ifCond .lt 16, 3) := by decide +kernel
theorem dX2_readCommand_56 : decode cX2_readCommand 56 = .ok (.aload_n 0, 1) := by decide +kernel
theorem dX2_readCommand_57 : decode cX2_readCommand 57 = .ok (.aload 5, 2) := by decide +kernel
theorem dX2_readCommand_59 : decode cX2_readCommand 59 = .ok (.putfield 32, 3) := by decide +kernel
theorem dX2_readCommand_62 : decode cX2_readCommand 62 = .ok (.aload_n 0, 1) := by decide +kernel
theorem dX2_readCommand_63 : decode cX2_readCommand 63 = .ok (.iload 6, 2) := by decide +kernel
theorem dX2_readCommand_65 : decode cX2_readCommand 65 = .ok (.invokevirtual 60, 3) := by decide +kernel
theorem dX2_readCommand_68 : decode cX2_readCommand 68 = .ok (.ireturn, 1) := by decide +kernel
theorem dX2_readCommand_69 : decode cX2_readCommand 69 = .ok (.iload_n 1, 1) := by decide +kernel
theorem dX2_readCommand_70 : decode cX2_readCommand 70 = .ok (.iload 6, 2) := by decide +kernel
theorem dX2_readCommand_72 : decode cX2_readCommand 72 = .ok (.iconst (-1), 1) := by decide +kernel
theorem dX2_readCommand_73 : decode cX2_readCommand 73 = .ok (.ixor, 1) := by decide +kernel
theorem dX2_readCommand_74 : decode cX2_readCommand 74 = .ok (.invokestatic 64, 3) := by decide +kernel
theorem dX2_readCommand_77 : decode cX2_readCommand 77 = .ok (.istore_n 1, 1) := by decide +kernel
theorem dX2_readCommand_78 : decode cX2_readCommand 78 = .ok (.iinc 4 1, 3) := by decide +kernel
theorem dX2_readCommand_81 : decode cX2_readCommand 81 = .ok (.goto (-57), 3) := by decide +kernel
theorem dX2_readCommand_84 : decode cX2_readCommand 84 = .ok (.aload_n 0, 1) := by decide +kernel
theorem dX2_readCommand_85 : decode cX2_readCommand 85 = .ok (.iload_n 1, 1) := by decide +kernel
theorem dX2_readCommand_86 : decode cX2_readCommand 86 = .ok (.putfield 19, 3) := by decide +kernel
theorem dX2_readCommand_89 : decode cX2_readCommand 89 = .ok (.iconst 0, 1) := by decide +kernel
theorem dX2_readCommand_90 : decode cX2_readCommand 90 = .ok (.ireturn, 1) := by decide +kernel
theorem dX2_closeCommand_0 : decode cX2_closeCommand 0 = .ok (.aload_n 0, 1) := by decide +kernel
theorem dX2_closeCommand_1 : decode cX2_closeCommand 1 = .ok (.iload_n 1, 1) := by decide +kernel
theorem dX2_closeCommand_2 : decode cX2_closeCommand 2 = .ok (.putfield 19, 3) := by decide +kernel
theorem dX2_closeCommand_5 : decode cX2_closeCommand 5 = .ok (.iload_n 1, 1) := by decide +kernel
theorem dX2_closeCommand_6 : decode cX2_closeCommand 6 = .ok (.aload_n 0, 1) := by decide +kernel
theorem dX2_closeCommand_7 : decode cX2_closeCommand 7 = .ok (.getfield 15, 3) := by decide +kernel
theorem dX2_closeCommand_10 : decode cX2_closeCommand 10 = .ok (.if_icmp .lt 10, 3) := by decide +kernel
theorem dX2_closeCommand_13 : decode cX2_closeCommand 13 = .ok (.aload_n 0, 1) := by decide +kernel
theorem dX2_closeCommand_14 : decode cX2_closeCommand 14 = .ok (.iconst 1, 1) := by decide +kernel
theorem dX2_closeCommand_15 : decode cX2_closeCommand 15 = .ok (.putfield 22, 3) := by decide +kernel
theorem dX2_closeCommand_18 : decode cX2_closeCommand 18 = .ok (.iconst 1, 1) := by decide +kernel
theorem dX2_closeCommand_19 : decode cX2_closeCommand 19 = .ok (.ireturn, 1) := by decide +kernel
theorem dX2_closeCommand_20 : decode cX2_closeCommand 20 = .ok (.aload_n 0, 1) := by decide +kernel
theorem dX2_closeCommand_21 : decode cX2_closeCommand 21 = .ok (.getfield 9, 3) := by decide +kernel
theorem dX2_closeCommand_24 : decode cX2_closeCommand 24 = .ok (.iload_n 1, 1) := by decide +kernel
theorem dX2_closeCommand_25 : decode cX2_closeCommand 25 = .ok (.caload, 1) := by decide +kernel
theorem dX2_closeCommand_26 : decode cX2_closeCommand 26 = .ok (.bipush 59, 2) := by decide +kernel
theorem dX2_closeCommand_28 : decode cX2_closeCommand 28 = .ok (.if_icmp .eq 5, 3) := by decide +kernel
theorem dX2_closeCommand_31 : decode cX2_closeCommand 31 = .ok (.iconst 0, 1) := by decide +kernel
theorem dX2_closeCommand_32 : decode cX2_closeCommand 32 = .ok (.ireturn, 1) := by decide +kernel
theorem dX2_closeCommand_33 : decode cX2_closeCommand 33 = .ok (.aload_n 0, 1) := by decide +kernel
theorem dX2_closeCommand_34 : decode cX2_closeCommand 34 = .ok (.dup, 1) := by decide +kernel
theorem dX2_closeCommand_35 : decode cX2_closeCommand 35 = .ok (.getfield 19, 3) := by decide +kernel
theorem dX2_closeCommand_38 : decode cX2_closeCommand 38 = .ok (.iconst 1, 1) := by decide +kernel
theorem dX2_closeCommand_39 : decode cX2_closeCommand 39 = .ok (.iadd, 1) := by decide +kernel
theorem dX2_closeCommand_40 : decode cX2_closeCommand 40 = .ok (.putfield 19, 3) := by decide +kernel
theorem dX2_closeCommand_43 : decode cX2_closeCommand 43 = .ok (.iconst 1, 1) := by decide +kernel
theorem dX2_closeCommand_44 : decode cX2_closeCommand 44 = .ok (.ireturn, 1) := by decide +kernel
theorem dX2_match_0 : decode cX2_match 0 = .ok (.iload_n 2, 1) := by decide +kernel
theorem dX2_match_1 : decode cX2_match 1 = .ok (.istore_n 3, 1) := by decide +kernel
theorem dX2_match_2 : decode cX2_match 2 = .ok (.iconst 0, 1) := by decide +kernel
theorem dX2_match_3 : decode cX2_match 3 = .ok (.istore 4, 2) := by decide +kernel
theorem dX2_match_5 : decode cX2_match 5 = .ok (.iconst 0, 1) := by decide +kernel
theorem dX2_match_6 : decode cX2_match 6 = .ok (.istore 5, 2) := by decide +kernel
theorem dX2_match_8 : decode cX2_match 8 = .ok (.iload 5, 2) := by decide +kernel
theorem dX2_match_10 : decode cX2_match 10 = .ok (.aload_n 1, 1) := by decide +kernel
theorem dX2_match_11 : decode cX2_match 11 = .ok (.invokevirtual 70, 3) := by decide +kernel
theorem dX2_match_14 : decode cX2_match 14 = .ok (.if_icmp .ge 113, 3) := by decide +kernel
theorem dX2_match_17 : decode cX2_match 17 = .ok (.aload_n 1, 1) := by decide +kernel
theorem dX2_match_18 : decode cX2_match 18 = .ok (.iload 5, 2) := by decide +kernel
theorem dX2_match_20 : decode cX2_match 20 = .ok (.invokevirtual 76, 3) := by decide +kernel
theorem dX2_match_23 : decode cX2_match 23 = .ok (.istore 6, 2) := by decide +kernel
theorem dX2_match_25 : decode cX2_match 25 = .ok (.iload 6, 2) := by decide +kernel
theorem dX2_match_27 : decode cX2_match 27 = .ok (.bipush 49, 2) := by decide +kernel
theorem dX2_match_29 : decode cX2_match 29 = .ok (.if_icmp .eq 10, 3) := by decide +kernel
theorem dX2_match_32 : decode cX2_match 32 = .ok (.iload 6, 2) := by decide +kernel
theorem dX2_match_34 : decode cX2_match 34 = .ok (.bipush 50, 2) := by decide +kernel
theorem dX2_match_36 : decode cX2_match 36 = .ok (.if_icmp .ne 59, 3) := by decide +kernel
theorem dX2_match_39 : decode cX2_match 39 = .ok (.aload_n 0, 1) := by decide +kernel
theorem dX2_match_40 : decode cX2_match 40 = .ok (.iload_n 3, 1) := by decide +kernel
theorem dX2_match_41 : decode cX2_match 41 = .ok (.invokevirtual 80, 3) := by decide +kernel
theorem dX2_match_44 : decode cX2_match 44 = .ok (.ifCond .ne 7, 3) := by decide +kernel
theorem dX2_match_47 : decode cX2_match 47 = .ok (.iload_n 3, 1) := by decide +kernel
theorem dX2_match_48 : decode cX2_match 48 = .ok (.iconst (-1), 1) := by decide +kernel
theorem dX2_match_49 : decode cX2_match 49 = .ok (.ixor, 1) := by decide +kernel
theorem dX2_match_50 : decode cX2_match 50 = .ok (.ireturn, 1) := by decide +kernel
theorem dX2_match_51 : decode cX2_match 51 = .ok (.iload 6, 2) := by decide +kernel
theorem dX2_match_53 : decode cX2_match 53 = .ok (.bipush 50, 2) := by decide +kernel
theorem dX2_match_55 : decode cX2_match 55 = .ok (.if_icmp .ne 17, 3) := by decide +kernel
theorem dX2_match_58 : decode cX2_match 58 = .ok (.aload_n 0, 1) := by decide +kernel
theorem dX2_match_59 : decode cX2_match 59 = .ok (.iload_n 3, 1) := by decide +kernel
theorem dX2_match_60 : decode cX2_match 60 = .ok (.iconst 1, 1) := by decide +kernel
theorem dX2_match_61 : decode cX2_match 61 = .ok (.iadd, 1) := by decide +kernel
theorem dX2_match_62 : decode cX2_match 62 = .ok (.invokevirtual 80, 3) := by decide +kernel
theorem dX2_match_65 : decode cX2_match 65 = .ok (.ifCond .eq 7, 3) := by decide +kernel
theorem dX2_match_68 : decode cX2_match 68 = .ok (.iconst 2, 1) := by decide +kernel
theorem dX2_match_69 : decode cX2_match 69 = .ok (.goto 4, 3) := by decide +kernel
theorem dX2_match_72 : decode cX2_match 72 = .ok (.iconst 1, 1) := by decide +kernel
theorem dX2_match_73 : decode cX2_match 73 = .ok (.istore 7, 2) := by decide +kernel
theorem dX2_match_75 : decode cX2_match 75 = .ok (.aload_n 0, 1) := by decide +kernel
theorem dX2_match_76 : decode cX2_match 76 = .ok (.iload 4, 2) := by decide +kernel
theorem dX2_match_78 : decode cX2_match 78 = .ok (.iload_n 3, 1) := by decide +kernel
theorem dX2_match_79 : decode cX2_match 79 = .ok (.iload 7, 2) := by decide +kernel
theorem dX2_match_81 : decode cX2_match 81 = .ok (.invokevirtual 83, 3) := by decide +kernel
theorem dX2_match_84 : decode cX2_match 84 = .ok (.iinc 4 1, 3) := by decide +kernel
theorem dX2_match_87 : decode cX2_match 87 = .ok (.iload_n 3, 1) := by decide +kernel
theorem dX2_match_88 : decode cX2_match 88 = .ok (.iload 7, 2) := by decide +kernel
theorem dX2_match_90 : decode cX2_match 90 = .ok (.iadd, 1) := by decide +kernel
theorem dX2_match_91 : decode cX2_match 91 = .ok (.istore_n 3, 1) := by decide +kernel
theorem dX2_match_92 : decode cX2_match 92 = .ok (.goto 29, 3) := by decide +kernel
theorem dX2_match_95 : decode cX2_match 95 = .ok (.iload_n 3, 1) := by decide +kernel
theorem dX2_match_96 : decode cX2_match 96 = .ok (.aload_n 0, 1) := by decide +kernel
theorem dX2_match_97 : decode cX2_match 97 = .ok (.getfield 15, 3) := by decide +kernel
theorem dX2_match_100 : decode cX2_match 100 = .ok (.if_icmp .ge 14, 3) := by decide +kernel
theorem dX2_match_103 : decode cX2_match 103 = .ok (.aload_n 0, 1) := by decide +kernel
theorem dX2_match_104 : decode cX2_match 104 = .ok (.getfield 9, 3) := by decide +kernel
theorem dX2_match_107 : decode cX2_match 107 = .ok (.iload_n 3, 1) := by decide +kernel
theorem dX2_match_108 : decode cX2_match 108 = .ok (.caload, 1) := by decide +kernel
theorem dX2_match_109 : decode cX2_match 109 = .ok (.iload 6, 2) := by decide +kernel
theorem dX2_match_111 : decode cX2_match 111 = .ok (.if_icmp .eq 7, 3) := by decide +kernel
theorem dX2_match_114 : decode cX2_match 114 = .ok (.iload_n 3, 1) := by decide +kernel
theorem dX2_match_115 : decode cX2_match 115 = .ok (.iconst (-1), 1) := by decide +kernel
theorem dX2_match_116 : decode cX2_match 116 = .ok (.ixor, 1) := by decide +kernel
theorem dX2_match_117 : decode cX2_match 117 = .ok (.ireturn, 1) := by decide +kernel
theorem dX2_match_118 : decode cX2_match 118 = .ok (.iinc 3 1, 3) := by decide +kernel
theorem dX2_match_121 : decode cX2_match 121 = .ok (.iinc 5 1, 3) := by decide +kernel
theorem dX2_match_124 : decode cX2_match 124 = .ok (.goto (-116), 3) := by decide +kernel
theorem dX2_match_127 : decode cX2_match 127 = .ok (.iload_n 3, 1) := by decide +kernel
theorem dX2_match_128 : decode cX2_match 128 = .ok (.ireturn, 1) := by decide +kernel
theorem dX2_putNumber_0 : decode cX2_putNumber 0 = .ok (.iconst 0, 1) := by decide +kernel
theorem dX2_putNumber_1 : decode cX2_putNumber 1 = .ok (.istore 4, 2) := by decide +kernel
theorem dX2_putNumber_3 : decode cX2_putNumber 3 = .ok (.iload_n 2, 1) := by decide +kernel
theorem dX2_putNumber_4 : decode cX2_putNumber 4 = .ok (.istore 5, 2) := by decide +kernel
theorem dX2_putNumber_6 : decode cX2_putNumber 6 = .ok (.iload 5, 2) := by decide +kernel
theorem dX2_putNumber_8 : decode cX2_putNumber 8 = .ok (.iload_n 2, 1) := by decide +kernel
theorem dX2_putNumber_9 : decode cX2_putNumber 9 = .ok (.iload_n 3, 1) := by decide +kernel
theorem dX2_putNumber_10 : decode cX2_putNumber 10 = .ok (.iadd, 1) := by decide +kernel
theorem dX2_putNumber_11 : decode cX2_putNumber 11 = .ok (.if_icmp .ge 27, 3) := by decide +kernel
theorem dX2_putNumber_14 : decode cX2_putNumber 14 = .ok (.bipush 10, 2) := by decide +kernel
theorem dX2_putNumber_16 : decode cX2_putNumber 16 = .ok (.iload 4, 2) := by decide +kernel
theorem dX2_putNumber_18 : decode cX2_putNumber 18 = .ok (.imul, 1) := by decide +kernel
theorem dX2_putNumber_19 : decode cX2_putNumber 19 = .ok (.aload_n 0, 1) := by decide +kernel
theorem dX2_putNumber_20 : decode cX2_putNumber 20 = .ok (.getfield 9, 3) := by decide +kernel
theorem dX2_putNumber_23 : decode cX2_putNumber 23 = .ok (.iload 5, 2) := by decide +kernel
theorem dX2_putNumber_25 : decode cX2_putNumber 25 = .ok (.caload, 1) := by decide +kernel
theorem dX2_putNumber_26 : decode cX2_putNumber 26 = .ok (.iadd, 1) := by decide +kernel
theorem dX2_putNumber_27 : decode cX2_putNumber 27 = .ok (.bipush 48, 2) := by decide +kernel
theorem dX2_putNumber_29 : decode cX2_putNumber 29 = .ok (.isub, 1) := by decide +kernel
theorem dX2_putNumber_30 : decode cX2_putNumber 30 = .ok (.istore 4, 2) := by decide +kernel
theorem dX2_putNumber_32 : decode cX2_putNumber 32 = .ok (.iinc 5 1, 3) := by decide +kernel
theorem dX2_putNumber_35 : decode cX2_putNumber 35 = .ok (.goto (-29), 3) := by decide +kernel
theorem dX2_putNumber_38 : decode cX2_putNumber 38 = .ok (.iload_n 1, 1) := by decide +kernel
theorem dX2_putNumber_39 : decode cX2_putNumber 39 = .ok (.ifCond .ne 12, 3) := by decide +kernel
theorem dX2_putNumber_42 : decode cX2_putNumber 42 = .ok (.aload_n 0, 1) := by decide +kernel
theorem dX2_putNumber_43 : decode cX2_putNumber 43 = .ok (.iload 4, 2) := by decide +kernel
theorem dX2_putNumber_45 : decode cX2_putNumber 45 = .ok (.putfield 35, 3) := by decide +kernel
theorem dX2_putNumber_48 : decode cX2_putNumber 48 = .ok (.goto 9, 3) := by decide +kernel
theorem dX2_putNumber_51 : decode cX2_putNumber 51 = .ok (.aload_n 0, 1) := by decide +kernel
theorem dX2_putNumber_52 : decode cX2_putNumber 52 = .ok (.iload 4, 2) := by decide +kernel
theorem dX2_putNumber_54 : decode cX2_putNumber 54 = .ok (.putfield 38, 3) := by decide +kernel
theorem dX2_putNumber_57 : decode cX2_putNumber 57 = .ok (.return_, 1) := by decide +kernel
theorem dX2_isDigit_0 : decode cX2_isDigit 0 = .ok (.iload_n 1, 1) := by decide +kernel
theorem dX2_isDigit_1 : decode cX2_isDigit 1 = .ok (.ifCond .lt 37, 3) := by decide +kernel
theorem dX2_isDigit_4 : decode cX2_isDigit 4 = .ok (.iload_n 1, 1) := by decide +kernel
theorem dX2_isDigit_5 : decode cX2_isDigit 5 = .ok (.aload_n 0, 1) := by decide +kernel
theorem dX2_isDigit_6 : decode cX2_isDigit 6 = .ok (.getfield 15, 3) := by decide +kernel
theorem dX2_isDigit_9 : decode cX2_isDigit 9 = .ok (.if_icmp .ge 29, 3) := by decide +kernel
theorem dX2_isDigit_12 : decode cX2_isDigit 12 = .ok (.aload_n 0, 1) := by decide +kernel
theorem dX2_isDigit_13 : decode cX2_isDigit 13 = .ok (.getfield 9, 3) := by decide +kernel
theorem dX2_isDigit_16 : decode cX2_isDigit 16 = .ok (.iload_n 1, 1) := by decide +kernel
theorem dX2_isDigit_17 : decode cX2_isDigit 17 = .ok (.caload, 1) := by decide +kernel
theorem dX2_isDigit_18 : decode cX2_isDigit 18 = .ok (.bipush 48, 2) := by decide +kernel
theorem dX2_isDigit_20 : decode cX2_isDigit 20 = .ok (.if_icmp .lt 18, 3) := by decide +kernel
theorem dX2_isDigit_23 : decode cX2_isDigit 23 = .ok (.aload_n 0, 1) := by decide +kernel
theorem dX2_isDigit_24 : decode cX2_isDigit 24 = .ok (.getfield 9, 3) := by decide +kernel
theorem dX2_isDigit_27 : decode cX2_isDigit 27 = .ok (.iload_n 1, 1) := by decide +kernel
theorem dX2_isDigit_28 : decode cX2_isDigit 28 = .ok (.caload, 1) := by decide +kernel
theorem dX2_isDigit_29 : decode cX2_isDigit 29 = .ok (.bipush 57, 2) := by decide +kernel
theorem dX2_isDigit_31 : decode cX2_isDigit 31 = .ok (.if_icmp .gt 7, 3) := by decide +kernel
theorem dX2_isDigit_34 : decode cX2_isDigit 34 = .ok (.iconst 1, 1) := by decide +kernel
theorem dX2_isDigit_35 : decode cX2_isDigit 35 = .ok (.goto 4, 3) := by decide +kernel
theorem dX2_isDigit_38 : decode cX2_isDigit 38 = .ok (.iconst 0, 1) := by decide +kernel
theorem dX2_isDigit_39 : decode cX2_isDigit 39 = .ok (.ireturn, 1) := by decide +kernel
theorem dX3_init_0 : decode cX3_init 0 = .ok (.aload_n 0, 1) := by decide +kernel
theorem dX3_init_1 : decode cX3_init 1 = .ok (.invokespecial 3, 3) := by decide +kernel
theorem dX3_init_4 : decode cX3_init 4 = .ok (.aload_n 0, 1) := by decide +kernel
theorem dX3_init_5 : decode cX3_init 5 = .ok (.bipush 9, 2) := by decide +kernel
theorem dX3_init_7 : decode cX3_init 7 = .ok (.anewarray 9, 3) := by decide +kernel
theorem dX3_init_10 : decode cX3_init 10 = .ok (.putfield 11, 3) := by decide +kernel
theorem dX3_init_13 : decode cX3_init 13 = .ok (.aload_n 0, 1) := by decide +kernel
theorem dX3_init_14 : decode cX3_init 14 = .ok (.iconst 0, 1) := by decide +kernel
theorem dX3_init_15 : decode cX3_init 15 = .ok (.putfield 17, 3) := by decide +kernel
theorem dX3_init_18 : decode cX3_init 18 = .ok (.aload_n 0, 1) := by decide +kernel
theorem dX3_init_19 : decode cX3_init 19 = .ok (.iconst 0, 1) := by decide +kernel
theorem dX3_init_20 : decode cX3_init 20 = .ok (.putfield 21, 3) := by decide +kernel
theorem dX3_init_23 : decode cX3_init 23 = .ok (.iconst 0, 1) := by decide +kernel
theorem dX3_init_24 : decode cX3_init 24 = .ok (.istore_n 1, 1) := by decide +kernel
theorem dX3_init_25 : decode cX3_init 25 = .ok (.iload_n 1, 1) := by decide +kernel
theorem dX3_init_26 : decode cX3_init 26 = .ok (.bipush 9, 2) := by decide +kernel
theorem dX3_init_28 : decode cX3_init 28 = .ok (.if_icmp .ge 22, 3) := by decide +kernel
theorem dX3_init_31 : decode cX3_init 31 = .ok (.aload_n 0, 1) := by decide +kernel
theorem dX3_init_32 : decode cX3_init 32 = .ok (.getfield 11, 3) := by decide +kernel
theorem dX3_init_35 : decode cX3_init 35 = .ok (.iload_n 1, 1) := by decide +kernel
theorem dX3_init_36 : decode cX3_init 36 = .ok (.new 9, 3) := by decide +kernel
theorem dX3_init_39 : decode cX3_init 39 = .ok (.dup, 1) := by decide +kernel
theorem dX3_init_40 : decode cX3_init 40 = .ok (.invokespecial 24, 3) := by decide +kernel
theorem dX3_init_43 : decode cX3_init 43 = .ok (.aastore, 1) := by decide +kernel
theorem dX3_init_44 : decode cX3_init 44 = .ok (.iinc 1 1, 3) := by decide +kernel
theorem dX3_init_47 : decode cX3_init 47 = .ok (.goto (-22), 3) := by decide +kernel
theorem dX3_init_50 : decode cX3_init 50 = .ok (.return_, 1) := by decide +kernel
theorem dX3_keep_0 : decode cX3_keep 0 = .ok (.aload_n 0, 1) := by decide +kernel
theorem dX3_keep_1 : decode cX3_keep 1 = .ok (.getfield 11, 3) := by decide +kernel
theorem dX3_keep_4 : decode cX3_keep 4 = .ok (.aload_n 0, 1) := by decide +kernel
theorem dX3_keep_5 : decode cX3_keep 5 = .ok (.getfield 17, 3) := by decide +kernel
theorem dX3_keep_8 : decode cX3_keep 8 = .ok (.aaload, 1) := by decide +kernel
theorem dX3_keep_9 : decode cX3_keep 9 = .ok (.aload_n 1, 1) := by decide +kernel
theorem dX3_keep_10 : decode cX3_keep 10 = .ok (.invokevirtual 25, 3) := by decide +kernel
theorem dX3_keep_13 : decode cX3_keep 13 = .ok (.return_, 1) := by decide +kernel
theorem dX3_confirm_0 : decode cX3_confirm 0 = .ok (.aload_n 0, 1) := by decide +kernel
theorem dX3_confirm_1 : decode cX3_confirm 1 = .ok (.aload_n 0, 1) := by decide +kernel
theorem dX3_confirm_2 : decode cX3_confirm 2 = .ok (.getfield 17, 3) := by decide +kernel
theorem dX3_confirm_5 : decode cX3_confirm 5 = .ok (.iconst 1, 1) := by decide +kernel
theorem dX3_confirm_6 : decode cX3_confirm 6 = .ok (.iadd, 1) := by decide +kernel
theorem dX3_confirm_7 : decode cX3_confirm 7 = .ok (.bipush 9, 2) := by decide +kernel
theorem dX3_confirm_9 : decode cX3_confirm 9 = .ok (.irem, 1) := by decide +kernel
theorem dX3_confirm_10 : decode cX3_confirm 10 = .ok (.putfield 17, 3) := by decide +kernel
theorem dX3_confirm_13 : decode cX3_confirm 13 = .ok (.aload_n 0, 1) := by decide +kernel
theorem dX3_confirm_14 : decode cX3_confirm 14 = .ok (.aload_n 0, 1) := by decide +kernel
theorem dX3_confirm_15 : decode cX3_confirm 15 = .ok (.getfield 21, 3) := by decide +kernel
theorem dX3_confirm_18 : decode cX3_confirm 18 = .ok (.iconst 1, 1) := by decide +kernel
theorem dX3_confirm_19 : decode cX3_confirm 19 = .ok (.iadd, 1) := by decide +kernel
theorem dX3_confirm_20 : decode cX3_confirm 20 = .ok (.bipush 8, 2) := by decide +kernel
theorem dX3_confirm_22 : decode cX3_confirm 22 = .ok (.invokestatic 29, 3) := by decide +kernel
theorem dX3_confirm_25 : decode cX3_confirm 25 = .ok (.putfield 21, 3) := by decide +kernel
theorem dX3_confirm_28 : decode cX3_confirm 28 = .ok (.return_, 1) := by decide +kernel
theorem dX3_revert_0 : decode cX3_revert 0 = .ok (.aload_n 1, 1) := by decide +kernel
theorem dX3_revert_1 : decode cX3_revert 1 = .ok (.aload_n 0, 1) := by decide +kernel
theorem dX3_revert_2 : decode cX3_revert 2 = .ok (.getfield 11, 3) := by decide +kernel
theorem dX3_revert_5 : decode cX3_revert 5 = .ok (.aload_n 0, 1) := by decide +kernel
theorem dX3_revert_6 : decode cX3_revert 6 = .ok (.getfield 17, 3) := by decide +kernel
theorem dX3_revert_9 : decode cX3_revert 9 = .ok (.aaload, 1) := by decide +kernel
theorem dX3_revert_10 : decode cX3_revert 10 = .ok (.invokevirtual 25, 3) := by decide +kernel
theorem dX3_revert_13 : decode cX3_revert 13 = .ok (.return_, 1) := by decide +kernel
theorem dX3_stepBack_0 : decode cX3_stepBack 0 = .ok (.aload_n 0, 1) := by decide +kernel
theorem dX3_stepBack_1 : decode cX3_stepBack 1 = .ok (.aload_n 0, 1) := by decide +kernel
theorem dX3_stepBack_2 : decode cX3_stepBack 2 = .ok (.getfield 17, 3) := by decide +kernel
theorem dX3_stepBack_5 : decode cX3_stepBack 5 = .ok (.bipush 8, 2) := by decide +kernel
theorem dX3_stepBack_7 : decode cX3_stepBack 7 = .ok (.iadd, 1) := by decide +kernel
theorem dX3_stepBack_8 : decode cX3_stepBack 8 = .ok (.bipush 9, 2) := by decide +kernel
theorem dX3_stepBack_10 : decode cX3_stepBack 10 = .ok (.irem, 1) := by decide +kernel
theorem dX3_stepBack_11 : decode cX3_stepBack 11 = .ok (.putfield 17, 3) := by decide +kernel
theorem dX3_stepBack_14 : decode cX3_stepBack 14 = .ok (.aload_n 1, 1) := by decide +kernel
theorem dX3_stepBack_15 : decode cX3_stepBack 15 = .ok (.aload_n 0, 1) := by decide +kernel
theorem dX3_stepBack_16 : decode cX3_stepBack 16 = .ok (.getfield 11, 3) := by decide +kernel
theorem dX3_stepBack_19 : decode cX3_stepBack 19 = .ok (.aload_n 0, 1) := by decide +kernel
theorem dX3_stepBack_20 : decode cX3_stepBack 20 = .ok (.getfield 17, 3) := by decide +kernel
theorem dX3_stepBack_23 : decode cX3_stepBack 23 = .ok (.aaload, 1) := by decide +kernel
theorem dX3_stepBack_24 : decode cX3_stepBack 24 = .ok (.invokevirtual 25, 3) := by decide +kernel
theorem dX3_stepBack_27 : decode cX3_stepBack 27 = .ok (.aload_n 0, 1) := by decide +kernel
theorem dX3_stepBack_28 : decode cX3_stepBack 28 = .ok (.dup, 1) := by decide +kernel
theorem dX3_stepBack_29 : decode cX3_stepBack 29 = .ok (.getfield 21, 3) := by decide +kernel
theorem dX3_stepBack_32 : decode cX3_stepBack 32 = .ok (.iconst 1, 1) := by decide +kernel
theorem dX3_stepBack_33 : decode cX3_stepBack 33 = .ok (.isub, 1) := by decide +kernel
theorem dX3_stepBack_34 : decode cX3_stepBack 34 = .ok (.putfield 21, 3) := by decide +kernel
theorem dX3_stepBack_37 : decode cX3_stepBack 37 = .ok (.aload_n 0, 1) := by decide +kernel
theorem dX3_stepBack_38 : decode cX3_stepBack 38 = .ok (.getfield 21, 3) := by decide +kernel
theorem dX3_stepBack_41 : decode cX3_stepBack 41 = .ok (.ireturn, 1) := by decide +kernel
theorem dX3_forget_0 : decode cX3_forget 0 = .ok (.aload_n 0, 1) := by decide +kernel
theorem dX3_forget_1 : decode cX3_forget 1 = .ok (.iconst 0, 1) := by decide +kernel
theorem dX3_forget_2 : decode cX3_forget 2 = .ok (.putfield 21, 3) := by decide +kernel
theorem dX3_forget_5 : decode cX3_forget 5 = .ok (.return_, 1) := by decide +kernel
theorem dX4_init_0 : decode cX4_init 0 = .ok (.aload_n 0, 1) := by decide +kernel
theorem dX4_init_1 : decode cX4_init 1 = .ok (.invokespecial 3, 3) := by decide +kernel
theorem dX4_init_4 : decode cX4_init 4 = .ok (.aload_n 0, 1) := by decide +kernel
theorem dX4_init_5 : decode cX4_init 5 = .ok (.iconst 0, 1) := by decide +kernel
theorem dX4_init_6 : decode cX4_init 6 = .ok (.putfield 9, 3) := by decide +kernel
theorem dX4_init_9 : decode cX4_init 9 = .ok (.aload_n 0, 1) := by decide +kernel
theorem dX4_init_10 : decode cX4_init 10 = .ok (.iconst 0, 1) := by decide +kernel
theorem dX4_init_11 : decode cX4_init 11 = .ok (.putfield 15, 3) := by decide +kernel
theorem dX4_init_14 : decode cX4_init 14 = .ok (.aload_n 0, 1) := by decide +kernel
theorem dX4_init_15 : decode cX4_init 15 = .ok (.iconst 0, 1) := by decide +kernel
theorem dX4_init_16 : decode cX4_init 16 = .ok (.putfield 18, 3) := by decide +kernel
theorem dX4_init_19 : decode cX4_init 19 = .ok (.aload_n 0, 1) := by decide +kernel
theorem dX4_init_20 : decode cX4_init 20 = .ok (.iconst 0, 1) := by decide +kernel
theorem dX4_init_21 : decode cX4_init 21 = .ok (.putfield 21, 3) := by decide +kernel
theorem dX4_init_24 : decode cX4_init 24 = .ok (.aload_n 0, 1) := by decide +kernel
theorem dX4_init_25 : decode cX4_init 25 = .ok (.iconst 0, 1) := by decide +kernel
theorem dX4_init_26 : decode cX4_init 26 = .ok (.putfield 24, 3) := by decide +kernel
theorem dX4_init_29 : decode cX4_init 29 = .ok (.aload_n 0, 1) := by decide +kernel
theorem dX4_init_30 : decode cX4_init 30 = .ok (.iconst 0, 1) := by decide +kernel
theorem dX4_init_31 : decode cX4_init 31 = .ok (.putfield 27, 3) := by decide +kernel
theorem dX4_init_34 : decode cX4_init 34 = .ok (.aload_n 0, 1) := by decide +kernel
theorem dX4_init_35 : decode cX4_init 35 = .ok (.iconst 0, 1) := by decide +kernel
theorem dX4_init_36 : decode cX4_init 36 = .ok (.putfield 30, 3) := by decide +kernel
theorem dX4_init_39 : decode cX4_init 39 = .ok (.aload_n 0, 1) := by decide +kernel
theorem dX4_init_40 : decode cX4_init 40 = .ok (.bipush 14, 2) := by decide +kernel
theorem dX4_init_42 : decode cX4_init 42 = .ok (.newarray .int, 2) := by decide +kernel
theorem dX4_init_44 : decode cX4_init 44 = .ok (.putfield 33, 3) := by decide +kernel
theorem dX4_init_47 : decode cX4_init 47 = .ok (.aload_n 0, 1) := by decide +kernel
theorem dX4_init_48 : decode cX4_init 48 = .ok (.bipush 14, 2) := by decide +kernel
theorem dX4_init_50 : decode cX4_init 50 = .ok (.newarray .int, 2) := by decide +kernel
theorem dX4_init_52 : decode cX4_init 52 = .ok (.putfield 37, 3) := by decide +kernel
theorem dX4_init_55 : decode cX4_init 55 = .ok (.aload_n 0, 1) := by decide +kernel
theorem dX4_init_56 : decode cX4_init 56 = .ok (.bipush 6, 2) := by decide +kernel
theorem dX4_init_58 : decode cX4_init 58 = .ok (.newarray .int, 2) := by decide +kernel
theorem dX4_init_60 : decode cX4_init 60 = .ok (.putfield 40, 3) := by decide +kernel
theorem dX4_init_63 : decode cX4_init 63 = .ok (.aload_n 0, 1) := by decide +kernel
theorem dX4_init_64 : decode cX4_init 64 = .ok (.bipush 6, 2) := by decide +kernel
theorem dX4_init_66 : decode cX4_init 66 = .ok (.newarray .int, 2) := by decide +kernel
theorem dX4_init_68 : decode cX4_init 68 = .ok (.putfield 43, 3) := by decide +kernel
theorem dX4_init_71 : decode cX4_init 71 = .ok (.aload_n 0, 1) := by decide +kernel
theorem dX4_init_72 : decode cX4_init 72 = .ok (.bipush 6, 2) := by decide +kernel
theorem dX4_init_74 : decode cX4_init 74 = .ok (.newarray .int, 2) := by decide +kernel
theorem dX4_init_76 : decode cX4_init 76 = .ok (.putfield 46, 3) := by decide +kernel
theorem dX4_init_79 : decode cX4_init 79 = .ok (.aload_n 0, 1) := by decide +kernel
theorem dX4_init_80 : decode cX4_init 80 = .ok (.bipush 6, 2) := by decide +kernel
theorem dX4_init_82 : decode cX4_init 82 = .ok (.newarray .int, 2) := by decide +kernel
theorem dX4_init_84 : decode cX4_init 84 = .ok (.putfield 49, 3) := by decide +kernel
theorem dX4_init_87 : decode cX4_init 87 = .ok (.aload_n 0, 1) := by decide +kernel
theorem dX4_init_88 : decode cX4_init 88 = .ok (.bipush 6, 2) := by decide +kernel
theorem dX4_init_90 : decode cX4_init 90 = .ok (.newarray .int, 2) := by decide +kernel
theorem dX4_init_92 : decode cX4_init 92 = .ok (.putfield 52, 3) := by decide +kernel
theorem dX4_init_95 : decode cX4_init 95 = .ok (.aload_n 0, 1) := by decide +kernel
theorem dX4_init_96 : decode cX4_init 96 = .ok (.bipush 6, 2) := by decide +kernel
theorem dX4_init_98 : decode cX4_init 98 = .ok (.newarray .int, 2) := by decide +kernel
theorem dX4_init_100 : decode cX4_init 100 = .ok (.putfield 55, 3) := by decide +kernel
theorem dX4_init_103 : decode cX4_init 103 = .ok (.return_, 1) := by decide +kernel
theorem dX4_copyFrom_0 : decode cX4_copyFrom 0 = .ok (.aload_n 0, 1) := by decide +kernel
theorem dX4_copyFrom_1 : decode cX4_copyFrom 1 = .ok (.aload_n 1, 1) := by decide +kernel
theorem dX4_copyFrom_2 : decode cX4_copyFrom 2 = .ok (.getfield 9, 3) := by decide +kernel
theorem dX4_copyFrom_5 : decode cX4_copyFrom 5 = .ok (.putfield 9, 3) := by decide +kernel
theorem dX4_copyFrom_8 : decode cX4_copyFrom 8 = .ok (.aload_n 0, 1) := by decide +kernel
theorem dX4_copyFrom_9 : decode cX4_copyFrom 9 = .ok (.aload_n 1, 1) := by decide +kernel
theorem dX4_copyFrom_10 : decode cX4_copyFrom 10 = .ok (.getfield 15, 3) := by decide +kernel
theorem dX4_copyFrom_13 : decode cX4_copyFrom 13 = .ok (.putfield 15, 3) := by decide +kernel
theorem dX4_copyFrom_16 : decode cX4_copyFrom 16 = .ok (.aload_n 0, 1) := by decide +kernel
theorem dX4_copyFrom_17 : decode cX4_copyFrom 17 = .ok (.aload_n 1, 1) := by decide +kernel
theorem dX4_copyFrom_18 : decode cX4_copyFrom 18 = .ok (.getfield 18, 3) := by decide +kernel
theorem dX4_copyFrom_21 : decode cX4_copyFrom 21 = .ok (.putfield 18, 3) := by decide +kernel
theorem dX4_copyFrom_24 : decode cX4_copyFrom 24 = .ok (.aload_n 0, 1) := by decide +kernel
theorem dX4_copyFrom_25 : decode cX4_copyFrom 25 = .ok (.aload_n 1, 1) := by decide +kernel
theorem dX4_copyFrom_26 : decode cX4_copyFrom 26 = .ok (.getfield 21, 3) := by decide +kernel
theorem dX4_copyFrom_29 : decode cX4_copyFrom 29 = .ok (.putfield 21, 3) := by decide +kernel
theorem dX4_copyFrom_32 : decode cX4_copyFrom 32 = .ok (.aload_n 0, 1) := by decide +kernel
theorem dX4_copyFrom_33 : decode cX4_copyFrom 33 = .ok (.aload_n 1, 1) := by decide +kernel
theorem dX4_copyFrom_34 : decode cX4_copyFrom 34 = .ok (.getfield 24, 3) := by decide +kernel
theorem dX4_copyFrom_37 : decode cX4_copyFrom 37 = .ok (.putfield 24, 3) := by decide +kernel
theorem dX4_copyFrom_40 : decode cX4_copyFrom 40 = .ok (.aload_n 0, 1) := by decide +kernel
theorem dX4_copyFrom_41 : decode cX4_copyFrom 41 = .ok (.aload_n 1, 1) := by decide +kernel
theorem dX4_copyFrom_42 : decode cX4_copyFrom 42 = .ok (.getfield 27, 3) := by decide +kernel
theorem dX4_copyFrom_45 : decode cX4_copyFrom 45 = .ok (.putfield 27, 3) := by decide +kernel
theorem dX4_copyFrom_48 : decode cX4_copyFrom 48 = .ok (.aload_n 0, 1) := by decide +kernel
theorem dX4_copyFrom_49 : decode cX4_copyFrom 49 = .ok (.aload_n 1, 1) := by decide +kernel
theorem dX4_copyFrom_50 : decode cX4_copyFrom 50 = .ok (.getfield 30, 3) := by decide +kernel
theorem dX4_copyFrom_53 : decode cX4_copyFrom 53 = .ok (.putfield 30, 3) := by decide +kernel
theorem dX4_copyFrom_56 : decode cX4_copyFrom 56 = .ok (.aload_n 1, 1) := by decide +kernel
theorem dX4_copyFrom_57 : decode cX4_copyFrom 57 = .ok (.getfield 33, 3) := by decide +kernel
theorem dX4_copyFrom_60 : decode cX4_copyFrom 60 = .ok (.iconst 0, 1) := by decide +kernel
theorem dX4_copyFrom_61 : decode cX4_copyFrom 61 = .ok (.aload_n 0, 1) := by decide +kernel
theorem dX4_copyFrom_62 : decode cX4_copyFrom 62 = .ok (.getfield 33, 3) := by decide +kernel
theorem dX4_copyFrom_65 : decode cX4_copyFrom 65 = .ok (.iconst 0, 1) := by decide +kernel
theorem dX4_copyFrom_66 : decode cX4_copyFrom 66 = .ok (.bipush 14, 2) := by decide +kernel
theorem dX4_copyFrom_68 : decode cX4_copyFrom 68 = .ok (.invokestatic 58, 3) := by decide +kernel
theorem dX4_copyFrom_71 : decode cX4_copyFrom 71 = .ok (.aload_n 1, 1) := by decide +kernel
theorem dX4_copyFrom_72 : decode cX4_copyFrom 72 = .ok (.getfield 37, 3) := by decide +kernel
theorem dX4_copyFrom_75 : decode cX4_copyFrom 75 = .ok (.iconst 0, 1) := by decide +kernel
theorem dX4_copyFrom_76 : decode cX4_copyFrom 76 = .ok (.aload_n 0, 1) := by decide +kernel
theorem dX4_copyFrom_77 : decode cX4_copyFrom 77 = .ok (.getfield 37, 3) := by decide +kernel
theorem dX4_copyFrom_80 : decode cX4_copyFrom 80 = .ok (.iconst 0, 1) := by decide +kernel
theorem dX4_copyFrom_81 : decode cX4_copyFrom 81 = .ok (.bipush 14, 2) := by decide +kernel
theorem dX4_copyFrom_83 : decode cX4_copyFrom 83 = .ok (.invokestatic 58, 3) := by decide +kernel
theorem dX4_copyFrom_86 : decode cX4_copyFrom 86 = .ok (.aload_n 1, 1) := by decide +kernel
theorem dX4_copyFrom_87 : decode cX4_copyFrom 87 = .ok (.getfield 40, 3) := by decide +kernel
theorem dX4_copyFrom_90 : decode cX4_copyFrom 90 = .ok (.iconst 0, 1) := by decide +kernel
theorem dX4_copyFrom_91 : decode cX4_copyFrom 91 = .ok (.aload_n 0, 1) := by decide +kernel
theorem dX4_copyFrom_92 : decode cX4_copyFrom 92 = .ok (.getfield 40, 3) := by decide +kernel
theorem dX4_copyFrom_95 : decode cX4_copyFrom 95 = .ok (.iconst 0, 1) := by decide +kernel
theorem dX4_copyFrom_96 : decode cX4_copyFrom 96 = .ok (.bipush 6, 2) := by decide +kernel
theorem dX4_copyFrom_98 : decode cX4_copyFrom 98 = .ok (.invokestatic 58, 3) := by decide +kernel
theorem dX4_copyFrom_101 : decode cX4_copyFrom 101 = .ok (.aload_n 1, 1) := by decide +kernel
theorem dX4_copyFrom_102 : decode cX4_copyFrom 102 = .ok (.getfield 43, 3) := by decide +kernel
theorem dX4_copyFrom_105 : decode cX4_copyFrom 105 = .ok (.iconst 0, 1) := by decide +kernel
theorem dX4_copyFrom_106 : decode cX4_copyFrom 106 = .ok (.aload_n 0, 1) := by decide +kernel
theorem dX4_copyFrom_107 : decode cX4_copyFrom 107 = .ok (.getfield 43, 3) := by decide +kernel
theorem dX4_copyFrom_110 : decode cX4_copyFrom 110 = .ok (.iconst 0, 1) := by decide +kernel
theorem dX4_copyFrom_111 : decode cX4_copyFrom 111 = .ok (.bipush 6, 2) := by decide +kernel
theorem dX4_copyFrom_113 : decode cX4_copyFrom 113 = .ok (.invokestatic 58, 3) := by decide +kernel
theorem dX4_copyFrom_116 : decode cX4_copyFrom 116 = .ok (.aload_n 1, 1) := by decide +kernel
theorem dX4_copyFrom_117 : decode cX4_copyFrom 117 = .ok (.getfield 46, 3) := by decide +kernel
theorem dX4_copyFrom_120 : decode cX4_copyFrom 120 = .ok (.iconst 0, 1) := by decide +kernel
theorem dX4_copyFrom_121 : decode cX4_copyFrom 121 = .ok (.aload_n 0, 1) := by decide +kernel
theorem dX4_copyFrom_122 : decode cX4_copyFrom 122 = .ok (.getfield 46, 3) := by decide +kernel
theorem dX4_copyFrom_125 : decode cX4_copyFrom 125 = .ok (.iconst 0, 1) := by decide +kernel
theorem dX4_copyFrom_126 : decode cX4_copyFrom 126 = .ok (.bipush 6, 2) := by decide +kernel
theorem dX4_copyFrom_128 : decode cX4_copyFrom 128 = .ok (.invokestatic 58, 3) := by decide +kernel
theorem dX4_copyFrom_131 : decode cX4_copyFrom 131 = .ok (.aload_n 1, 1) := by decide +kernel
theorem dX4_copyFrom_132 : decode cX4_copyFrom 132 = .ok (.getfield 49, 3) := by decide +kernel
theorem dX4_copyFrom_135 : decode cX4_copyFrom 135 = .ok (.iconst 0, 1) := by decide +kernel
theorem dX4_copyFrom_136 : decode cX4_copyFrom 136 = .ok (.aload_n 0, 1) := by decide +kernel
theorem dX4_copyFrom_137 : decode cX4_copyFrom 137 = .ok (.getfield 49, 3) := by decide +kernel
theorem dX4_copyFrom_140 : decode cX4_copyFrom 140 = .ok (.iconst 0, 1) := by decide +kernel
theorem dX4_copyFrom_141 : decode cX4_copyFrom 141 = .ok (.bipush 6, 2) := by decide +kernel
theorem dX4_copyFrom_143 : decode cX4_copyFrom 143 = .ok (.invokestatic 58, 3) := by decide +kernel
theorem dX4_copyFrom_146 : decode cX4_copyFrom 146 = .ok (.aload_n 1, 1) := by decide +kernel
theorem dX4_copyFrom_147 : decode cX4_copyFrom 147 = .ok (.getfield 52, 3) := by decide +kernel
theorem dX4_copyFrom_150 : decode cX4_copyFrom 150 = .ok (.iconst 0, 1) := by decide +kernel
theorem dX4_copyFrom_151 : decode cX4_copyFrom 151 = .ok (.aload_n 0, 1) := by decide +kernel
theorem dX4_copyFrom_152 : decode cX4_copyFrom 152 = .ok (.getfield 52, 3) := by decide +kernel
theorem dX4_copyFrom_155 : decode cX4_copyFrom 155 = .ok (.iconst 0, 1) := by decide +kernel
theorem dX4_copyFrom_156 : decode cX4_copyFrom 156 = .ok (.bipush 6, 2) := by decide +kernel
theorem dX4_copyFrom_158 : decode cX4_copyFrom 158 = .ok (.invokestatic 58, 3) := by decide +kernel
theorem dX4_copyFrom_161 : decode cX4_copyFrom 161 = .ok (.aload_n 1, 1) := by decide +kernel
theorem dX4_copyFrom_162 : decode cX4_copyFrom 162 = .ok (.getfield 55, 3) := by decide +kernel
theorem dX4_copyFrom_165 : decode cX4_copyFrom 165 = .ok (.iconst 0, 1) := by decide +kernel
theorem dX4_copyFrom_166 : decode cX4_copyFrom 166 = .ok (.aload_n 0, 1) := by decide +kernel
theorem dX4_copyFrom_167 : decode cX4_copyFrom 167 = .ok (.getfield 55, 3) := by decide +kernel
theorem dX4_copyFrom_170 : decode cX4_copyFrom 170 = .ok (.iconst 0, 1) := by decide +kernel
theorem dX4_copyFrom_171 : decode cX4_copyFrom 171 = .ok (.bipush 6, 2) := by decide +kernel
theorem dX4_copyFrom_173 : decode cX4_copyFrom 173 = .ok (.invokestatic 58, 3) := by decide +kernel
theorem dX4_copyFrom_176 : decode cX4_copyFrom 176 = .ok (.return_, 1) := by decide +kernel
theorem dX4_isBlock_0 : decode cX4_isBlock 0 = .ok (.iload_n 1, 1) := by decide +kernel
theorem dX4_isBlock_1 : decode cX4_isBlock 1 = .ok (.ifCond .lt 15, 3) := by decide +kernel
theorem dX4_isBlock_4 : decode cX4_isBlock 4 = .ok (.iload_n 1, 1) := by decide +kernel
theorem dX4_isBlock_5 : decode cX4_isBlock 5 = .ok (.aload_n 0, 1) := by decide +kernel
theorem dX4_isBlock_6 : decode cX4_isBlock 6 = .ok (.getfield 9, 3) := by decide +kernel
theorem dX4_isBlock_9 : decode cX4_isBlock 9 = .ok (.if_icmp .ge 7, 3) := by decide +kernel
theorem dX4_isBlock_12 : decode cX4_isBlock 12 = .ok (.iconst 1, 1) := by decide +kernel
theorem dX4_isBlock_13 : decode cX4_isBlock 13 = .ok (.goto 4, 3) := by decide +kernel
theorem dX4_isBlock_16 : decode cX4_isBlock 16 = .ok (.iconst 0, 1) := by decide +kernel
theorem dX4_isBlock_17 : decode cX4_isBlock 17 = .ok (.ireturn, 1) := by decide +kernel
theorem dX4_isTrain_0 : decode cX4_isTrain 0 = .ok (.iload_n 1, 1) := by decide +kernel
theorem dX4_isTrain_1 : decode cX4_isTrain 1 = .ok (.ifCond .lt 15, 3) := by decide +kernel
theorem dX4_isTrain_4 : decode cX4_isTrain 4 = .ok (.iload_n 1, 1) := by decide +kernel
theorem dX4_isTrain_5 : decode cX4_isTrain 5 = .ok (.aload_n 0, 1) := by decide +kernel
theorem dX4_isTrain_6 : decode cX4_isTrain 6 = .ok (.getfield 15, 3) := by decide +kernel
theorem dX4_isTrain_9 : decode cX4_isTrain 9 = .ok (.if_icmp .ge 7, 3) := by decide +kernel
theorem dX4_isTrain_12 : decode cX4_isTrain 12 = .ok (.iconst 1, 1) := by decide +kernel
theorem dX4_isTrain_13 : decode cX4_isTrain 13 = .ok (.goto 4, 3) := by decide +kernel
theorem dX4_isTrain_16 : decode cX4_isTrain 16 = .ok (.iconst 0, 1) := by decide +kernel
theorem dX4_isTrain_17 : decode cX4_isTrain 17 = .ok (.ireturn, 1) := by decide +kernel
theorem dX4_isJoined_0 : decode cX4_isJoined 0 = .ok (.aload_n 0, 1) := by decide +kernel
theorem dX4_isJoined_1 : decode cX4_isJoined 1 = .ok (.getfield 37, 3) := by decide +kernel
theorem dX4_isJoined_4 : decode cX4_isJoined 4 = .ok (.iload_n 1, 1) := by decide +kernel
theorem dX4_isJoined_5 : decode cX4_isJoined 5 = .ok (.iaload, 1) := by decide +kernel
theorem dX4_isJoined_6 : decode cX4_isJoined 6 = .ok (.iload_n 2, 1) := by decide +kernel
theorem dX4_isJoined_7 : decode cX4_isJoined 7 = .ok (.invokestatic 64, 3) := by decide +kernel
theorem dX4_isJoined_10 : decode cX4_isJoined 10 = .ok (.ireturn, 1) := by decide +kernel
theorem dX4_trainAt_0 : decode cX4_trainAt 0 = .ok (.iconst 0, 1) := by decide +kernel
theorem dX4_trainAt_1 : decode cX4_trainAt 1 = .ok (.istore_n 2, 1) := by decide +kernel
theorem dX4_trainAt_2 : decode cX4_trainAt 2 = .ok (.iload_n 2, 1) := by decide +kernel
theorem dX4_trainAt_3 : decode cX4_trainAt 3 = .ok (.aload_n 0, 1) := by decide +kernel
theorem dX4_trainAt_4 : decode cX4_trainAt 4 = .ok (.getfield 15, 3) := by decide +kernel
theorem dX4_trainAt_7 : decode cX4_trainAt 7 = .ok (.if_icmp .ge 21, 3) := by decide +kernel
theorem dX4_trainAt_10 : decode cX4_trainAt 10 = .ok (.aload_n 0, 1) := by decide +kernel
theorem dX4_trainAt_11 : decode cX4_trainAt 11 = .ok (.getfield 40, 3) := by decide +kernel
theorem dX4_trainAt_14 : decode cX4_trainAt 14 = .ok (.iload_n 2, 1) := by decide +kernel
theorem dX4_trainAt_15 : decode cX4_trainAt 15 = .ok (.iaload, 1) := by decide +kernel
theorem dX4_trainAt_16 : decode cX4_trainAt 16 = .ok (.iload_n 1, 1) := by decide +kernel
theorem dX4_trainAt_17 : decode cX4_trainAt 17 = .ok (.if_icmp .ne 5, 3) := by decide +kernel
theorem dX4_trainAt_20 : decode cX4_trainAt 20 = .ok (.iload_n 2, 1) := by decide +kernel
theorem dX4_trainAt_21 : decode cX4_trainAt 21 = .ok (.ireturn, 1) := by decide +kernel
theorem dX4_trainAt_22 : decode cX4_trainAt 22 = .ok (.iinc 2 1, 3) := by decide +kernel
theorem dX4_trainAt_25 : decode cX4_trainAt 25 = .ok (.goto (-23), 3) := by decide +kernel
theorem dX4_trainAt_28 : decode cX4_trainAt 28 = .ok (.iconst (-1), 1) := by decide +kernel
theorem dX4_trainAt_29 : decode cX4_trainAt 29 = .ok (.ireturn, 1) := by decide +kernel
theorem dX4_holderOf_0 : decode cX4_holderOf 0 = .ok (.iconst 0, 1) := by decide +kernel
theorem dX4_holderOf_1 : decode cX4_holderOf 1 = .ok (.istore_n 2, 1) := by decide +kernel
theorem dX4_holderOf_2 : decode cX4_holderOf 2 = .ok (.iload_n 2, 1) := by decide +kernel
theorem dX4_holderOf_3 : decode cX4_holderOf 3 = .ok (.aload_n 0, 1) := by decide +kernel
theorem dX4_holderOf_4 : decode cX4_holderOf 4 = .ok (.getfield 15, 3) := by decide +kernel
theorem dX4_holderOf_7 : decode cX4_holderOf 7 = .ok (.if_icmp .ge 21, 3) := by decide +kernel
theorem dX4_holderOf_10 : decode cX4_holderOf 10 = .ok (.aload_n 0, 1) := by decide +kernel
theorem dX4_holderOf_11 : decode cX4_holderOf 11 = .ok (.getfield 52, 3) := by decide +kernel
theorem dX4_holderOf_14 : decode cX4_holderOf 14 = .ok (.iload_n 2, 1) := by decide +kernel
theorem dX4_holderOf_15 : decode cX4_holderOf 15 = .ok (.iaload, 1) := by decide +kernel
theorem dX4_holderOf_16 : decode cX4_holderOf 16 = .ok (.iload_n 1, 1) := by decide +kernel
theorem dX4_holderOf_17 : decode cX4_holderOf 17 = .ok (.if_icmp .ne 5, 3) := by decide +kernel
theorem dX4_holderOf_20 : decode cX4_holderOf 20 = .ok (.iload_n 2, 1) := by decide +kernel
theorem dX4_holderOf_21 : decode cX4_holderOf 21 = .ok (.ireturn, 1) := by decide +kernel
theorem dX4_holderOf_22 : decode cX4_holderOf 22 = .ok (.iinc 2 1, 3) := by decide +kernel
theorem dX4_holderOf_25 : decode cX4_holderOf 25 = .ok (.goto (-23), 3) := by decide +kernel
theorem dX4_holderOf_28 : decode cX4_holderOf 28 = .ok (.iconst (-1), 1) := by decide +kernel
theorem dX4_holderOf_29 : decode cX4_holderOf 29 = .ok (.ireturn, 1) := by decide +kernel
theorem dX4_signalOf_0 : decode cX4_signalOf 0 = .ok (.aload_n 0, 1) := by decide +kernel
theorem dX4_signalOf_1 : decode cX4_signalOf 1 = .ok (.getfield 27, 3) := by decide +kernel
theorem dX4_signalOf_4 : decode cX4_signalOf 4 = .ok (.iload_n 1, 1) := by decide +kernel
theorem dX4_signalOf_5 : decode cX4_signalOf 5 = .ok (.invokestatic 64, 3) := by decide +kernel
theorem dX4_signalOf_8 : decode cX4_signalOf 8 = .ok (.ifCond .eq 6, 3) := by decide +kernel
theorem dX4_signalOf_11 : decode cX4_signalOf 11 = .ok (.bipush 99, 2) := by decide +kernel
theorem dX4_signalOf_13 : decode cX4_signalOf 13 = .ok (.ireturn, 1) := by decide +kernel
theorem dX4_signalOf_14 : decode cX4_signalOf 14 = .ok (.aload_n 0, 1) := by decide +kernel
theorem dX4_signalOf_15 : decode cX4_signalOf 15 = .ok (.iload_n 1, 1) := by decide +kernel
theorem dX4_signalOf_16 : decode cX4_signalOf 16 = .ok (.invokevirtual 68, 3) := by decide +kernel
theorem dX4_signalOf_19 : decode cX4_signalOf 19 = .ok (.iconst (-1), 1) := by decide +kernel
theorem dX4_signalOf_20 : decode cX4_signalOf 20 = .ok (.if_icmp .eq 6, 3) := by decide +kernel
theorem dX4_signalOf_23 : decode cX4_signalOf 23 = .ok (.bipush 111, 2) := by decide +kernel
theorem dX4_signalOf_25 : decode cX4_signalOf 25 = .ok (.ireturn, 1) := by decide +kernel
theorem dX4_signalOf_26 : decode cX4_signalOf 26 = .ok (.aload_n 0, 1) := by decide +kernel
theorem dX4_signalOf_27 : decode cX4_signalOf 27 = .ok (.iload_n 1, 1) := by decide +kernel
theorem dX4_signalOf_28 : decode cX4_signalOf 28 = .ok (.invokevirtual 72, 3) := by decide +kernel
theorem dX4_signalOf_31 : decode cX4_signalOf 31 = .ok (.iconst (-1), 1) := by decide +kernel
theorem dX4_signalOf_32 : decode cX4_signalOf 32 = .ok (.if_icmp .eq 8, 3) := by decide +kernel
theorem dX4_signalOf_35 : decode cX4_signalOf 35 = .ok (.bipush 114, 2) := by decide +kernel
theorem dX4_signalOf_37 : decode cX4_signalOf 37 = .ok (.goto 5, 3) := by decide +kernel
theorem dX4_signalOf_40 : decode cX4_signalOf 40 = .ok (.bipush 102, 2) := by decide +kernel
theorem dX4_signalOf_42 : decode cX4_signalOf 42 = .ok (.ireturn, 1) := by decide +kernel
theorem dX4_trainAtRank_0 : decode cX4_trainAtRank 0 = .ok (.iconst 0, 1) := by decide +kernel
theorem dX4_trainAtRank_1 : decode cX4_trainAtRank 1 = .ok (.istore_n 2, 1) := by decide +kernel
theorem dX4_trainAtRank_2 : decode cX4_trainAtRank 2 = .ok (.bipush 9, 2) := by decide +kernel
theorem dX4_trainAtRank_4 : decode cX4_trainAtRank 4 = .ok (.istore_n 3, 1) := by decide +kernel
theorem dX4_trainAtRank_5 : decode cX4_trainAtRank 5 = .ok (.iload_n 3, 1) := by decide +kernel
theorem dX4_trainAtRank_6 : decode cX4_trainAtRank 6 = .ok (.iconst 1, 1) := by decide +kernel
theorem dX4_trainAtRank_7 : decode cX4_trainAtRank 7 = .ok (.if_icmp .lt 49, 3) := by decide +kernel
theorem dX4_trainAtRank_10 : decode cX4_trainAtRank 10 = .ok (.iconst 0, 1) := by decide +kernel
theorem dX4_trainAtRank_11 : decode cX4_trainAtRank 11 = .ok (.istore 4, 2) := by decide +kernel
theorem dX4_trainAtRank_13 : decode cX4_trainAtRank 13 = .ok (.iload 4, 2) := by decide +kernel
theorem dX4_trainAtRank_15 : decode cX4_trainAtRank 15 = .ok (.aload_n 0, 1) := by decide +kernel
theorem dX4_trainAtRank_16 : decode cX4_trainAtRank 16 = .ok (.getfield 15, 3) := by decide +kernel
theorem dX4_trainAtRank_19 : decode cX4_trainAtRank 19 = .ok (.if_icmp .ge 31, 3) := by decide +kernel
theorem dX4_trainAtRank_22 : decode cX4_trainAtRank 22 = .ok (.aload_n 0, 1) := by decide +kernel
theorem dX4_trainAtRank_23 : decode cX4_trainAtRank 23 = .ok (.getfield 43, 3) := by decide +kernel
theorem dX4_trainAtRank_26 : decode cX4_trainAtRank 26 = .ok (.iload 4, 2) := by decide +kernel
theorem dX4_trainAtRank_28 : decode cX4_trainAtRank 28 = .ok (.iaload, 1) := by decide +kernel
theorem dX4_trainAtRank_29 : decode cX4_trainAtRank 29 = .ok (.iload_n 3, 1) := by decide +kernel
theorem dX4_trainAtRank_30 : decode cX4_trainAtRank 30 = .ok (.if_icmp .ne 14, 3) := by decide +kernel
theorem dX4_trainAtRank_33 : decode cX4_trainAtRank 33 = .ok (.iload_n 2, 1) := by decide +kernel
theorem dX4_trainAtRank_34 : decode cX4_trainAtRank 34 = .ok (.iload_n 1, 1) := by decide +kernel
theorem dX4_trainAtRank_35 : decode cX4_trainAtRank 35 = .ok (.if_icmp .ne 6, 3) := by decide +kernel
theorem dX4_trainAtRank_38 : decode cX4_trainAtRank 38 = .ok (.iload 4, 2) := by decide +kernel
theorem dX4_trainAtRank_40 : decode cX4_trainAtRank 40 = .ok (.ireturn, 1) := by decide +kernel
theorem dX4_trainAtRank_41 : decode cX4_trainAtRank 41 = .ok (.iinc 2 1, 3) := by decide +kernel
theorem dX4_trainAtRank_44 : decode cX4_trainAtRank 44 = .ok (.iinc 4 1, 3) := by decide +kernel
theorem dX4_trainAtRank_47 : decode cX4_trainAtRank 47 = .ok (.goto (-34), 3) := by decide +kernel
theorem dX4_trainAtRank_50 : decode cX4_trainAtRank 50 = .ok (.iinc 3 (-1), 3) := by decide +kernel
theorem dX4_trainAtRank_53 : decode cX4_trainAtRank 53 = .ok (.goto (-48), 3) := by decide +kernel
theorem dX4_trainAtRank_56 : decode cX4_trainAtRank 56 = .ok (.iconst (-1), 1) := by decide +kernel
theorem dX4_trainAtRank_57 : decode cX4_trainAtRank 57 = .ok (.ireturn, 1) := by decide +kernel
theorem dX4_allWaits_0 : decode cX4_allWaits 0 = .ok (.iconst 0, 1) := by decide +kernel
theorem dX4_allWaits_1 : decode cX4_allWaits 1 = .ok (.istore_n 1, 1) := by decide +kernel
theorem dX4_allWaits_2 : decode cX4_allWaits 2 = .ok (.iconst 0, 1) := by decide +kernel
theorem dX4_allWaits_3 : decode cX4_allWaits 3 = .ok (.istore_n 2, 1) := by decide +kernel
theorem dX4_allWaits_4 : decode cX4_allWaits 4 = .ok (.iload_n 2, 1) := by decide +kernel
theorem dX4_allWaits_5 : decode cX4_allWaits 5 = .ok (.aload_n 0, 1) := by decide +kernel
theorem dX4_allWaits_6 : decode cX4_allWaits 6 = .ok (.getfield 15, 3) := by decide +kernel
theorem dX4_allWaits_9 : decode cX4_allWaits 9 = .ok (.if_icmp .ge 18, 3) := by decide +kernel
theorem dX4_allWaits_12 : decode cX4_allWaits 12 = .ok (.iload_n 1, 1) := by decide +kernel
theorem dX4_allWaits_13 : decode cX4_allWaits 13 = .ok (.aload_n 0, 1) := by decide +kernel
theorem dX4_allWaits_14 : decode cX4_allWaits 14 = .ok (.getfield 55, 3) := by decide +kernel
theorem dX4_allWaits_17 : decode cX4_allWaits 17 = .ok (.iload_n 2, 1) := by decide +kernel
theorem dX4_allWaits_18 : decode cX4_allWaits 18 = .ok (.iaload, 1) := by decide +kernel
theorem dX4_allWaits_19 : decode cX4_allWaits 19 = .ok (.iadd, 1) := by decide +kernel
theorem dX4_allWaits_20 : decode cX4_allWaits 20 = .ok (.istore_n 1, 1) := by decide +kernel
theorem dX4_allWaits_21 : decode cX4_allWaits 21 = .ok (.iinc 2 1, 3) := by decide +kernel
theorem dX4_allWaits_24 : decode cX4_allWaits 24 = .ok (.goto (-20), 3) := by decide +kernel
theorem dX4_allWaits_27 : decode cX4_allWaits 27 = .ok (.iload_n 1, 1) := by decide +kernel
theorem dX4_allWaits_28 : decode cX4_allWaits 28 = .ok (.ireturn, 1) := by decide +kernel
theorem dX4_placeBlock_0 : decode cX4_placeBlock 0 = .ok (.iload_n 1, 1) := by decide +kernel
theorem dX4_placeBlock_1 : decode cX4_placeBlock 1 = .ok (.iconst 1, 1) := by decide +kernel
theorem dX4_placeBlock_2 : decode cX4_placeBlock 2 = .ok (.if_icmp .lt 9, 3) := by decide +kernel
theorem dX4_placeBlock_5 : decode cX4_placeBlock 5 = .ok (.iload_n 1, 1) := by decide +kernel
theorem dX4_placeBlock_6 : decode cX4_placeBlock 6 = .ok (.bipush 9, 2) := by decide +kernel
theorem dX4_placeBlock_8 : decode cX4_placeBlock 8 = .ok (.if_icmp .le 6, 3) := by decide +kernel
theorem dX4_placeBlock_11 : decode cX4_placeBlock 11 = .ok (.bipush (-12), 2) := by decide +kernel
theorem dX4_placeBlock_13 : decode cX4_placeBlock 13 = .ok (.ireturn, 1) := by decide +kernel
theorem dX4_placeBlock_14 : decode cX4_placeBlock 14 = .ok (.aload_n 0, 1) := by decide +kernel
theorem dX4_placeBlock_15 : decode cX4_placeBlock 15 = .ok (.getfield 9, 3) := by decide +kernel
theorem dX4_placeBlock_18 : decode cX4_placeBlock 18 = .ok (.bipush 14, 2) := by decide +kernel
theorem dX4_placeBlock_20 : decode cX4_placeBlock 20 = .ok (.if_icmp .lt 6, 3) := by decide +kernel
theorem dX4_placeBlock_23 : decode cX4_placeBlock 23 = .ok (.bipush (-13), 2) := by decide +kernel
theorem dX4_placeBlock_25 : decode cX4_placeBlock 25 = .ok (.ireturn, 1) := by decide +kernel
theorem dX4_placeBlock_26 : decode cX4_placeBlock 26 = .ok (.aload_n 0, 1) := by decide +kernel
theorem dX4_placeBlock_27 : decode cX4_placeBlock 27 = .ok (.getfield 9, 3) := by decide +kernel
theorem dX4_placeBlock_30 : decode cX4_placeBlock 30 = .ok (.istore_n 3, 1) := by decide +kernel
theorem dX4_placeBlock_31 : decode cX4_placeBlock 31 = .ok (.aload_n 0, 1) := by decide +kernel
theorem dX4_placeBlock_32 : decode cX4_placeBlock 32 = .ok (.getfield 33, 3) := by decide +kernel
theorem dX4_placeBlock_35 : decode cX4_placeBlock 35 = .ok (.iload_n 3, 1) := by decide +kernel
theorem dX4_placeBlock_36 : decode cX4_placeBlock 36 = .ok (.iload_n 1, 1) := by decide +kernel
theorem dX4_placeBlock_37 : decode cX4_placeBlock 37 = .ok (.iastore, 1) := by decide +kernel
theorem dX4_placeBlock_38 : decode cX4_placeBlock 38 = .ok (.iload_n 2, 1) := by decide +kernel
theorem dX4_placeBlock_39 : decode cX4_placeBlock 39 = .ok (.ifCond .eq 15, 3) := by decide +kernel
theorem dX4_placeBlock_42 : decode cX4_placeBlock 42 = .ok (.aload_n 0, 1) := by decide +kernel
theorem dX4_placeBlock_43 : decode cX4_placeBlock 43 = .ok (.dup, 1) := by decide +kernel
theorem dX4_placeBlock_44 : decode cX4_placeBlock 44 = .ok (.getfield 24, 3) := by decide +kernel
theorem dX4_placeBlock_47 : decode cX4_placeBlock 47 = .ok (.iconst 1, 1) := by decide +kernel
theorem dX4_placeBlock_48 : decode cX4_placeBlock 48 = .ok (.iload_n 3, 1) := by decide +kernel
theorem dX4_placeBlock_49 : decode cX4_placeBlock 49 = .ok (.ishl, 1) := by decide +kernel
theorem dX4_placeBlock_50 : decode cX4_placeBlock 50 = .ok (.ior, 1) := by decide +kernel
theorem dX4_placeBlock_51 : decode cX4_placeBlock 51 = .ok (.putfield 24, 3) := by decide +kernel
theorem dX4_placeBlock_54 : decode cX4_placeBlock 54 = .ok (.aload_n 0, 1) := by decide +kernel
theorem dX4_placeBlock_55 : decode cX4_placeBlock 55 = .ok (.dup, 1) := by decide +kernel
theorem dX4_placeBlock_56 : decode cX4_placeBlock 56 = .ok (.getfield 9, 3) := by decide +kernel
theorem dX4_placeBlock_59 : decode cX4_placeBlock 59 = .ok (.iconst 1, 1) := by decide +kernel
theorem dX4_placeBlock_60 : decode cX4_placeBlock 60 = .ok (.iadd, 1) := by decide +kernel
theorem dX4_placeBlock_61 : decode cX4_placeBlock 61 = .ok (.putfield 9, 3) := by decide +kernel
theorem dX4_placeBlock_64 : decode cX4_placeBlock 64 = .ok (.iload_n 3, 1) := by decide +kernel
theorem dX4_placeBlock_65 : decode cX4_placeBlock 65 = .ok (.ireturn, 1) := by decide +kernel
theorem dX4_join_0 : decode cX4_join 0 = .ok (.aload_n 0, 1) := by decide +kernel
theorem dX4_join_1 : decode cX4_join 1 = .ok (.iload_n 1, 1) := by decide +kernel
theorem dX4_join_2 : decode cX4_join 2 = .ok (.invokevirtual 75, 3) := by decide +kernel
theorem dX4_join_5 : decode cX4_join 5 = .ok (.ifCond .eq 11, 3) := by decide +kernel
theorem dX4_join_8 : decode cX4_join 8 = .ok (.aload_n 0, 1) := by decide +kernel
theorem dX4_join_9 : decode cX4_join 9 = .ok (.iload_n 2, 1) := by decide +kernel
theorem dX4_join_10 : decode cX4_join 10 = .ok (.invokevirtual 75, 3) := by decide +kernel
theorem dX4_join_13 : decode cX4_join 13 = .ok (.ifCond .ne 6, 3) := by decide +kernel
theorem dX4_join_16 : decode cX4_join 16 = .ok (.bipush (-11), 2) := by decide +kernel
theorem dX4_join_18 : decode cX4_join 18 = .ok (.ireturn, 1) := by decide +kernel
theorem dX4_join_19 : decode cX4_join 19 = .ok (.iload_n 1, 1) := by decide +kernel
theorem dX4_join_20 : decode cX4_join 20 = .ok (.iload_n 2, 1) := by decide +kernel
theorem dX4_join_21 : decode cX4_join 21 = .ok (.if_icmp .ne 6, 3) := by decide +kernel
theorem dX4_join_24 : decode cX4_join 24 = .ok (.bipush (-12), 2) := by decide +kernel
theorem dX4_join_26 : decode cX4_join 26 = .ok (.ireturn, 1) := by decide +kernel
theorem dX4_join_27 : decode cX4_join 27 = .ok (.aload_n 0, 1) := by decide +kernel
theorem dX4_join_28 : decode cX4_join 28 = .ok (.iload_n 1, 1) := by decide +kernel
theorem dX4_join_29 : decode cX4_join 29 = .ok (.iload_n 2, 1) := by decide +kernel
theorem dX4_join_30 : decode cX4_join 30 = .ok (.invokevirtual 79, 3) := by decide +kernel
theorem dX4_join_33 : decode cX4_join 33 = .ok (.ifCond .eq 6, 3) := by decide +kernel
theorem dX4_join_36 : decode cX4_join 36 = .ok (.bipush (-13), 2) := by decide +kernel
theorem dX4_join_38 : decode cX4_join 38 = .ok (.ireturn, 1) := by decide +kernel
theorem dX4_join_39 : decode cX4_join 39 = .ok (.aload_n 0, 1) := by decide +kernel
theorem dX4_join_40 : decode cX4_join 40 = .ok (.getfield 37, 3) := by decide +kernel
theorem dX4_join_43 : decode cX4_join 43 = .ok (.iload_n 1, 1) := by decide +kernel
theorem dX4_join_44 : decode cX4_join 44 = .ok (.dup2, 1) := by decide +kernel
theorem dX4_join_45 : decode cX4_join 45 = .ok (.iaload, 1) := by decide +kernel
theorem dX4_join_46 : decode cX4_join 46 = .ok (.iconst 1, 1) := by decide +kernel
theorem dX4_join_47 : decode cX4_join 47 = .ok (.iload_n 2, 1) := by decide +kernel
theorem dX4_join_48 : decode cX4_join 48 = .ok (.ishl, 1) := by decide +kernel
theorem dX4_join_49 : decode cX4_join 49 = .ok (.ior, 1) := by decide +kernel
theorem dX4_join_50 : decode cX4_join 50 = .ok (.iastore, 1) := by decide +kernel
theorem dX4_join_51 : decode cX4_join 51 = .ok (.aload_n 0, 1) := by decide +kernel
theorem dX4_join_52 : decode cX4_join 52 = .ok (.getfield 37, 3) := by decide +kernel
theorem dX4_join_55 : decode cX4_join 55 = .ok (.iload_n 2, 1) := by decide +kernel
theorem dX4_join_56 : decode cX4_join 56 = .ok (.dup2, 1) := by decide +kernel
theorem dX4_join_57 : decode cX4_join 57 = .ok (.iaload, 1) := by decide +kernel
theorem dX4_join_58 : decode cX4_join 58 = .ok (.iconst 1, 1) := by decide +kernel
theorem dX4_join_59 : decode cX4_join 59 = .ok (.iload_n 1, 1) := by decide +kernel
theorem dX4_join_60 : decode cX4_join 60 = .ok (.ishl, 1) := by decide +kernel
theorem dX4_join_61 : decode cX4_join 61 = .ok (.ior, 1) := by decide +kernel
theorem dX4_join_62 : decode cX4_join 62 = .ok (.iastore, 1) := by decide +kernel
theorem dX4_join_63 : decode cX4_join 63 = .ok (.aload_n 0, 1) := by decide +kernel
theorem dX4_join_64 : decode cX4_join 64 = .ok (.invokevirtual 82, 3) := by decide +kernel
theorem dX4_join_67 : decode cX4_join 67 = .ok (.ireturn, 1) := by decide +kernel
theorem dX4_separate_0 : decode cX4_separate 0 = .ok (.aload_n 0, 1) := by decide +kernel
theorem dX4_separate_1 : decode cX4_separate 1 = .ok (.iload_n 1, 1) := by decide +kernel
theorem dX4_separate_2 : decode cX4_separate 2 = .ok (.invokevirtual 75, 3) := by decide +kernel
theorem dX4_separate_5 : decode cX4_separate 5 = .ok (.ifCond .eq 11, 3) := by decide +kernel
theorem dX4_separate_8 : decode cX4_separate 8 = .ok (.aload_n 0, 1) := by decide +kernel
theorem dX4_separate_9 : decode cX4_separate 9 = .ok (.iload_n 2, 1) := by decide +kernel
theorem dX4_separate_10 : decode cX4_separate 10 = .ok (.invokevirtual 75, 3) := by decide +kernel
theorem dX4_separate_13 : decode cX4_separate 13 = .ok (.ifCond .ne 6, 3) := by decide +kernel
theorem dX4_separate_16 : decode cX4_separate 16 = .ok (.bipush (-11), 2) := by decide +kernel
theorem dX4_separate_18 : decode cX4_separate 18 = .ok (.ireturn, 1) := by decide +kernel
theorem dX4_separate_19 : decode cX4_separate 19 = .ok (.aload_n 0, 1) := by decide +kernel
theorem dX4_separate_20 : decode cX4_separate 20 = .ok (.iload_n 1, 1) := by decide +kernel
theorem dX4_separate_21 : decode cX4_separate 21 = .ok (.iload_n 2, 1) := by decide +kernel
theorem dX4_separate_22 : decode cX4_separate 22 = .ok (.invokevirtual 79, 3) := by decide +kernel
theorem dX4_separate_25 : decode cX4_separate 25 = .ok (.ifCond .ne 6, 3) := by decide +kernel
theorem dX4_separate_28 : decode cX4_separate 28 = .ok (.bipush (-15), 2) := by decide +kernel
theorem dX4_separate_30 : decode cX4_separate 30 = .ok (.ireturn, 1) := by decide +kernel
theorem dX4_separate_31 : decode cX4_separate 31 = .ok (.aload_n 0, 1) := by decide +kernel
theorem dX4_separate_32 : decode cX4_separate 32 = .ok (.getfield 37, 3) := by decide +kernel
theorem dX4_separate_35 : decode cX4_separate 35 = .ok (.iload_n 1, 1) := by decide +kernel
theorem dX4_separate_36 : decode cX4_separate 36 = .ok (.dup2, 1) := by decide +kernel
theorem dX4_separate_37 : decode cX4_separate 37 = .ok (.iaload, 1) := by decide +kernel
theorem dX4_separate_38 : decode cX4_separate 38 = .ok (.iconst 1, 1) := by decide +kernel
theorem dX4_separate_39 : decode cX4_separate 39 = .ok (.iload_n 2, 1) := by decide +kernel
theorem dX4_separate_40 : decode cX4_separate 40 = .ok (.ishl, 1) := by decide +kernel
theorem dX4_separate_41 : decode cX4_separate 41 = .ok (.iconst (-1), 1) := by decide +kernel
theorem dX4_separate_42 : decode cX4_separate 42 = .ok (.ixor, 1) := by decide +kernel
theorem dX4_separate_43 : decode cX4_separate 43 = .ok (.iand, 1) := by decide +kernel
theorem dX4_separate_44 : decode cX4_separate 44 = .ok (.iastore, 1) := by decide +kernel
theorem dX4_separate_45 : decode cX4_separate 45 = .ok (.aload_n 0, 1) := by decide +kernel
theorem dX4_separate_46 : decode cX4_separate 46 = .ok (.getfield 37, 3) := by decide +kernel
theorem dX4_separate_49 : decode cX4_separate 49 = .ok (.iload_n 2, 1) := by decide +kernel
theorem dX4_separate_50 : decode cX4_separate 50 = .ok (.dup2, 1) := by decide +kernel
theorem dX4_separate_51 : decode cX4_separate 51 = .ok (.iaload, 1) := by decide +kernel
theorem dX4_separate_52 : decode cX4_separate 52 = .ok (.iconst 1, 1) := by decide +kernel
theorem dX4_separate_53 : decode cX4_separate 53 = .ok (.iload_n 1, 1) := by decide +kernel
theorem dX4_separate_54 : decode cX4_separate 54 = .ok (.ishl, 1) := by decide +kernel
theorem dX4_separate_55 : decode cX4_separate 55 = .ok (.iconst (-1), 1) := by decide +kernel
theorem dX4_separate_56 : decode cX4_separate 56 = .ok (.ixor, 1) := by decide +kernel
theorem dX4_separate_57 : decode cX4_separate 57 = .ok (.iand, 1) := by decide +kernel
theorem dX4_separate_58 : decode cX4_separate 58 = .ok (.iastore, 1) := by decide +kernel
theorem dX4_separate_59 : decode cX4_separate 59 = .ok (.aload_n 0, 1) := by decide +kernel
theorem dX4_separate_60 : decode cX4_separate 60 = .ok (.invokevirtual 82, 3) := by decide +kernel
theorem dX4_separate_63 : decode cX4_separate 63 = .ok (.ireturn, 1) := by decide +kernel
theorem dX4_seatCat_0 : decode cX4_seatCat 0 = .ok (.aload_n 0, 1) := by decide +kernel
theorem dX4_seatCat_1 : decode cX4_seatCat 1 = .ok (.iload_n 1, 1) := by decide +kernel
theorem dX4_seatCat_2 : decode cX4_seatCat 2 = .ok (.invokevirtual 75, 3) := by decide +kernel
theorem dX4_seatCat_5 : decode cX4_seatCat 5 = .ok (.ifCond .ne 6, 3) := by decide +kernel
theorem dX4_seatCat_8 : decode cX4_seatCat 8 = .ok (.bipush (-11), 2) := by decide +kernel
theorem dX4_seatCat_10 : decode cX4_seatCat 10 = .ok (.ireturn, 1) := by decide +kernel
theorem dX4_seatCat_11 : decode cX4_seatCat 11 = .ok (.aload_n 0, 1) := by decide +kernel
theorem dX4_seatCat_12 : decode cX4_seatCat 12 = .ok (.getfield 27, 3) := by decide +kernel
theorem dX4_seatCat_15 : decode cX4_seatCat 15 = .ok (.iload_n 1, 1) := by decide +kernel
theorem dX4_seatCat_16 : decode cX4_seatCat 16 = .ok (.invokestatic 64, 3) := by decide +kernel
theorem dX4_seatCat_19 : decode cX4_seatCat 19 = .ok (.ifCond .eq 6, 3) := by decide +kernel
theorem dX4_seatCat_22 : decode cX4_seatCat 22 = .ok (.bipush (-13), 2) := by decide +kernel
theorem dX4_seatCat_24 : decode cX4_seatCat 24 = .ok (.ireturn, 1) := by decide +kernel
theorem dX4_seatCat_25 : decode cX4_seatCat 25 = .ok (.aload_n 0, 1) := by decide +kernel
theorem dX4_seatCat_26 : decode cX4_seatCat 26 = .ok (.iload_n 1, 1) := by decide +kernel
theorem dX4_seatCat_27 : decode cX4_seatCat 27 = .ok (.invokevirtual 68, 3) := by decide +kernel
theorem dX4_seatCat_30 : decode cX4_seatCat 30 = .ok (.iconst (-1), 1) := by decide +kernel
theorem dX4_seatCat_31 : decode cX4_seatCat 31 = .ok (.if_icmp .eq 6, 3) := by decide +kernel
theorem dX4_seatCat_34 : decode cX4_seatCat 34 = .ok (.bipush (-14), 2) := by decide +kernel
theorem dX4_seatCat_36 : decode cX4_seatCat 36 = .ok (.ireturn, 1) := by decide +kernel
theorem dX4_seatCat_37 : decode cX4_seatCat 37 = .ok (.aload_n 0, 1) := by decide +kernel
theorem dX4_seatCat_38 : decode cX4_seatCat 38 = .ok (.dup, 1) := by decide +kernel
theorem dX4_seatCat_39 : decode cX4_seatCat 39 = .ok (.getfield 27, 3) := by decide +kernel
theorem dX4_seatCat_42 : decode cX4_seatCat 42 = .ok (.iconst 1, 1) := by decide +kernel
theorem dX4_seatCat_43 : decode cX4_seatCat 43 = .ok (.iload_n 1, 1) := by decide +kernel
theorem dX4_seatCat_44 : decode cX4_seatCat 44 = .ok (.ishl, 1) := by decide +kernel
theorem dX4_seatCat_45 : decode cX4_seatCat 45 = .ok (.ior, 1) := by decide +kernel
theorem dX4_seatCat_46 : decode cX4_seatCat 46 = .ok (.putfield 27, 3) := by decide +kernel
theorem dX4_seatCat_49 : decode cX4_seatCat 49 = .ok (.aload_n 0, 1) := by decide +kernel
theorem dX4_seatCat_50 : decode cX4_seatCat 50 = .ok (.getfield 27, 3) := by decide +kernel
theorem dX4_seatCat_53 : decode cX4_seatCat 53 = .ok (.invokestatic 86, 3) := by decide +kernel
theorem dX4_seatCat_56 : decode cX4_seatCat 56 = .ok (.ireturn, 1) := by decide +kernel
theorem dX4_liftCat_0 : decode cX4_liftCat 0 = .ok (.aload_n 0, 1) := by decide +kernel
theorem dX4_liftCat_1 : decode cX4_liftCat 1 = .ok (.iload_n 1, 1) := by decide +kernel
theorem dX4_liftCat_2 : decode cX4_liftCat 2 = .ok (.invokevirtual 75, 3) := by decide +kernel
theorem dX4_liftCat_5 : decode cX4_liftCat 5 = .ok (.ifCond .ne 6, 3) := by decide +kernel
theorem dX4_liftCat_8 : decode cX4_liftCat 8 = .ok (.bipush (-11), 2) := by decide +kernel
theorem dX4_liftCat_10 : decode cX4_liftCat 10 = .ok (.ireturn, 1) := by decide +kernel
theorem dX4_liftCat_11 : decode cX4_liftCat 11 = .ok (.aload_n 0, 1) := by decide +kernel
theorem dX4_liftCat_12 : decode cX4_liftCat 12 = .ok (.getfield 27, 3) := by decide +kernel
theorem dX4_liftCat_15 : decode cX4_liftCat 15 = .ok (.iload_n 1, 1) := by decide +kernel
theorem dX4_liftCat_16 : decode cX4_liftCat 16 = .ok (.invokestatic 64, 3) := by decide +kernel
theorem dX4_liftCat_19 : decode cX4_liftCat 19 = .ok (.ifCond .ne 6, 3) := by decide +kernel
theorem dX4_liftCat_22 : decode cX4_liftCat 22 = .ok (.bipush (-15), 2) := by decide +kernel
theorem dX4_liftCat_24 : decode cX4_liftCat 24 = .ok (.ireturn, 1) := by decide +kernel
theorem dX4_liftCat_25 : decode cX4_liftCat 25 = .ok (.aload_n 0, 1) := by decide +kernel
theorem dX4_liftCat_26 : decode cX4_liftCat 26 = .ok (.dup, 1) := by decide +kernel
theorem dX4_liftCat_27 : decode cX4_liftCat 27 = .ok (.getfield 27, 3) := by decide +kernel
theorem dX4_liftCat_30 : decode cX4_liftCat 30 = .ok (.iconst 1, 1) := by decide +kernel
theorem dX4_liftCat_31 : decode cX4_liftCat 31 = .ok (.iload_n 1, 1) := by decide +kernel
theorem dX4_liftCat_32 : decode cX4_liftCat 32 = .ok (.ishl, 1) := by decide +kernel
theorem dX4_liftCat_33 : decode cX4_liftCat 33 = .ok (.iconst (-1), 1) := by decide +kernel
theorem dX4_liftCat_34 : decode cX4_liftCat 34 = .ok (.ixor, 1) := by decide +kernel
theorem dX4_liftCat_35 : decode cX4_liftCat 35 = .ok (.iand, 1) := by decide +kernel
theorem dX4_liftCat_36 : decode cX4_liftCat 36 = .ok (.putfield 27, 3) := by decide +kernel
theorem dX4_liftCat_39 : decode cX4_liftCat 39 = .ok (.aload_n 0, 1) := by decide +kernel
theorem dX4_liftCat_40 : decode cX4_liftCat 40 = .ok (.getfield 27, 3) := by decide +kernel
theorem dX4_liftCat_43 : decode cX4_liftCat 43 = .ok (.invokestatic 86, 3) := by decide +kernel
theorem dX4_liftCat_46 : decode cX4_liftCat 46 = .ok (.ireturn, 1) := by decide +kernel
theorem dX4_placeTrain_0 : decode cX4_placeTrain 0 = .ok (.aload_n 0, 1) := by decide +kernel
theorem dX4_placeTrain_1 : decode cX4_placeTrain 1 = .ok (.iload_n 1, 1) := by decide +kernel
theorem dX4_placeTrain_2 : decode cX4_placeTrain 2 = .ok (.invokevirtual 75, 3) := by decide +kernel
theorem dX4_placeTrain_5 : decode cX4_placeTrain 5 = .ok (.ifCond .ne 6, 3) := by decide +kernel
theorem dX4_placeTrain_8 : decode cX4_placeTrain 8 = .ok (.bipush (-11), 2) := by decide +kernel
theorem dX4_placeTrain_10 : decode cX4_placeTrain 10 = .ok (.ireturn, 1) := by decide +kernel
theorem dX4_placeTrain_11 : decode cX4_placeTrain 11 = .ok (.iload_n 2, 1) := by decide +kernel
theorem dX4_placeTrain_12 : decode cX4_placeTrain 12 = .ok (.iconst 1, 1) := by decide +kernel
theorem dX4_placeTrain_13 : decode cX4_placeTrain 13 = .ok (.if_icmp .lt 9, 3) := by decide +kernel
theorem dX4_placeTrain_16 : decode cX4_placeTrain 16 = .ok (.iload_n 2, 1) := by decide +kernel
theorem dX4_placeTrain_17 : decode cX4_placeTrain 17 = .ok (.bipush 9, 2) := by decide +kernel
theorem dX4_placeTrain_19 : decode cX4_placeTrain 19 = .ok (.if_icmp .le 6, 3) := by decide +kernel
theorem dX4_placeTrain_22 : decode cX4_placeTrain 22 = .ok (.bipush (-12), 2) := by decide +kernel
theorem dX4_placeTrain_24 : decode cX4_placeTrain 24 = .ok (.ireturn, 1) := by decide +kernel
theorem dX4_placeTrain_25 : decode cX4_placeTrain 25 = .ok (.aload_n 0, 1) := by decide +kernel
theorem dX4_placeTrain_26 : decode cX4_placeTrain 26 = .ok (.getfield 15, 3) := by decide +kernel
theorem dX4_placeTrain_29 : decode cX4_placeTrain 29 = .ok (.bipush 6, 2) := by decide +kernel
theorem dX4_placeTrain_31 : decode cX4_placeTrain 31 = .ok (.if_icmp .lt 6, 3) := by decide +kernel
theorem dX4_placeTrain_34 : decode cX4_placeTrain 34 = .ok (.bipush (-13), 2) := by decide +kernel
theorem dX4_placeTrain_36 : decode cX4_placeTrain 36 = .ok (.ireturn, 1) := by decide +kernel
theorem dX4_placeTrain_37 : decode cX4_placeTrain 37 = .ok (.aload_n 0, 1) := by decide +kernel
theorem dX4_placeTrain_38 : decode cX4_placeTrain 38 = .ok (.iload_n 1, 1) := by decide +kernel
theorem dX4_placeTrain_39 : decode cX4_placeTrain 39 = .ok (.invokevirtual 68, 3) := by decide +kernel
theorem dX4_placeTrain_42 : decode cX4_placeTrain 42 = .ok (.iconst (-1), 1) := by decide +kernel
theorem dX4_placeTrain_43 : decode cX4_placeTrain 43 = .ok (.if_icmp .ne 23, 3) := by decide +kernel
theorem dX4_placeTrain_46 : decode cX4_placeTrain 46 = .ok (.aload_n 0, 1) := by decide +kernel
theorem dX4_placeTrain_47 : decode cX4_placeTrain 47 = .ok (.getfield 27, 3) := by decide +kernel
theorem dX4_placeTrain_50 : decode cX4_placeTrain 50 = .ok (.iload_n 1, 1) := by decide +kernel
theorem dX4_placeTrain_51 : decode cX4_placeTrain 51 = .ok (.invokestatic 64, 3) := by decide +kernel
theorem dX4_placeTrain_54 : decode cX4_placeTrain 54 = .ok (.ifCond .ne 12, 3) := by decide +kernel
theorem dX4_placeTrain_57 : decode cX4_placeTrain 57 = .ok (.aload_n 0, 1) := by decide +kernel
theorem dX4_placeTrain_58 : decode cX4_placeTrain 58 = .ok (.iload_n 1, 1) := by decide +kernel
theorem dX4_placeTrain_59 : decode cX4_placeTrain 59 = .ok (.invokevirtual 72, 3) := by decide +kernel
theorem dX4_placeTrain_62 : decode cX4_placeTrain 62 = .ok (.iconst (-1), 1) := by decide +kernel
theorem dX4_placeTrain_63 : decode cX4_placeTrain 63 = .ok (.if_icmp .eq 6, 3) := by decide +kernel
theorem dX4_placeTrain_66 : decode cX4_placeTrain 66 = .ok (.bipush (-14), 2) := by decide +kernel
theorem dX4_placeTrain_68 : decode cX4_placeTrain 68 = .ok (.ireturn, 1) := by decide +kernel
theorem dX4_placeTrain_69 : decode cX4_placeTrain 69 = .ok (.aload_n 0, 1) := by decide +kernel
theorem dX4_placeTrain_70 : decode cX4_placeTrain 70 = .ok (.getfield 15, 3) := by decide +kernel
theorem dX4_placeTrain_73 : decode cX4_placeTrain 73 = .ok (.istore_n 3, 1) := by decide +kernel
theorem dX4_placeTrain_74 : decode cX4_placeTrain 74 = .ok (.aload_n 0, 1) := by decide +kernel
theorem dX4_placeTrain_75 : decode cX4_placeTrain 75 = .ok (.getfield 40, 3) := by decide +kernel
theorem dX4_placeTrain_78 : decode cX4_placeTrain 78 = .ok (.iload_n 3, 1) := by decide +kernel
theorem dX4_placeTrain_79 : decode cX4_placeTrain 79 = .ok (.iload_n 1, 1) := by decide +kernel
theorem dX4_placeTrain_80 : decode cX4_placeTrain 80 = .ok (.iastore, 1) := by decide +kernel
theorem dX4_placeTrain_81 : decode cX4_placeTrain 81 = .ok (.aload_n 0, 1) := by decide +kernel
theorem dX4_placeTrain_82 : decode cX4_placeTrain 82 = .ok (.getfield 43, 3) := by decide +kernel
theorem dX4_placeTrain_85 : decode cX4_placeTrain 85 = .ok (.iload_n 3, 1) := by decide +kernel
theorem dX4_placeTrain_86 : decode cX4_placeTrain 86 = .ok (.iload_n 2, 1) := by decide +kernel
theorem dX4_placeTrain_87 : decode cX4_placeTrain 87 = .ok (.iastore, 1) := by decide +kernel
theorem dX4_placeTrain_88 : decode cX4_placeTrain 88 = .ok (.aload_n 0, 1) := by decide +kernel
theorem dX4_placeTrain_89 : decode cX4_placeTrain 89 = .ok (.getfield 46, 3) := by decide +kernel
theorem dX4_placeTrain_92 : decode cX4_placeTrain 92 = .ok (.iload_n 3, 1) := by decide +kernel
theorem dX4_placeTrain_93 : decode cX4_placeTrain 93 = .ok (.iconst 0, 1) := by decide +kernel
theorem dX4_placeTrain_94 : decode cX4_placeTrain 94 = .ok (.iastore, 1) := by decide +kernel
theorem dX4_placeTrain_95 : decode cX4_placeTrain 95 = .ok (.aload_n 0, 1) := by decide +kernel
theorem dX4_placeTrain_96 : decode cX4_placeTrain 96 = .ok (.getfield 49, 3) := by decide +kernel
theorem dX4_placeTrain_99 : decode cX4_placeTrain 99 = .ok (.iload_n 3, 1) := by decide +kernel
theorem dX4_placeTrain_100 : decode cX4_placeTrain 100 = .ok (.iconst (-1), 1) := by decide +kernel
theorem dX4_placeTrain_101 : decode cX4_placeTrain 101 = .ok (.iastore, 1) := by decide +kernel
theorem dX4_placeTrain_102 : decode cX4_placeTrain 102 = .ok (.aload_n 0, 1) := by decide +kernel
theorem dX4_placeTrain_103 : decode cX4_placeTrain 103 = .ok (.getfield 52, 3) := by decide +kernel
theorem dX4_placeTrain_106 : decode cX4_placeTrain 106 = .ok (.iload_n 3, 1) := by decide +kernel
theorem dX4_placeTrain_107 : decode cX4_placeTrain 107 = .ok (.iconst (-1), 1) := by decide +kernel
theorem dX4_placeTrain_108 : decode cX4_placeTrain 108 = .ok (.iastore, 1) := by decide +kernel
theorem dX4_placeTrain_109 : decode cX4_placeTrain 109 = .ok (.aload_n 0, 1) := by decide +kernel
theorem dX4_placeTrain_110 : decode cX4_placeTrain 110 = .ok (.getfield 55, 3) := by decide +kernel
theorem dX4_placeTrain_113 : decode cX4_placeTrain 113 = .ok (.iload_n 3, 1) := by decide +kernel
theorem dX4_placeTrain_114 : decode cX4_placeTrain 114 = .ok (.iconst 0, 1) := by decide +kernel
theorem dX4_placeTrain_115 : decode cX4_placeTrain 115 = .ok (.iastore, 1) := by decide +kernel
theorem dX4_placeTrain_116 : decode cX4_placeTrain 116 = .ok (.aload_n 0, 1) := by decide +kernel
theorem dX4_placeTrain_117 : decode cX4_placeTrain 117 = .ok (.dup, 1) := by decide +kernel
theorem dX4_placeTrain_118 : decode cX4_placeTrain 118 = .ok (.getfield 15, 3) := by decide +kernel
theorem dX4_placeTrain_121 : decode cX4_placeTrain 121 = .ok (.iconst 1, 1) := by decide +kernel
theorem dX4_placeTrain_122 : decode cX4_placeTrain 122 = .ok (.iadd, 1) := by decide +kernel
theorem dX4_placeTrain_123 : decode cX4_placeTrain 123 = .ok (.putfield 15, 3) := by decide +kernel
theorem dX4_placeTrain_126 : decode cX4_placeTrain 126 = .ok (.iload_n 3, 1) := by decide +kernel
theorem dX4_placeTrain_127 : decode cX4_placeTrain 127 = .ok (.ireturn, 1) := by decide +kernel
theorem dX4_dropGoal_0 : decode cX4_dropGoal 0 = .ok (.aload_n 0, 1) := by decide +kernel
theorem dX4_dropGoal_1 : decode cX4_dropGoal 1 = .ok (.iload_n 1, 1) := by decide +kernel
theorem dX4_dropGoal_2 : decode cX4_dropGoal 2 = .ok (.invokevirtual 91, 3) := by decide +kernel
theorem dX4_dropGoal_5 : decode cX4_dropGoal 5 = .ok (.ifCond .ne 6, 3) := by decide +kernel
theorem dX4_dropGoal_8 : decode cX4_dropGoal 8 = .ok (.bipush (-11), 2) := by decide +kernel
theorem dX4_dropGoal_10 : decode cX4_dropGoal 10 = .ok (.ireturn, 1) := by decide +kernel
theorem dX4_dropGoal_11 : decode cX4_dropGoal 11 = .ok (.aload_n 0, 1) := by decide +kernel
theorem dX4_dropGoal_12 : decode cX4_dropGoal 12 = .ok (.getfield 49, 3) := by decide +kernel
theorem dX4_dropGoal_15 : decode cX4_dropGoal 15 = .ok (.iload_n 1, 1) := by decide +kernel
theorem dX4_dropGoal_16 : decode cX4_dropGoal 16 = .ok (.iaload, 1) := by decide +kernel
theorem dX4_dropGoal_17 : decode cX4_dropGoal 17 = .ok (.istore_n 2, 1) := by decide +kernel
theorem dX4_dropGoal_18 : decode cX4_dropGoal 18 = .ok (.iload_n 2, 1) := by decide +kernel
theorem dX4_dropGoal_19 : decode cX4_dropGoal 19 = .ok (.iconst (-1), 1) := by decide +kernel
theorem dX4_dropGoal_20 : decode cX4_dropGoal 20 = .ok (.if_icmp .ne 6, 3) := by decide +kernel
theorem dX4_dropGoal_23 : decode cX4_dropGoal 23 = .ok (.bipush (-15), 2) := by decide +kernel
theorem dX4_dropGoal_25 : decode cX4_dropGoal 25 = .ok (.ireturn, 1) := by decide +kernel
theorem dX4_dropGoal_26 : decode cX4_dropGoal 26 = .ok (.aload_n 0, 1) := by decide +kernel
theorem dX4_dropGoal_27 : decode cX4_dropGoal 27 = .ok (.getfield 49, 3) := by decide +kernel
theorem dX4_dropGoal_30 : decode cX4_dropGoal 30 = .ok (.iload_n 1, 1) := by decide +kernel
theorem dX4_dropGoal_31 : decode cX4_dropGoal 31 = .ok (.iconst (-1), 1) := by decide +kernel
theorem dX4_dropGoal_32 : decode cX4_dropGoal 32 = .ok (.iastore, 1) := by decide +kernel
theorem dX4_dropGoal_33 : decode cX4_dropGoal 33 = .ok (.iload_n 2, 1) := by decide +kernel
theorem dX4_dropGoal_34 : decode cX4_dropGoal 34 = .ok (.ireturn, 1) := by decide +kernel
theorem dX4_hold_0 : decode cX4_hold 0 = .ok (.aload_n 0, 1) := by decide +kernel
theorem dX4_hold_1 : decode cX4_hold 1 = .ok (.iload_n 1, 1) := by decide +kernel
theorem dX4_hold_2 : decode cX4_hold 2 = .ok (.invokevirtual 91, 3) := by decide +kernel
theorem dX4_hold_5 : decode cX4_hold 5 = .ok (.ifCond .eq 11, 3) := by decide +kernel
theorem dX4_hold_8 : decode cX4_hold 8 = .ok (.aload_n 0, 1) := by decide +kernel
theorem dX4_hold_9 : decode cX4_hold 9 = .ok (.iload_n 2, 1) := by decide +kernel
theorem dX4_hold_10 : decode cX4_hold 10 = .ok (.invokevirtual 75, 3) := by decide +kernel
theorem dX4_hold_13 : decode cX4_hold 13 = .ok (.ifCond .ne 6, 3) := by decide +kernel
theorem dX4_hold_16 : decode cX4_hold 16 = .ok (.bipush (-11), 2) := by decide +kernel
theorem dX4_hold_18 : decode cX4_hold 18 = .ok (.ireturn, 1) := by decide +kernel
theorem dX4_hold_19 : decode cX4_hold 19 = .ok (.aload_n 0, 1) := by decide +kernel
theorem dX4_hold_20 : decode cX4_hold 20 = .ok (.aload_n 0, 1) := by decide +kernel
theorem dX4_hold_21 : decode cX4_hold 21 = .ok (.getfield 40, 3) := by decide +kernel
theorem dX4_hold_24 : decode cX4_hold 24 = .ok (.iload_n 1, 1) := by decide +kernel
theorem dX4_hold_25 : decode cX4_hold 25 = .ok (.iaload, 1) := by decide +kernel
theorem dX4_hold_26 : decode cX4_hold 26 = .ok (.iload_n 2, 1) := by decide +kernel
theorem dX4_hold_27 : decode cX4_hold 27 = .ok (.invokevirtual 79, 3) := by decide +kernel
theorem dX4_hold_30 : decode cX4_hold 30 = .ok (.ifCond .ne 6, 3) := by decide +kernel
theorem dX4_hold_33 : decode cX4_hold 33 = .ok (.bipush (-12), 2) := by decide +kernel
theorem dX4_hold_35 : decode cX4_hold 35 = .ok (.ireturn, 1) := by decide +kernel
theorem dX4_hold_36 : decode cX4_hold 36 = .ok (.aload_n 0, 1) := by decide +kernel
theorem dX4_hold_37 : decode cX4_hold 37 = .ok (.getfield 52, 3) := by decide +kernel
theorem dX4_hold_40 : decode cX4_hold 40 = .ok (.iload_n 1, 1) := by decide +kernel
theorem dX4_hold_41 : decode cX4_hold 41 = .ok (.iaload, 1) := by decide +kernel
theorem dX4_hold_42 : decode cX4_hold 42 = .ok (.iconst (-1), 1) := by decide +kernel
theorem dX4_hold_43 : decode cX4_hold 43 = .ok (.if_icmp .eq 6, 3) := by decide +kernel
theorem dX4_hold_46 : decode cX4_hold 46 = .ok (.bipush (-13), 2) := by decide +kernel
theorem dX4_hold_48 : decode cX4_hold 48 = .ok (.ireturn, 1) := by decide +kernel
theorem dX4_hold_49 : decode cX4_hold 49 = .ok (.aload_n 0, 1) := by decide +kernel
theorem dX4_hold_50 : decode cX4_hold 50 = .ok (.iload_n 2, 1) := by decide +kernel
theorem dX4_hold_51 : decode cX4_hold 51 = .ok (.invokevirtual 68, 3) := by decide +kernel
theorem dX4_hold_54 : decode cX4_hold 54 = .ok (.iconst (-1), 1) := by decide +kernel
theorem dX4_hold_55 : decode cX4_hold 55 = .ok (.if_icmp .ne 12, 3) := by decide +kernel
theorem dX4_hold_58 : decode cX4_hold 58 = .ok (.aload_n 0, 1) := by decide +kernel
theorem dX4_hold_59 : decode cX4_hold 59 = .ok (.iload_n 2, 1) := by decide +kernel
theorem dX4_hold_60 : decode cX4_hold 60 = .ok (.invokevirtual 72, 3) := by decide +kernel
theorem dX4_hold_63 : decode cX4_hold 63 = .ok (.iconst (-1), 1) := by decide +kernel
theorem dX4_hold_64 : decode cX4_hold 64 = .ok (.if_icmp .eq 6, 3) := by decide +kernel
theorem dX4_hold_67 : decode cX4_hold 67 = .ok (.bipush (-14), 2) := by decide +kernel
theorem dX4_hold_69 : decode cX4_hold 69 = .ok (.ireturn, 1) := by decide +kernel
theorem dX4_hold_70 : decode cX4_hold 70 = .ok (.aload_n 0, 1) := by decide +kernel
theorem dX4_hold_71 : decode cX4_hold 71 = .ok (.getfield 52, 3) := by decide +kernel
theorem dX4_hold_74 : decode cX4_hold 74 = .ok (.iload_n 1, 1) := by decide +kernel
theorem dX4_hold_75 : decode cX4_hold 75 = .ok (.iload_n 2, 1) := by decide +kernel
theorem dX4_hold_76 : decode cX4_hold 76 = .ok (.iastore, 1) := by decide +kernel
theorem dX4_hold_77 : decode cX4_hold 77 = .ok (.aload_n 0, 1) := by decide +kernel
theorem dX4_hold_78 : decode cX4_hold 78 = .ok (.invokevirtual 94, 3) := by decide +kernel
theorem dX4_hold_81 : decode cX4_hold 81 = .ok (.ireturn, 1) := by decide +kernel
theorem dX4_release_0 : decode cX4_release 0 = .ok (.aload_n 0, 1) := by decide +kernel
theorem dX4_release_1 : decode cX4_release 1 = .ok (.iload_n 1, 1) := by decide +kernel
theorem dX4_release_2 : decode cX4_release 2 = .ok (.invokevirtual 91, 3) := by decide +kernel
theorem dX4_release_5 : decode cX4_release 5 = .ok (.ifCond .ne 6, 3) := by decide +kernel
theorem dX4_release_8 : decode cX4_release 8 = .ok (.bipush (-11), 2) := by decide +kernel
theorem dX4_release_10 : decode cX4_release 10 = .ok (.ireturn, 1) := by decide +kernel
theorem dX4_release_11 : decode cX4_release 11 = .ok (.aload_n 0, 1) := by decide +kernel
theorem dX4_release_12 : decode cX4_release 12 = .ok (.getfield 52, 3) := by decide +kernel
theorem dX4_release_15 : decode cX4_release 15 = .ok (.iload_n 1, 1) := by decide +kernel
theorem dX4_release_16 : decode cX4_release 16 = .ok (.iaload, 1) := by decide +kernel
theorem dX4_release_17 : decode cX4_release 17 = .ok (.istore_n 2, 1) := by decide +kernel
theorem dX4_release_18 : decode cX4_release 18 = .ok (.iload_n 2, 1) := by decide +kernel
theorem dX4_release_19 : decode cX4_release 19 = .ok (.iconst (-1), 1) := by decide +kernel
theorem dX4_release_20 : decode cX4_release 20 = .ok (.if_icmp .ne 6, 3) := by decide +kernel
theorem dX4_release_23 : decode cX4_release 23 = .ok (.bipush (-15), 2) := by decide +kernel
theorem dX4_release_25 : decode cX4_release 25 = .ok (.ireturn, 1) := by decide +kernel
theorem dX4_release_26 : decode cX4_release 26 = .ok (.aload_n 0, 1) := by decide +kernel
theorem dX4_release_27 : decode cX4_release 27 = .ok (.getfield 52, 3) := by decide +kernel
theorem dX4_release_30 : decode cX4_release 30 = .ok (.iload_n 1, 1) := by decide +kernel
theorem dX4_release_31 : decode cX4_release 31 = .ok (.iconst (-1), 1) := by decide +kernel
theorem dX4_release_32 : decode cX4_release 32 = .ok (.iastore, 1) := by decide +kernel
theorem dX4_release_33 : decode cX4_release 33 = .ok (.iload_n 2, 1) := by decide +kernel
theorem dX4_release_34 : decode cX4_release 34 = .ok (.ireturn, 1) := by decide +kernel
theorem dX4_rerail_0 : decode cX4_rerail 0 = .ok (.aload_n 0, 1) := by decide +kernel
theorem dX4_rerail_1 : decode cX4_rerail 1 = .ok (.iload_n 1, 1) := by decide +kernel
theorem dX4_rerail_2 : decode cX4_rerail 2 = .ok (.invokevirtual 91, 3) := by decide +kernel
theorem dX4_rerail_5 : decode cX4_rerail 5 = .ok (.ifCond .ne 6, 3) := by decide +kernel
theorem dX4_rerail_8 : decode cX4_rerail 8 = .ok (.bipush (-11), 2) := by decide +kernel
theorem dX4_rerail_10 : decode cX4_rerail 10 = .ok (.ireturn, 1) := by decide +kernel
theorem dX4_rerail_11 : decode cX4_rerail 11 = .ok (.aload_n 0, 1) := by decide +kernel
theorem dX4_rerail_12 : decode cX4_rerail 12 = .ok (.getfield 30, 3) := by decide +kernel
theorem dX4_rerail_15 : decode cX4_rerail 15 = .ok (.iload_n 1, 1) := by decide +kernel
theorem dX4_rerail_16 : decode cX4_rerail 16 = .ok (.invokestatic 64, 3) := by decide +kernel
theorem dX4_rerail_19 : decode cX4_rerail 19 = .ok (.ifCond .ne 6, 3) := by decide +kernel
theorem dX4_rerail_22 : decode cX4_rerail 22 = .ok (.bipush (-13), 2) := by decide +kernel
theorem dX4_rerail_24 : decode cX4_rerail 24 = .ok (.ireturn, 1) := by decide +kernel
theorem dX4_rerail_25 : decode cX4_rerail 25 = .ok (.aload_n 0, 1) := by decide +kernel
theorem dX4_rerail_26 : decode cX4_rerail 26 = .ok (.dup, 1) := by decide +kernel
theorem dX4_rerail_27 : decode cX4_rerail 27 = .ok (.getfield 30, 3) := by decide +kernel
theorem dX4_rerail_30 : decode cX4_rerail 30 = .ok (.iconst 1, 1) := by decide +kernel
theorem dX4_rerail_31 : decode cX4_rerail 31 = .ok (.iload_n 1, 1) := by decide +kernel
theorem dX4_rerail_32 : decode cX4_rerail 32 = .ok (.ishl, 1) := by decide +kernel
theorem dX4_rerail_33 : decode cX4_rerail 33 = .ok (.iconst (-1), 1) := by decide +kernel
theorem dX4_rerail_34 : decode cX4_rerail 34 = .ok (.ixor, 1) := by decide +kernel
theorem dX4_rerail_35 : decode cX4_rerail 35 = .ok (.iand, 1) := by decide +kernel
theorem dX4_rerail_36 : decode cX4_rerail 36 = .ok (.putfield 30, 3) := by decide +kernel
theorem dX4_rerail_39 : decode cX4_rerail 39 = .ok (.aload_n 0, 1) := by decide +kernel
theorem dX4_rerail_40 : decode cX4_rerail 40 = .ok (.getfield 30, 3) := by decide +kernel
theorem dX4_rerail_43 : decode cX4_rerail 43 = .ok (.invokestatic 86, 3) := by decide +kernel
theorem dX4_rerail_46 : decode cX4_rerail 46 = .ok (.ireturn, 1) := by decide +kernel
theorem dX4_letsIn_0 : decode cX4_letsIn 0 = .ok (.aload_n 0, 1) := by decide +kernel
theorem dX4_letsIn_1 : decode cX4_letsIn 1 = .ok (.iload_n 2, 1) := by decide +kernel
theorem dX4_letsIn_2 : decode cX4_letsIn 2 = .ok (.invokevirtual 72, 3) := by decide +kernel
theorem dX4_letsIn_5 : decode cX4_letsIn 5 = .ok (.istore_n 3, 1) := by decide +kernel
theorem dX4_letsIn_6 : decode cX4_letsIn 6 = .ok (.aload_n 0, 1) := by decide +kernel
theorem dX4_letsIn_7 : decode cX4_letsIn 7 = .ok (.iload_n 2, 1) := by decide +kernel
theorem dX4_letsIn_8 : decode cX4_letsIn 8 = .ok (.invokevirtual 68, 3) := by decide +kernel
theorem dX4_letsIn_11 : decode cX4_letsIn 11 = .ok (.iconst (-1), 1) := by decide +kernel
theorem dX4_letsIn_12 : decode cX4_letsIn 12 = .ok (.if_icmp .ne 17, 3) := by decide +kernel
theorem dX4_letsIn_15 : decode cX4_letsIn 15 = .ok (.iload_n 3, 1) := by decide +kernel
theorem dX4_letsIn_16 : decode cX4_letsIn 16 = .ok (.iconst (-1), 1) := by decide +kernel
theorem dX4_letsIn_17 : decode cX4_letsIn 17 = .ok (.if_icmp .eq 8, 3) := by decide +kernel
theorem dX4_letsIn_20 : decode cX4_letsIn 20 = .ok (.iload_n 3, 1) := by decide +kernel
theorem dX4_letsIn_21 : decode cX4_letsIn 21 = .ok (.iload_n 1, 1) := by decide +kernel
theorem dX4_letsIn_22 : decode cX4_letsIn 22 = .ok (.if_icmp .ne 7, 3) := by decide +kernel
theorem dX4_letsIn_25 : decode cX4_letsIn 25 = .ok (.iconst 1, 1) := by decide +kernel
theorem dX4_letsIn_26 : decode cX4_letsIn 26 = .ok (.goto 4, 3) := by decide +kernel
theorem dX4_letsIn_29 : decode cX4_letsIn 29 = .ok (.iconst 0, 1) := by decide +kernel
theorem dX4_letsIn_30 : decode cX4_letsIn 30 = .ok (.ireturn, 1) := by decide +kernel
theorem dX4_moveTrain_0 : decode cX4_moveTrain 0 = .ok (.aload_n 0, 1) := by decide +kernel
theorem dX4_moveTrain_1 : decode cX4_moveTrain 1 = .ok (.getfield 40, 3) := by decide +kernel
theorem dX4_moveTrain_4 : decode cX4_moveTrain 4 = .ok (.iload_n 1, 1) := by decide +kernel
theorem dX4_moveTrain_5 : decode cX4_moveTrain 5 = .ok (.iload_n 2, 1) := by decide +kernel
theorem dX4_moveTrain_6 : decode cX4_moveTrain 6 = .ok (.iastore, 1) := by decide +kernel
theorem dX4_moveTrain_7 : decode cX4_moveTrain 7 = .ok (.aload_n 0, 1) := by decide +kernel
theorem dX4_moveTrain_8 : decode cX4_moveTrain 8 = .ok (.getfield 52, 3) := by decide +kernel
theorem dX4_moveTrain_11 : decode cX4_moveTrain 11 = .ok (.iload_n 1, 1) := by decide +kernel
theorem dX4_moveTrain_12 : decode cX4_moveTrain 12 = .ok (.iconst (-1), 1) := by decide +kernel
theorem dX4_moveTrain_13 : decode cX4_moveTrain 13 = .ok (.iastore, 1) := by decide +kernel
theorem dX4_moveTrain_14 : decode cX4_moveTrain 14 = .ok (.aload_n 0, 1) := by decide +kernel
theorem dX4_moveTrain_15 : decode cX4_moveTrain 15 = .ok (.getfield 46, 3) := by decide +kernel
theorem dX4_moveTrain_18 : decode cX4_moveTrain 18 = .ok (.iload_n 1, 1) := by decide +kernel
theorem dX4_moveTrain_19 : decode cX4_moveTrain 19 = .ok (.aload_n 0, 1) := by decide +kernel
theorem dX4_moveTrain_20 : decode cX4_moveTrain 20 = .ok (.getfield 33, 3) := by decide +kernel
theorem dX4_moveTrain_23 : decode cX4_moveTrain 23 = .ok (.iload_n 2, 1) := by decide +kernel
theorem dX4_moveTrain_24 : decode cX4_moveTrain 24 = .ok (.iaload, 1) := by decide +kernel
theorem dX4_moveTrain_25 : decode cX4_moveTrain 25 = .ok (.iastore, 1) := by decide +kernel
theorem dX4_moveTrain_26 : decode cX4_moveTrain 26 = .ok (.aload_n 0, 1) := by decide +kernel
theorem dX4_moveTrain_27 : decode cX4_moveTrain 27 = .ok (.getfield 27, 3) := by decide +kernel
theorem dX4_moveTrain_30 : decode cX4_moveTrain 30 = .ok (.iload_n 2, 1) := by decide +kernel
theorem dX4_moveTrain_31 : decode cX4_moveTrain 31 = .ok (.invokestatic 64, 3) := by decide +kernel
theorem dX4_moveTrain_34 : decode cX4_moveTrain 34 = .ok (.ifCond .eq 29, 3) := by decide +kernel
theorem dX4_moveTrain_37 : decode cX4_moveTrain 37 = .ok (.aload_n 0, 1) := by decide +kernel
theorem dX4_moveTrain_38 : decode cX4_moveTrain 38 = .ok (.dup, 1) := by decide +kernel
theorem dX4_moveTrain_39 : decode cX4_moveTrain 39 = .ok (.getfield 30, 3) := by decide +kernel
theorem dX4_moveTrain_42 : decode cX4_moveTrain 42 = .ok (.iconst 1, 1) := by decide +kernel
theorem dX4_moveTrain_43 : decode cX4_moveTrain 43 = .ok (.iload_n 1, 1) := by decide +kernel
theorem dX4_moveTrain_44 : decode cX4_moveTrain 44 = .ok (.ishl, 1) := by decide +kernel
theorem dX4_moveTrain_45 : decode cX4_moveTrain 45 = .ok (.ior, 1) := by decide +kernel
theorem dX4_moveTrain_46 : decode cX4_moveTrain 46 = .ok (.putfield 30, 3) := by decide +kernel
theorem dX4_moveTrain_49 : decode cX4_moveTrain 49 = .ok (.aload_n 0, 1) := by decide +kernel
theorem dX4_moveTrain_50 : decode cX4_moveTrain 50 = .ok (.dup, 1) := by decide +kernel
theorem dX4_moveTrain_51 : decode cX4_moveTrain 51 = .ok (.getfield 27, 3) := by decide +kernel
theorem dX4_moveTrain_54 : decode cX4_moveTrain 54 = .ok (.iconst 1, 1) := by decide +kernel
theorem dX4_moveTrain_55 : decode cX4_moveTrain 55 = .ok (.iload_n 2, 1) := by decide +kernel
theorem dX4_moveTrain_56 : decode cX4_moveTrain 56 = .ok (.ishl, 1) := by decide +kernel
theorem dX4_moveTrain_57 : decode cX4_moveTrain 57 = .ok (.iconst (-1), 1) := by decide +kernel
theorem dX4_moveTrain_58 : decode cX4_moveTrain 58 = .ok (.ixor, 1) := by decide +kernel
theorem dX4_moveTrain_59 : decode cX4_moveTrain 59 = .ok (.iand, 1) := by decide +kernel
theorem dX4_moveTrain_60 : decode cX4_moveTrain 60 = .ok (.putfield 27, 3) := by decide +kernel
theorem dX4_moveTrain_63 : decode cX4_moveTrain 63 = .ok (.aload_n 0, 1) := by decide +kernel
theorem dX4_moveTrain_64 : decode cX4_moveTrain 64 = .ok (.getfield 49, 3) := by decide +kernel
theorem dX4_moveTrain_67 : decode cX4_moveTrain 67 = .ok (.iload_n 1, 1) := by decide +kernel
theorem dX4_moveTrain_68 : decode cX4_moveTrain 68 = .ok (.iaload, 1) := by decide +kernel
theorem dX4_moveTrain_69 : decode cX4_moveTrain 69 = .ok (.iload_n 2, 1) := by decide +kernel
theorem dX4_moveTrain_70 : decode cX4_moveTrain 70 = .ok (.if_icmp .ne 20, 3) := by decide +kernel
theorem dX4_moveTrain_73 : decode cX4_moveTrain 73 = .ok (.aload_n 0, 1) := by decide +kernel
theorem dX4_moveTrain_74 : decode cX4_moveTrain 74 = .ok (.getfield 49, 3) := by decide +kernel
theorem dX4_moveTrain_77 : decode cX4_moveTrain 77 = .ok (.iload_n 1, 1) := by decide +kernel
theorem dX4_moveTrain_78 : decode cX4_moveTrain 78 = .ok (.iconst (-1), 1) := by decide +kernel
theorem dX4_moveTrain_79 : decode cX4_moveTrain 79 = .ok (.iastore, 1) := by decide +kernel
theorem dX4_moveTrain_80 : decode cX4_moveTrain 80 = .ok (.aload_n 0, 1) := by decide +kernel
theorem dX4_moveTrain_81 : decode cX4_moveTrain 81 = .ok (.dup, 1) := by decide +kernel
theorem dX4_moveTrain_82 : decode cX4_moveTrain 82 = .ok (.getfield 21, 3) := by decide +kernel
theorem dX4_moveTrain_85 : decode cX4_moveTrain 85 = .ok (.iconst 1, 1) := by decide +kernel
theorem dX4_moveTrain_86 : decode cX4_moveTrain 86 = .ok (.iadd, 1) := by decide +kernel
theorem dX4_moveTrain_87 : decode cX4_moveTrain 87 = .ok (.putfield 21, 3) := by decide +kernel
theorem dX4_moveTrain_90 : decode cX4_moveTrain 90 = .ok (.return_, 1) := by decide +kernel
theorem dX4_countLinks_0 : decode cX4_countLinks 0 = .ok (.iconst 0, 1) := by decide +kernel
theorem dX4_countLinks_1 : decode cX4_countLinks 1 = .ok (.istore_n 1, 1) := by decide +kernel
theorem dX4_countLinks_2 : decode cX4_countLinks 2 = .ok (.iconst 0, 1) := by decide +kernel
theorem dX4_countLinks_3 : decode cX4_countLinks 3 = .ok (.istore_n 2, 1) := by decide +kernel
theorem dX4_countLinks_4 : decode cX4_countLinks 4 = .ok (.iload_n 2, 1) := by decide +kernel
theorem dX4_countLinks_5 : decode cX4_countLinks 5 = .ok (.aload_n 0, 1) := by decide +kernel
theorem dX4_countLinks_6 : decode cX4_countLinks 6 = .ok (.getfield 9, 3) := by decide +kernel
theorem dX4_countLinks_9 : decode cX4_countLinks 9 = .ok (.if_icmp .ge 21, 3) := by decide +kernel
theorem dX4_countLinks_12 : decode cX4_countLinks 12 = .ok (.iload_n 1, 1) := by decide +kernel
theorem dX4_countLinks_13 : decode cX4_countLinks 13 = .ok (.aload_n 0, 1) := by decide +kernel
theorem dX4_countLinks_14 : decode cX4_countLinks 14 = .ok (.getfield 37, 3) := by decide +kernel
theorem dX4_countLinks_17 : decode cX4_countLinks 17 = .ok (.iload_n 2, 1) := by decide +kernel
theorem dX4_countLinks_18 : decode cX4_countLinks 18 = .ok (.iaload, 1) := by decide +kernel
theorem dX4_countLinks_19 : decode cX4_countLinks 19 = .ok (.invokestatic 86, 3) := by decide +kernel
theorem dX4_countLinks_22 : decode cX4_countLinks 22 = .ok (.iadd, 1) := by decide +kernel
theorem dX4_countLinks_23 : decode cX4_countLinks 23 = .ok (.istore_n 1, 1) := by decide +kernel
theorem dX4_countLinks_24 : decode cX4_countLinks 24 = .ok (.iinc 2 1, 3) := by decide +kernel
theorem dX4_countLinks_27 : decode cX4_countLinks 27 = .ok (.goto (-23), 3) := by decide +kernel
theorem dX4_countLinks_30 : decode cX4_countLinks 30 = .ok (.iload_n 1, 1) := by decide +kernel
theorem dX4_countLinks_31 : decode cX4_countLinks 31 = .ok (.iconst 2, 1) := by decide +kernel
theorem dX4_countLinks_32 : decode cX4_countLinks 32 = .ok (.idiv, 1) := by decide +kernel
theorem dX4_countLinks_33 : decode cX4_countLinks 33 = .ok (.ireturn, 1) := by decide +kernel
theorem dX4_countHolds_0 : decode cX4_countHolds 0 = .ok (.iconst 0, 1) := by decide +kernel
theorem dX4_countHolds_1 : decode cX4_countHolds 1 = .ok (.istore_n 1, 1) := by decide +kernel
theorem dX4_countHolds_2 : decode cX4_countHolds 2 = .ok (.iconst 0, 1) := by decide +kernel
theorem dX4_countHolds_3 : decode cX4_countHolds 3 = .ok (.istore_n 2, 1) := by decide +kernel
theorem dX4_countHolds_4 : decode cX4_countHolds 4 = .ok (.iload_n 2, 1) := by decide +kernel
theorem dX4_countHolds_5 : decode cX4_countHolds 5 = .ok (.aload_n 0, 1) := by decide +kernel
theorem dX4_countHolds_6 : decode cX4_countHolds 6 = .ok (.getfield 15, 3) := by decide +kernel
theorem dX4_countHolds_9 : decode cX4_countHolds 9 = .ok (.if_icmp .ge 22, 3) := by decide +kernel
theorem dX4_countHolds_12 : decode cX4_countHolds 12 = .ok (.aload_n 0, 1) := by decide +kernel
theorem dX4_countHolds_13 : decode cX4_countHolds 13 = .ok (.getfield 52, 3) := by decide +kernel
theorem dX4_countHolds_16 : decode cX4_countHolds 16 = .ok (.iload_n 2, 1) := by decide +kernel
theorem dX4_countHolds_17 : decode cX4_countHolds 17 = .ok (.iaload, 1) := by decide +kernel
theorem dX4_countHolds_18 : decode cX4_countHolds 18 = .ok (.iconst (-1), 1) := by decide +kernel
theorem dX4_countHolds_19 : decode cX4_countHolds 19 = .ok (.if_icmp .eq 6, 3) := by decide +kernel
theorem dX4_countHolds_22 : decode cX4_countHolds 22 = .ok (.iinc 1 1, 3) := by decide +kernel
theorem dX4_countHolds_25 : decode cX4_countHolds 25 = .ok (.iinc 2 1, 3) := by decide +kernel
theorem dX4_countHolds_28 : decode cX4_countHolds 28 = .ok (.goto (-24), 3) := by decide +kernel
theorem dX4_countHolds_31 : decode cX4_countHolds 31 = .ok (.iload_n 1, 1) := by decide +kernel
theorem dX4_countHolds_32 : decode cX4_countHolds 32 = .ok (.ireturn, 1) := by decide +kernel
theorem dX5_init_0 : decode cX5_init 0 = .ok (.aload_n 0, 1) := by decide +kernel
theorem dX5_init_1 : decode cX5_init 1 = .ok (.invokespecial 3, 3) := by decide +kernel
theorem dX5_init_4 : decode cX5_init 4 = .ok (.aload_n 0, 1) := by decide +kernel
theorem dX5_init_5 : decode cX5_init 5 = .ok (.bipush 14, 2) := by decide +kernel
theorem dX5_init_7 : decode cX5_init 7 = .ok (.newarray .char, 2) := by decide +kernel
theorem dX5_init_9 : decode cX5_init 9 = .ok (.putfield 9, 3) := by decide +kernel
theorem dX5_init_12 : decode cX5_init 12 = .ok (.aload_n 0, 1) := by decide +kernel
theorem dX5_init_13 : decode cX5_init 13 = .ok (.iconst 0, 1) := by decide +kernel
theorem dX5_init_14 : decode cX5_init 14 = .ok (.putfield 15, 3) := by decide +kernel
theorem dX5_init_17 : decode cX5_init 17 = .ok (.return_, 1) := by decide +kernel
theorem dX5_clear_0 : decode cX5_clear 0 = .ok (.aload_n 0, 1) := by decide +kernel
theorem dX5_clear_1 : decode cX5_clear 1 = .ok (.iconst 0, 1) := by decide +kernel
theorem dX5_clear_2 : decode cX5_clear 2 = .ok (.putfield 15, 3) := by decide +kernel
theorem dX5_clear_5 : decode cX5_clear 5 = .ok (.return_, 1) := by decide +kernel
theorem dX5_put_0 : decode cX5_put 0 = .ok (.aload_n 0, 1) := by decide +kernel
theorem dX5_put_1 : decode cX5_put 1 = .ok (.getfield 15, 3) := by decide +kernel
theorem dX5_put_4 : decode cX5_put 4 = .ok (.bipush 14, 2) := by decide +kernel
theorem dX5_put_6 : decode cX5_put 6 = .ok (.if_icmp .ge 23, 3) := by decide +kernel
theorem dX5_put_9 : decode cX5_put 9 = .ok (.aload_n 0, 1) := by decide +kernel
theorem dX5_put_10 : decode cX5_put 10 = .ok (.getfield 9, 3) := by decide +kernel
theorem dX5_put_13 : decode cX5_put 13 = .ok (.aload_n 0, 1) := by decide +kernel
theorem dX5_put_14 : decode cX5_put 14 = .ok (.getfield 15, 3) := by decide +kernel
theorem dX5_put_17 : decode cX5_put 17 = .ok (.iload_n 1, 1) := by decide +kernel
theorem dX5_put_18 : decode cX5_put 18 = .ok (.castore, 1) := by decide +kernel
theorem dX5_put_19 : decode cX5_put 19 = .ok (.aload_n 0, 1) := by decide +kernel
theorem dX5_put_20 : decode cX5_put 20 = .ok (.dup, 1) := by decide +kernel
theorem dX5_put_21 : decode cX5_put 21 = .ok (.getfield 15, 3) := by decide +kernel
theorem dX5_put_24 : decode cX5_put 24 = .ok (.iconst 1, 1) := by decide +kernel
theorem dX5_put_25 : decode cX5_put 25 = .ok (.iadd, 1) := by decide +kernel
theorem dX5_put_26 : decode cX5_put 26 = .ok (.putfield 15, 3) := by decide +kernel
theorem dX5_put_29 : decode cX5_put 29 = .ok (.return_, 1) := by decide +kernel
theorem dX5_putMarked_0 : decode cX5_putMarked 0 = .ok (.aload_n 0, 1) := by decide +kernel
theorem dX5_putMarked_1 : decode cX5_putMarked 1 = .ok (.iload_n 1, 1) := by decide +kernel
theorem dX5_putMarked_2 : decode cX5_putMarked 2 = .ok (.invokevirtual 19, 3) := by decide +kernel
theorem dX5_putMarked_5 : decode cX5_putMarked 5 = .ok (.iload_n 2, 1) := by decide +kernel
theorem dX5_putMarked_6 : decode cX5_putMarked 6 = .ok (.bipush 10, 2) := by decide +kernel
theorem dX5_putMarked_8 : decode cX5_putMarked 8 = .ok (.if_icmp .lt 15, 3) := by decide +kernel
theorem dX5_putMarked_11 : decode cX5_putMarked 11 = .ok (.aload_n 0, 1) := by decide +kernel
theorem dX5_putMarked_12 : decode cX5_putMarked 12 = .ok (.bipush 48, 2) := by decide +kernel
theorem dX5_putMarked_14 : decode cX5_putMarked 14 = .ok (.iload_n 2, 1) := by decide +kernel
theorem dX5_putMarked_15 : decode cX5_putMarked 15 = .ok (.bipush 10, 2) := by decide +kernel
theorem dX5_putMarked_17 : decode cX5_putMarked 17 = .ok (.idiv, 1) := by decide +kernel
theorem dX5_putMarked_18 : decode cX5_putMarked 18 = .ok (.iadd, 1) := by decide +kernel
theorem dX5_putMarked_19 : decode cX5_putMarked 19 = .ok (.i2c, 1) := by decide +kernel
theorem dX5_putMarked_20 : decode cX5_putMarked 20 = .ok (.invokevirtual 19, 3) := by decide +kernel
theorem dX5_putMarked_23 : decode cX5_putMarked 23 = .ok (.aload_n 0, 1) := by decide +kernel
theorem dX5_putMarked_24 : decode cX5_putMarked 24 = .ok (.bipush 48, 2) := by decide +kernel
theorem dX5_putMarked_26 : decode cX5_putMarked 26 = .ok (.iload_n 2, 1) := by decide +kernel
theorem dX5_putMarked_27 : decode cX5_putMarked 27 = .ok (.bipush 10, 2) := by decide +kernel
theorem dX5_putMarked_29 : decode cX5_putMarked 29 = .ok (.irem, 1) := by decide +kernel
theorem dX5_putMarked_30 : decode cX5_putMarked 30 = .ok (.iadd, 1) := by decide +kernel
theorem dX5_putMarked_31 : decode cX5_putMarked 31 = .ok (.i2c, 1) := by decide +kernel
theorem dX5_putMarked_32 : decode cX5_putMarked 32 = .ok (.invokevirtual 19, 3) := by decide +kernel
theorem dX5_putMarked_35 : decode cX5_putMarked 35 = .ok (.return_, 1) := by decide +kernel
theorem dX6_init_0 : decode cX6_init 0 = .ok (.aload_n 0, 1) := by decide +kernel
theorem dX6_init_1 : decode cX6_init 1 = .ok (.invokespecial 3, 3) := by decide +kernel
theorem dX6_init_4 : decode cX6_init 4 = .ok (.aload_n 0, 1) := by decide +kernel
theorem dX6_init_5 : decode cX6_init 5 = .ok (.bipush 14, 2) := by decide +kernel
theorem dX6_init_7 : decode cX6_init 7 = .ok (.newarray .int, 2) := by decide +kernel
theorem dX6_init_9 : decode cX6_init 9 = .ok (.putfield 9, 3) := by decide +kernel
theorem dX6_init_12 : decode cX6_init 12 = .ok (.aload_n 0, 1) := by decide +kernel
theorem dX6_init_13 : decode cX6_init 13 = .ok (.bipush 14, 2) := by decide +kernel
theorem dX6_init_15 : decode cX6_init 15 = .ok (.newarray .int, 2) := by decide +kernel
theorem dX6_init_17 : decode cX6_init 17 = .ok (.putfield 15, 3) := by decide +kernel
theorem dX6_init_20 : decode cX6_init 20 = .ok (.aload_n 0, 1) := by decide +kernel
theorem dX6_init_21 : decode cX6_init 21 = .ok (.bipush 14, 2) := by decide +kernel
theorem dX6_init_23 : decode cX6_init 23 = .ok (.newarray .int, 2) := by decide +kernel
theorem dX6_init_25 : decode cX6_init 25 = .ok (.putfield 18, 3) := by decide +kernel
theorem dX6_init_28 : decode cX6_init 28 = .ok (.return_, 1) := by decide +kernel
theorem dX6_measureByNearest_0 : decode cX6_measureByNearest 0 = .ok (.iconst 0, 1) := by decide +kernel
theorem dX6_measureByNearest_1 : decode cX6_measureByNearest 1 = .ok (.istore_n 3, 1) := by decide +kernel
theorem dX6_measureByNearest_2 : decode cX6_measureByNearest 2 = .ok (.iload_n 3, 1) := by decide +kernel
theorem dX6_measureByNearest_3 : decode cX6_measureByNearest 3 = .ok (.aload_n 1, 1) := by decide +kernel
theorem dX6_measureByNearest_4 : decode cX6_measureByNearest 4 = .ok (.getfield 21, 3) := by decide +kernel
theorem dX6_measureByNearest_7 : decode cX6_measureByNearest 7 = .ok (.if_icmp .ge 27, 3) := by decide +kernel
theorem dX6_measureByNearest_10 : decode cX6_measureByNearest 10 = .ok (.aload_n 0, 1) := by decide +kernel
theorem dX6_measureByNearest_11 : decode cX6_measureByNearest 11 = .ok (.getfield 9, 3) := by decide +kernel
theorem dX6_measureByNearest_14 : decode cX6_measureByNearest 14 = .ok (.iload_n 3, 1) := by decide +kernel
theorem dX6_measureByNearest_15 : decode cX6_measureByNearest 15 = .ok (.iload_n 3, 1) := by decide +kernel
theorem dX6_measureByNearest_16 : decode cX6_measureByNearest 16 = .ok (.iload_n 2, 1) := by decide +kernel
theorem dX6_measureByNearest_17 : decode cX6_measureByNearest 17 = .ok (.if_icmp .ne 7, 3) := by decide +kernel
theorem dX6_measureByNearest_20 : decode cX6_measureByNearest 20 = .ok (.iconst 0, 1) := by decide +kernel
theorem dX6_measureByNearest_21 : decode cX6_measureByNearest 21 = .ok (.goto 6, 3) := by decide +kernel
theorem dX6_measureByNearest_24 : decode cX6_measureByNearest 24 = .ok (.sipush 1000, 3) := by decide +kernel
theorem dX6_measureByNearest_27 : decode cX6_measureByNearest 27 = .ok (.iastore, 1) := by decide +kernel
theorem dX6_measureByNearest_28 : decode cX6_measureByNearest 28 = .ok (.iinc 3 1, 3) := by decide +kernel
theorem dX6_measureByNearest_31 : decode cX6_measureByNearest 31 = .ok (.goto (-29), 3) := by decide +kernel
theorem dX6_measureByNearest_34 : decode cX6_measureByNearest 34 = .ok (.iconst 0, 1) := by decide +kernel
theorem dX6_measureByNearest_35 : decode cX6_measureByNearest 35 = .ok (.istore_n 3, 1) := by decide +kernel
theorem dX6_measureByNearest_36 : decode cX6_measureByNearest 36 = .ok (.iconst 0, 1) := by decide +kernel
theorem dX6_measureByNearest_37 : decode cX6_measureByNearest 37 = .ok (.istore 4, 2) := by decide +kernel
theorem dX6_measureByNearest_39 : decode cX6_measureByNearest 39 = .ok (.iload 4, 2) := by decide +kernel
theorem dX6_measureByNearest_41 : decode cX6_measureByNearest 41 = .ok (.aload_n 1, 1) := by decide +kernel
theorem dX6_measureByNearest_42 : decode cX6_measureByNearest 42 = .ok (.getfield 21, 3) := by decide +kernel
theorem dX6_measureByNearest_45 : decode cX6_measureByNearest 45 = .ok (.if_icmp .ge 105, 3) := by decide +kernel
theorem dX6_measureByNearest_48 : decode cX6_measureByNearest 48 = .ok (.aload_n 0, 1) := by decide +kernel
theorem dX6_measureByNearest_49 : decode cX6_measureByNearest 49 = .ok (.aload_n 1, 1) := by decide +kernel
theorem dX6_measureByNearest_50 : decode cX6_measureByNearest 50 = .ok (.getfield 21, 3) := by decide +kernel
theorem dX6_measureByNearest_53 : decode cX6_measureByNearest 53 = .ok (.iload_n 3, 1) := by decide +kernel
theorem dX6_measureByNearest_54 : decode cX6_measureByNearest 54 = .ok (.invokevirtual 27, 3) := by decide +kernel
theorem dX6_measureByNearest_57 : decode cX6_measureByNearest 57 = .ok (.istore 5, 2) := by decide +kernel
theorem dX6_measureByNearest_59 : decode cX6_measureByNearest 59 = .ok (.iload 5, 2) := by decide +kernel
theorem dX6_measureByNearest_61 : decode cX6_measureByNearest 61 = .ok (.iconst (-1), 1) := by decide +kernel
theorem dX6_measureByNearest_62 : decode cX6_measureByNearest 62 = .ok (.if_icmp .ne 4, 3) := by decide +kernel
theorem dX6_measureByNearest_65 : decode cX6_measureByNearest 65 = .ok (.return_, 1) := by decide +kernel
theorem dX6_measureByNearest_66 : decode cX6_measureByNearest 66 = .ok (.iload_n 3, 1) := by decide +kernel
theorem dX6_measureByNearest_67 : decode cX6_measureByNearest 67 = .ok (.iconst 1, 1) := by decide +kernel
theorem dX6_measureByNearest_68 : decode cX6_measureByNearest 68 = .ok (.iload 5, 2) := by decide +kernel
theorem dX6_measureByNearest_70 : decode cX6_measureByNearest 70 = .ok (.ishl, 1) := by decide +kernel
theorem dX6_measureByNearest_71 : decode cX6_measureByNearest 71 = .ok (.ior, 1) := by decide +kernel
theorem dX6_measureByNearest_72 : decode cX6_measureByNearest 72 = .ok (.istore_n 3, 1) := by decide +kernel
theorem dX6_measureByNearest_73 : decode cX6_measureByNearest 73 = .ok (.iconst 0, 1) := by decide +kernel
theorem dX6_measureByNearest_74 : decode cX6_measureByNearest 74 = .ok (.istore 6, 2) := by decide +kernel
theorem dX6_measureByNearest_76 : decode cX6_measureByNearest 76 = .ok (.iload 6, 2) := by decide +kernel
theorem dX6_measureByNearest_78 : decode cX6_measureByNearest 78 = .ok (.aload_n 1, 1) := by decide +kernel
theorem dX6_measureByNearest_79 : decode cX6_measureByNearest 79 = .ok (.getfield 21, 3) := by decide +kernel
theorem dX6_measureByNearest_82 : decode cX6_measureByNearest 82 = .ok (.if_icmp .ge 62, 3) := by decide +kernel
theorem dX6_measureByNearest_85 : decode cX6_measureByNearest 85 = .ok (.aload_n 0, 1) := by decide +kernel
theorem dX6_measureByNearest_86 : decode cX6_measureByNearest 86 = .ok (.getfield 9, 3) := by decide +kernel
theorem dX6_measureByNearest_89 : decode cX6_measureByNearest 89 = .ok (.iload 5, 2) := by decide +kernel
theorem dX6_measureByNearest_91 : decode cX6_measureByNearest 91 = .ok (.iaload, 1) := by decide +kernel
theorem dX6_measureByNearest_92 : decode cX6_measureByNearest 92 = .ok (.aload_n 1, 1) := by decide +kernel
theorem dX6_measureByNearest_93 : decode cX6_measureByNearest 93 = .ok (.getfield 31, 3) := by decide +kernel
theorem dX6_measureByNearest_96 : decode cX6_measureByNearest 96 = .ok (.iload 6, 2) := by decide +kernel
theorem dX6_measureByNearest_98 : decode cX6_measureByNearest 98 = .ok (.iaload, 1) := by decide +kernel
theorem dX6_measureByNearest_99 : decode cX6_measureByNearest 99 = .ok (.iadd, 1) := by decide +kernel
theorem dX6_measureByNearest_100 : decode cX6_measureByNearest 100 = .ok (.istore 7, 2) := by decide +kernel
theorem dX6_measureByNearest_102 : decode cX6_measureByNearest 102 = .ok (.aload_n 1, 1) := by decide +kernel
theorem dX6_measureByNearest_103 : decode cX6_measureByNearest 103 = .ok (.getfield 34, 3) := by decide +kernel
theorem dX6_measureByNearest_106 : decode cX6_measureByNearest 106 = .ok (.iload 5, 2) := by decide +kernel
theorem dX6_measureByNearest_108 : decode cX6_measureByNearest 108 = .ok (.iaload, 1) := by decide +kernel
theorem dX6_measureByNearest_109 : decode cX6_measureByNearest 109 = .ok (.iload 6, 2) := by decide +kernel
theorem dX6_measureByNearest_111 : decode cX6_measureByNearest 111 = .ok (.invokestatic 37, 3) := by decide +kernel
theorem dX6_measureByNearest_114 : decode cX6_measureByNearest 114 = .ok (.ifCond .eq 24, 3) := by decide +kernel
theorem dX6_measureByNearest_117 : decode cX6_measureByNearest 117 = .ok (.iload 7, 2) := by decide +kernel
theorem dX6_measureByNearest_119 : decode cX6_measureByNearest 119 = .ok (.aload_n 0, 1) := by decide +kernel
theorem dX6_measureByNearest_120 : decode cX6_measureByNearest 120 = .ok (.getfield 9, 3) := by decide +kernel
theorem dX6_measureByNearest_123 : decode cX6_measureByNearest 123 = .ok (.iload 6, 2) := by decide +kernel
theorem dX6_measureByNearest_125 : decode cX6_measureByNearest 125 = .ok (.iaload, 1) := by decide +kernel
theorem dX6_measureByNearest_126 : decode cX6_measureByNearest 126 = .ok (.if_icmp .ge 12, 3) := by decide +kernel
theorem dX6_measureByNearest_129 : decode cX6_measureByNearest 129 = .ok (.aload_n 0, 1) := by decide +kernel
theorem dX6_measureByNearest_130 : decode cX6_measureByNearest 130 = .ok (.getfield 9, 3) := by decide +kernel
theorem dX6_measureByNearest_133 : decode cX6_measureByNearest 133 = .ok (.iload 6, 2) := by decide +kernel
theorem dX6_measureByNearest_135 : decode cX6_measureByNearest 135 = .ok (.iload 7, 2) := by decide +kernel
theorem dX6_measureByNearest_137 : decode cX6_measureByNearest 137 = .ok (.iastore, 1) := by decide +kernel
theorem dX6_measureByNearest_138 : decode cX6_measureByNearest 138 = .ok (.iinc 6 1, 3) := by decide +kernel
theorem dX6_measureByNearest_141 : decode cX6_measureByNearest 141 = .ok (.goto (-65), 3) := by decide +kernel
theorem dX6_measureByNearest_144 : decode cX6_measureByNearest 144 = .ok (.iinc 4 1, 3) := by decide +kernel
theorem dX6_measureByNearest_147 : decode cX6_measureByNearest 147 = .ok (.goto (-108), 3) := by decide +kernel
theorem dX6_measureByNearest_150 : decode cX6_measureByNearest 150 = .ok (.return_, 1) := by decide +kernel
theorem dX6_nearestOpen_0 : decode cX6_nearestOpen 0 = .ok (.iconst (-1), 1) := by decide +kernel
theorem dX6_nearestOpen_1 : decode cX6_nearestOpen 1 = .ok (.istore_n 3, 1) := by decide +kernel
theorem dX6_nearestOpen_2 : decode cX6_nearestOpen 2 = .ok (.sipush 1000, 3) := by decide +kernel
theorem dX6_nearestOpen_5 : decode cX6_nearestOpen 5 = .ok (.istore 4, 2) := by decide +kernel
theorem dX6_nearestOpen_7 : decode cX6_nearestOpen 7 = .ok (.iconst 0, 1) := by decide +kernel
theorem dX6_nearestOpen_8 : decode cX6_nearestOpen 8 = .ok (.istore 5, 2) := by decide +kernel
theorem dX6_nearestOpen_10 : decode cX6_nearestOpen 10 = .ok (.iload 5, 2) := by decide +kernel
theorem dX6_nearestOpen_12 : decode cX6_nearestOpen 12 = .ok (.iload_n 1, 1) := by decide +kernel
theorem dX6_nearestOpen_13 : decode cX6_nearestOpen 13 = .ok (.if_icmp .ge 42, 3) := by decide +kernel
theorem dX6_nearestOpen_16 : decode cX6_nearestOpen 16 = .ok (.iload_n 2, 1) := by decide +kernel
theorem dX6_nearestOpen_17 : decode cX6_nearestOpen 17 = .ok (.iload 5, 2) := by decide +kernel
theorem dX6_nearestOpen_19 : decode cX6_nearestOpen 19 = .ok (.ishr, 1) := by decide +kernel
theorem dX6_nearestOpen_20 : decode cX6_nearestOpen 20 = .ok (.iconst 1, 1) := by decide +kernel
theorem dX6_nearestOpen_21 : decode cX6_nearestOpen 21 = .ok (.iand, 1) := by decide +kernel
theorem dX6_nearestOpen_22 : decode cX6_nearestOpen 22 = .ok (.ifCond .ne 27, 3) := by decide +kernel
theorem dX6_nearestOpen_25 : decode cX6_nearestOpen 25 = .ok (.aload_n 0, 1) := by decide +kernel
theorem dX6_nearestOpen_26 : decode cX6_nearestOpen 26 = .ok (.getfield 9, 3) := by decide +kernel
theorem dX6_nearestOpen_29 : decode cX6_nearestOpen 29 = .ok (.iload 5, 2) := by decide +kernel
theorem dX6_nearestOpen_31 : decode cX6_nearestOpen 31 = .ok (.iaload, 1) := by decide +kernel
theorem dX6_nearestOpen_32 : decode cX6_nearestOpen 32 = .ok (.iload 4, 2) := by decide +kernel
theorem dX6_nearestOpen_34 : decode cX6_nearestOpen 34 = .ok (.if_icmp .ge 15, 3) := by decide +kernel
theorem dX6_nearestOpen_37 : decode cX6_nearestOpen 37 = .ok (.iload 5, 2) := by decide +kernel
theorem dX6_nearestOpen_39 : decode cX6_nearestOpen 39 = .ok (.istore_n 3, 1) := by decide +kernel
theorem dX6_nearestOpen_40 : decode cX6_nearestOpen 40 = .ok (.aload_n 0, 1) := by decide +kernel
theorem dX6_nearestOpen_41 : decode cX6_nearestOpen 41 = .ok (.getfield 9, 3) := by decide +kernel
theorem dX6_nearestOpen_44 : decode cX6_nearestOpen 44 = .ok (.iload 5, 2) := by decide +kernel
theorem dX6_nearestOpen_46 : decode cX6_nearestOpen 46 = .ok (.iaload, 1) := by decide +kernel
theorem dX6_nearestOpen_47 : decode cX6_nearestOpen 47 = .ok (.istore 4, 2) := by decide +kernel
theorem dX6_nearestOpen_49 : decode cX6_nearestOpen 49 = .ok (.iinc 5 1, 3) := by decide +kernel
theorem dX6_nearestOpen_52 : decode cX6_nearestOpen 52 = .ok (.goto (-42), 3) := by decide +kernel
theorem dX6_nearestOpen_55 : decode cX6_nearestOpen 55 = .ok (.iload_n 3, 1) := by decide +kernel
theorem dX6_nearestOpen_56 : decode cX6_nearestOpen 56 = .ok (.ireturn, 1) := by decide +kernel
theorem dX6_measureByRounds_0 : decode cX6_measureByRounds 0 = .ok (.iconst 0, 1) := by decide +kernel
theorem dX6_measureByRounds_1 : decode cX6_measureByRounds 1 = .ok (.istore_n 3, 1) := by decide +kernel
theorem dX6_measureByRounds_2 : decode cX6_measureByRounds 2 = .ok (.iload_n 3, 1) := by decide +kernel
theorem dX6_measureByRounds_3 : decode cX6_measureByRounds 3 = .ok (.aload_n 1, 1) := by decide +kernel
theorem dX6_measureByRounds_4 : decode cX6_measureByRounds 4 = .ok (.getfield 21, 3) := by decide +kernel
theorem dX6_measureByRounds_7 : decode cX6_measureByRounds 7 = .ok (.if_icmp .ge 27, 3) := by decide +kernel
theorem dX6_measureByRounds_10 : decode cX6_measureByRounds 10 = .ok (.aload_n 0, 1) := by decide +kernel
theorem dX6_measureByRounds_11 : decode cX6_measureByRounds 11 = .ok (.getfield 15, 3) := by decide +kernel
theorem dX6_measureByRounds_14 : decode cX6_measureByRounds 14 = .ok (.iload_n 3, 1) := by decide +kernel
theorem dX6_measureByRounds_15 : decode cX6_measureByRounds 15 = .ok (.iload_n 3, 1) := by decide +kernel
theorem dX6_measureByRounds_16 : decode cX6_measureByRounds 16 = .ok (.iload_n 2, 1) := by decide +kernel
theorem dX6_measureByRounds_17 : decode cX6_measureByRounds 17 = .ok (.if_icmp .ne 7, 3) := by decide +kernel
theorem dX6_measureByRounds_20 : decode cX6_measureByRounds 20 = .ok (.iconst 0, 1) := by decide +kernel
theorem dX6_measureByRounds_21 : decode cX6_measureByRounds 21 = .ok (.goto 6, 3) := by decide +kernel
theorem dX6_measureByRounds_24 : decode cX6_measureByRounds 24 = .ok (.sipush 1000, 3) := by decide +kernel
theorem dX6_measureByRounds_27 : decode cX6_measureByRounds 27 = .ok (.iastore, 1) := by decide +kernel
theorem dX6_measureByRounds_28 : decode cX6_measureByRounds 28 = .ok (.iinc 3 1, 3) := by decide +kernel
theorem dX6_measureByRounds_31 : decode cX6_measureByRounds 31 = .ok (.goto (-29), 3) := by decide +kernel
theorem dX6_measureByRounds_34 : decode cX6_measureByRounds 34 = .ok (.iconst 1, 1) := by decide +kernel
theorem dX6_measureByRounds_35 : decode cX6_measureByRounds 35 = .ok (.istore_n 3, 1) := by decide +kernel
theorem dX6_measureByRounds_36 : decode cX6_measureByRounds 36 = .ok (.iconst 0, 1) := by decide +kernel
theorem dX6_measureByRounds_37 : decode cX6_measureByRounds 37 = .ok (.istore 4, 2) := by decide +kernel
theorem dX6_measureByRounds_39 : decode cX6_measureByRounds 39 = .ok (.iload 4, 2) := by decide +kernel
theorem dX6_measureByRounds_41 : decode cX6_measureByRounds 41 = .ok (.aload_n 1, 1) := by decide +kernel
theorem dX6_measureByRounds_42 : decode cX6_measureByRounds 42 = .ok (.getfield 21, 3) := by decide +kernel
theorem dX6_measureByRounds_45 : decode cX6_measureByRounds 45 = .ok (.if_icmp .gt 45, 3) := by decide +kernel
theorem dX6_measureByRounds_48 : decode cX6_measureByRounds 48 = .ok (.iload_n 3, 1) := by decide +kernel
theorem dX6_measureByRounds_49 : decode cX6_measureByRounds 49 = .ok (.ifCond .eq 41, 3) := by decide +kernel
theorem dX6_measureByRounds_52 : decode cX6_measureByRounds 52 = .ok (.iconst 0, 1) := by decide +kernel
theorem dX6_measureByRounds_53 : decode cX6_measureByRounds 53 = .ok (.istore_n 3, 1) := by decide +kernel
theorem dX6_measureByRounds_54 : decode cX6_measureByRounds 54 = .ok (.iconst 0, 1) := by decide +kernel
theorem dX6_measureByRounds_55 : decode cX6_measureByRounds 55 = .ok (.istore 5, 2) := by decide +kernel
theorem dX6_measureByRounds_57 : decode cX6_measureByRounds 57 = .ok (.iload 5, 2) := by decide +kernel
theorem dX6_measureByRounds_59 : decode cX6_measureByRounds 59 = .ok (.aload_n 1, 1) := by decide +kernel
theorem dX6_measureByRounds_60 : decode cX6_measureByRounds 60 = .ok (.getfield 21, 3) := by decide +kernel
theorem dX6_measureByRounds_63 : decode cX6_measureByRounds 63 = .ok (.if_icmp .ge 21, 3) := by decide +kernel
theorem dX6_measureByRounds_66 : decode cX6_measureByRounds 66 = .ok (.aload_n 0, 1) := by decide +kernel
theorem dX6_measureByRounds_67 : decode cX6_measureByRounds 67 = .ok (.aload_n 1, 1) := by decide +kernel
theorem dX6_measureByRounds_68 : decode cX6_measureByRounds 68 = .ok (.iload 5, 2) := by decide +kernel
theorem dX6_measureByRounds_70 : decode cX6_measureByRounds 70 = .ok (.invokevirtual 41, 3) := by decide +kernel
theorem dX6_measureByRounds_73 : decode cX6_measureByRounds 73 = .ok (.ifCond .eq 5, 3) := by decide +kernel
theorem dX6_measureByRounds_76 : decode cX6_measureByRounds 76 = .ok (.iconst 1, 1) := by decide +kernel
theorem dX6_measureByRounds_77 : decode cX6_measureByRounds 77 = .ok (.istore_n 3, 1) := by decide +kernel
theorem dX6_measureByRounds_78 : decode cX6_measureByRounds 78 = .ok (.iinc 5 1, 3) := by decide +kernel
theorem dX6_measureByRounds_81 : decode cX6_measureByRounds 81 = .ok (.goto (-24), 3) := by decide +kernel
theorem dX6_measureByRounds_84 : decode cX6_measureByRounds 84 = .ok (.iinc 4 1, 3) := by decide +kernel
theorem dX6_measureByRounds_87 : decode cX6_measureByRounds 87 = .ok (.goto (-48), 3) := by decide +kernel
theorem dX6_measureByRounds_90 : decode cX6_measureByRounds 90 = .ok (.return_, 1) := by decide +kernel
theorem dX6_shortenFrom_0 : decode cX6_shortenFrom 0 = .ok (.aload_n 0, 1) := by decide +kernel
theorem dX6_shortenFrom_1 : decode cX6_shortenFrom 1 = .ok (.getfield 15, 3) := by decide +kernel
theorem dX6_shortenFrom_4 : decode cX6_shortenFrom 4 = .ok (.iload_n 2, 1) := by decide +kernel
theorem dX6_shortenFrom_5 : decode cX6_shortenFrom 5 = .ok (.iaload, 1) := by decide +kernel
theorem dX6_shortenFrom_6 : decode cX6_shortenFrom 6 = .ok (.sipush 1000, 3) := by decide +kernel
theorem dX6_shortenFrom_9 : decode cX6_shortenFrom 9 = .ok (.if_icmp .lt 5, 3) := by decide +kernel
theorem dX6_shortenFrom_12 : decode cX6_shortenFrom 12 = .ok (.iconst 0, 1) := by decide +kernel
theorem dX6_shortenFrom_13 : decode cX6_shortenFrom 13 = .ok (.ireturn, 1) := by decide +kernel
theorem dX6_shortenFrom_14 : decode cX6_shortenFrom 14 = .ok (.iconst 0, 1) := by decide +kernel
theorem dX6_shortenFrom_15 : decode cX6_shortenFrom 15 = .ok (.istore_n 3, 1) := by decide +kernel
theorem dX6_shortenFrom_16 : decode cX6_shortenFrom 16 = .ok (.iconst 0, 1) := by decide +kernel
theorem dX6_shortenFrom_17 : decode cX6_shortenFrom 17 = .ok (.istore 4, 2) := by decide +kernel
theorem dX6_shortenFrom_19 : decode cX6_shortenFrom 19 = .ok (.iload 4, 2) := by decide +kernel
theorem dX6_shortenFrom_21 : decode cX6_shortenFrom 21 = .ok (.aload_n 1, 1) := by decide +kernel
theorem dX6_shortenFrom_22 : decode cX6_shortenFrom 22 = .ok (.getfield 21, 3) := by decide +kernel
theorem dX6_shortenFrom_25 : decode cX6_shortenFrom 25 = .ok (.if_icmp .ge 58, 3) := by decide +kernel
theorem dX6_shortenFrom_28 : decode cX6_shortenFrom 28 = .ok (.aload_n 0, 1) := by decide +kernel
theorem dX6_shortenFrom_29 : decode cX6_shortenFrom 29 = .ok (.getfield 15, 3) := by decide +kernel
theorem dX6_shortenFrom_32 : decode cX6_shortenFrom 32 = .ok (.iload_n 2, 1) := by decide +kernel
theorem dX6_shortenFrom_33 : decode cX6_shortenFrom 33 = .ok (.iaload, 1) := by decide +kernel
theorem dX6_shortenFrom_34 : decode cX6_shortenFrom 34 = .ok (.aload_n 1, 1) := by decide +kernel
theorem dX6_shortenFrom_35 : decode cX6_shortenFrom 35 = .ok (.getfield 31, 3) := by decide +kernel
theorem dX6_shortenFrom_38 : decode cX6_shortenFrom 38 = .ok (.iload 4, 2) := by decide +kernel
theorem dX6_shortenFrom_40 : decode cX6_shortenFrom 40 = .ok (.iaload, 1) := by decide +kernel
theorem dX6_shortenFrom_41 : decode cX6_shortenFrom 41 = .ok (.iadd, 1) := by decide +kernel
theorem dX6_shortenFrom_42 : decode cX6_shortenFrom 42 = .ok (.istore 5, 2) := by decide +kernel
theorem dX6_shortenFrom_44 : decode cX6_shortenFrom 44 = .ok (.aload_n 1, 1) := by decide +kernel
theorem dX6_shortenFrom_45 : decode cX6_shortenFrom 45 = .ok (.iload_n 2, 1) := by decide +kernel
theorem dX6_shortenFrom_46 : decode cX6_shortenFrom 46 = .ok (.iload 4, 2) := by decide +kernel
theorem dX6_shortenFrom_48 : decode cX6_shortenFrom 48 = .ok (.invokevirtual 45, 3) := by decide +kernel
theorem dX6_shortenFrom_51 : decode cX6_shortenFrom 51 = .ok (.ifCond .eq 26, 3) := by decide +kernel
theorem dX6_shortenFrom_54 : decode cX6_shortenFrom 54 = .ok (.iload 5, 2) := by decide +kernel
theorem dX6_shortenFrom_56 : decode cX6_shortenFrom 56 = .ok (.aload_n 0, 1) := by decide +kernel
theorem dX6_shortenFrom_57 : decode cX6_shortenFrom 57 = .ok (.getfield 15, 3) := by decide +kernel
theorem dX6_shortenFrom_60 : decode cX6_shortenFrom 60 = .ok (.iload 4, 2) := by decide +kernel
theorem dX6_shortenFrom_62 : decode cX6_shortenFrom 62 = .ok (.iaload, 1) := by decide +kernel
theorem dX6_shortenFrom_63 : decode cX6_shortenFrom 63 = .ok (.if_icmp .ge 14, 3) := by decide +kernel
theorem dX6_shortenFrom_66 : decode cX6_shortenFrom 66 = .ok (.aload_n 0, 1) := by decide +kernel
theorem dX6_shortenFrom_67 : decode cX6_shortenFrom 67 = .ok (.getfield 15, 3) := by decide +kernel
theorem dX6_shortenFrom_70 : decode cX6_shortenFrom 70 = .ok (.iload 4, 2) := by decide +kernel
theorem dX6_shortenFrom_72 : decode cX6_shortenFrom 72 = .ok (.iload 5, 2) := by decide +kernel
theorem dX6_shortenFrom_74 : decode cX6_shortenFrom 74 = .ok (.iastore, 1) := by decide +kernel
theorem dX6_shortenFrom_75 : decode cX6_shortenFrom 75 = .ok (.iconst 1, 1) := by decide +kernel
theorem dX6_shortenFrom_76 : decode cX6_shortenFrom 76 = .ok (.istore_n 3, 1) := by decide +kernel
theorem dX6_shortenFrom_77 : decode cX6_shortenFrom 77 = .ok (.iinc 4 1, 3) := by decide +kernel
theorem dX6_shortenFrom_80 : decode cX6_shortenFrom 80 = .ok (.goto (-61), 3) := by decide +kernel
theorem dX6_shortenFrom_83 : decode cX6_shortenFrom 83 = .ok (.iload_n 3, 1) := by decide +kernel
theorem dX6_shortenFrom_84 : decode cX6_shortenFrom 84 = .ok (.ireturn, 1) := by decide +kernel
theorem dX6_distancesAgree_0 : decode cX6_distancesAgree 0 = .ok (.iconst 0, 1) := by decide +kernel
theorem dX6_distancesAgree_1 : decode cX6_distancesAgree 1 = .ok (.istore_n 2, 1) := by decide +kernel
theorem dX6_distancesAgree_2 : decode cX6_distancesAgree 2 = .ok (.iload_n 2, 1) := by decide +kernel
theorem dX6_distancesAgree_3 : decode cX6_distancesAgree 3 = .ok (.aload_n 1, 1) := by decide +kernel
theorem dX6_distancesAgree_4 : decode cX6_distancesAgree 4 = .ok (.getfield 21, 3) := by decide +kernel
theorem dX6_distancesAgree_7 : decode cX6_distancesAgree 7 = .ok (.if_icmp .ge 54, 3) := by decide +kernel
theorem dX6_distancesAgree_10 : decode cX6_distancesAgree 10 = .ok (.aload_n 0, 1) := by decide +kernel
theorem dX6_distancesAgree_11 : decode cX6_distancesAgree 11 = .ok (.aload_n 1, 1) := by decide +kernel
theorem dX6_distancesAgree_12 : decode cX6_distancesAgree 12 = .ok (.iload_n 2, 1) := by decide +kernel
theorem dX6_distancesAgree_13 : decode cX6_distancesAgree 13 = .ok (.invokevirtual 48, 3) := by decide +kernel
theorem dX6_distancesAgree_16 : decode cX6_distancesAgree 16 = .ok (.aload_n 0, 1) := by decide +kernel
theorem dX6_distancesAgree_17 : decode cX6_distancesAgree 17 = .ok (.aload_n 1, 1) := by decide +kernel
theorem dX6_distancesAgree_18 : decode cX6_distancesAgree 18 = .ok (.iload_n 2, 1) := by decide +kernel
theorem dX6_distancesAgree_19 : decode cX6_distancesAgree 19 = .ok (.invokevirtual 52, 3) := by decide +kernel
theorem dX6_distancesAgree_22 : decode cX6_distancesAgree 22 = .ok (.iconst 0, 1) := by decide +kernel
theorem dX6_distancesAgree_23 : decode cX6_distancesAgree 23 = .ok (.istore_n 3, 1) := by decide +kernel
theorem dX6_distancesAgree_24 : decode cX6_distancesAgree 24 = .ok (.iload_n 3, 1) := by decide +kernel
theorem dX6_distancesAgree_25 : decode cX6_distancesAgree 25 = .ok (.aload_n 1, 1) := by decide +kernel
theorem dX6_distancesAgree_26 : decode cX6_distancesAgree 26 = .ok (.getfield 21, 3) := by decide +kernel
theorem dX6_distancesAgree_29 : decode cX6_distancesAgree 29 = .ok (.if_icmp .ge 26, 3) := by decide +kernel
theorem dX6_distancesAgree_32 : decode cX6_distancesAgree 32 = .ok (.aload_n 0, 1) := by decide +kernel
theorem dX6_distancesAgree_33 : decode cX6_distancesAgree 33 = .ok (.getfield 9, 3) := by decide +kernel
theorem dX6_distancesAgree_36 : decode cX6_distancesAgree 36 = .ok (.iload_n 3, 1) := by decide +kernel
theorem dX6_distancesAgree_37 : decode cX6_distancesAgree 37 = .ok (.iaload, 1) := by decide +kernel
theorem dX6_distancesAgree_38 : decode cX6_distancesAgree 38 = .ok (.aload_n 0, 1) := by decide +kernel
theorem dX6_distancesAgree_39 : decode cX6_distancesAgree 39 = .ok (.getfield 15, 3) := by decide +kernel
theorem dX6_distancesAgree_42 : decode cX6_distancesAgree 42 = .ok (.iload_n 3, 1) := by decide +kernel
theorem dX6_distancesAgree_43 : decode cX6_distancesAgree 43 = .ok (.iaload, 1) := by decide +kernel
theorem dX6_distancesAgree_44 : decode cX6_distancesAgree 44 = .ok (.if_icmp .eq 5, 3) := by decide +kernel
theorem dX6_distancesAgree_47 : decode cX6_distancesAgree 47 = .ok (.iconst 0, 1) := by decide +kernel
theorem dX6_distancesAgree_48 : decode cX6_distancesAgree 48 = .ok (.ireturn, 1) := by decide +kernel
theorem dX6_distancesAgree_49 : decode cX6_distancesAgree 49 = .ok (.iinc 3 1, 3) := by decide +kernel
theorem dX6_distancesAgree_52 : decode cX6_distancesAgree 52 = .ok (.goto (-28), 3) := by decide +kernel
theorem dX6_distancesAgree_55 : decode cX6_distancesAgree 55 = .ok (.iinc 2 1, 3) := by decide +kernel
theorem dX6_distancesAgree_58 : decode cX6_distancesAgree 58 = .ok (.goto (-56), 3) := by decide +kernel
theorem dX6_distancesAgree_61 : decode cX6_distancesAgree 61 = .ok (.iconst 1, 1) := by decide +kernel
theorem dX6_distancesAgree_62 : decode cX6_distancesAgree 62 = .ok (.ireturn, 1) := by decide +kernel
theorem dX6_nextFor_0 : decode cX6_nextFor 0 = .ok (.aload_n 1, 1) := by decide +kernel
theorem dX6_nextFor_1 : decode cX6_nextFor 1 = .ok (.getfield 55, 3) := by decide +kernel
theorem dX6_nextFor_4 : decode cX6_nextFor 4 = .ok (.iload_n 2, 1) := by decide +kernel
theorem dX6_nextFor_5 : decode cX6_nextFor 5 = .ok (.iaload, 1) := by decide +kernel
theorem dX6_nextFor_6 : decode cX6_nextFor 6 = .ok (.istore_n 3, 1) := by decide +kernel
theorem dX6_nextFor_7 : decode cX6_nextFor 7 = .ok (.aload_n 1, 1) := by decide +kernel
theorem dX6_nextFor_8 : decode cX6_nextFor 8 = .ok (.getfield 58, 3) := by decide +kernel
theorem dX6_nextFor_11 : decode cX6_nextFor 11 = .ok (.iload_n 2, 1) := by decide +kernel
theorem dX6_nextFor_12 : decode cX6_nextFor 12 = .ok (.iaload, 1) := by decide +kernel
theorem dX6_nextFor_13 : decode cX6_nextFor 13 = .ok (.istore 4, 2) := by decide +kernel
theorem dX6_nextFor_15 : decode cX6_nextFor 15 = .ok (.iload_n 3, 1) := by decide +kernel
theorem dX6_nextFor_16 : decode cX6_nextFor 16 = .ok (.iconst (-1), 1) := by decide +kernel
theorem dX6_nextFor_17 : decode cX6_nextFor 17 = .ok (.if_icmp .eq 9, 3) := by decide +kernel
theorem dX6_nextFor_20 : decode cX6_nextFor 20 = .ok (.iload_n 3, 1) := by decide +kernel
theorem dX6_nextFor_21 : decode cX6_nextFor 21 = .ok (.iload 4, 2) := by decide +kernel
theorem dX6_nextFor_23 : decode cX6_nextFor 23 = .ok (.if_icmp .ne 5, 3) := by decide +kernel
theorem dX6_nextFor_26 : decode cX6_nextFor 26 = .ok (.iconst (-1), 1) := by decide +kernel
theorem dX6_nextFor_27 : decode cX6_nextFor 27 = .ok (.ireturn, 1) := by decide +kernel
theorem dX6_nextFor_28 : decode cX6_nextFor 28 = .ok (.aload_n 0, 1) := by decide +kernel
theorem dX6_nextFor_29 : decode cX6_nextFor 29 = .ok (.aload_n 1, 1) := by decide +kernel
theorem dX6_nextFor_30 : decode cX6_nextFor 30 = .ok (.iload_n 3, 1) := by decide +kernel
theorem dX6_nextFor_31 : decode cX6_nextFor 31 = .ok (.invokevirtual 48, 3) := by decide +kernel
theorem dX6_nextFor_34 : decode cX6_nextFor 34 = .ok (.iconst (-1), 1) := by decide +kernel
theorem dX6_nextFor_35 : decode cX6_nextFor 35 = .ok (.istore 5, 2) := by decide +kernel
theorem dX6_nextFor_37 : decode cX6_nextFor 37 = .ok (.sipush 1000, 3) := by decide +kernel
theorem dX6_nextFor_40 : decode cX6_nextFor 40 = .ok (.istore 6, 2) := by decide +kernel
theorem dX6_nextFor_42 : decode cX6_nextFor 42 = .ok (.iconst 0, 1) := by decide +kernel
theorem dX6_nextFor_43 : decode cX6_nextFor 43 = .ok (.istore 7, 2) := by decide +kernel
theorem dX6_nextFor_45 : decode cX6_nextFor 45 = .ok (.iload 7, 2) := by decide +kernel
theorem dX6_nextFor_47 : decode cX6_nextFor 47 = .ok (.aload_n 1, 1) := by decide +kernel
theorem dX6_nextFor_48 : decode cX6_nextFor 48 = .ok (.getfield 21, 3) := by decide +kernel
theorem dX6_nextFor_51 : decode cX6_nextFor 51 = .ok (.if_icmp .ge 45, 3) := by decide +kernel
theorem dX6_nextFor_54 : decode cX6_nextFor 54 = .ok (.aload_n 1, 1) := by decide +kernel
theorem dX6_nextFor_55 : decode cX6_nextFor 55 = .ok (.iload 4, 2) := by decide +kernel
theorem dX6_nextFor_57 : decode cX6_nextFor 57 = .ok (.iload 7, 2) := by decide +kernel
theorem dX6_nextFor_59 : decode cX6_nextFor 59 = .ok (.invokevirtual 45, 3) := by decide +kernel
theorem dX6_nextFor_62 : decode cX6_nextFor 62 = .ok (.ifCond .eq 28, 3) := by decide +kernel
theorem dX6_nextFor_65 : decode cX6_nextFor 65 = .ok (.aload_n 0, 1) := by decide +kernel
theorem dX6_nextFor_66 : decode cX6_nextFor 66 = .ok (.getfield 9, 3) := by decide +kernel
theorem dX6_nextFor_69 : decode cX6_nextFor 69 = .ok (.iload 7, 2) := by decide +kernel
theorem dX6_nextFor_71 : decode cX6_nextFor 71 = .ok (.iaload, 1) := by decide +kernel
theorem dX6_nextFor_72 : decode cX6_nextFor 72 = .ok (.iload 6, 2) := by decide +kernel
theorem dX6_nextFor_74 : decode cX6_nextFor 74 = .ok (.if_icmp .ge 16, 3) := by decide +kernel
theorem dX6_nextFor_77 : decode cX6_nextFor 77 = .ok (.iload 7, 2) := by decide +kernel
theorem dX6_nextFor_79 : decode cX6_nextFor 79 = .ok (.istore 5, 2) := by decide +kernel
theorem dX6_nextFor_81 : decode cX6_nextFor 81 = .ok (.aload_n 0, 1) := by decide +kernel
theorem dX6_nextFor_82 : decode cX6_nextFor 82 = .ok (.getfield 9, 3) := by decide +kernel
theorem dX6_nextFor_85 : decode cX6_nextFor 85 = .ok (.iload 7, 2) := by decide +kernel
theorem dX6_nextFor_87 : decode cX6_nextFor 87 = .ok (.iaload, 1) := by decide +kernel
theorem dX6_nextFor_88 : decode cX6_nextFor 88 = .ok (.istore 6, 2) := by decide +kernel
theorem dX6_nextFor_90 : decode cX6_nextFor 90 = .ok (.iinc 7 1, 3) := by decide +kernel
theorem dX6_nextFor_93 : decode cX6_nextFor 93 = .ok (.goto (-48), 3) := by decide +kernel
theorem dX6_nextFor_96 : decode cX6_nextFor 96 = .ok (.iload 5, 2) := by decide +kernel
theorem dX6_nextFor_98 : decode cX6_nextFor 98 = .ok (.ireturn, 1) := by decide +kernel
theorem dX6_cushionNear_0 : decode cX6_cushionNear 0 = .ok (.aload_n 0, 1) := by decide +kernel
theorem dX6_cushionNear_1 : decode cX6_cushionNear 1 = .ok (.aload_n 1, 1) := by decide +kernel
theorem dX6_cushionNear_2 : decode cX6_cushionNear 2 = .ok (.iload_n 2, 1) := by decide +kernel
theorem dX6_cushionNear_3 : decode cX6_cushionNear 3 = .ok (.invokevirtual 48, 3) := by decide +kernel
theorem dX6_cushionNear_6 : decode cX6_cushionNear 6 = .ok (.iconst (-1), 1) := by decide +kernel
theorem dX6_cushionNear_7 : decode cX6_cushionNear 7 = .ok (.istore_n 3, 1) := by decide +kernel
theorem dX6_cushionNear_8 : decode cX6_cushionNear 8 = .ok (.sipush 1000, 3) := by decide +kernel
theorem dX6_cushionNear_11 : decode cX6_cushionNear 11 = .ok (.istore 4, 2) := by decide +kernel
theorem dX6_cushionNear_13 : decode cX6_cushionNear 13 = .ok (.iconst 0, 1) := by decide +kernel
theorem dX6_cushionNear_14 : decode cX6_cushionNear 14 = .ok (.istore 5, 2) := by decide +kernel
theorem dX6_cushionNear_16 : decode cX6_cushionNear 16 = .ok (.iload 5, 2) := by decide +kernel
theorem dX6_cushionNear_18 : decode cX6_cushionNear 18 = .ok (.aload_n 1, 1) := by decide +kernel
theorem dX6_cushionNear_19 : decode cX6_cushionNear 19 = .ok (.getfield 21, 3) := by decide +kernel
theorem dX6_cushionNear_22 : decode cX6_cushionNear 22 = .ok (.if_icmp .ge 45, 3) := by decide +kernel
theorem dX6_cushionNear_25 : decode cX6_cushionNear 25 = .ok (.aload_n 1, 1) := by decide +kernel
theorem dX6_cushionNear_26 : decode cX6_cushionNear 26 = .ok (.getfield 61, 3) := by decide +kernel
theorem dX6_cushionNear_29 : decode cX6_cushionNear 29 = .ok (.iload 5, 2) := by decide +kernel
theorem dX6_cushionNear_31 : decode cX6_cushionNear 31 = .ok (.invokestatic 37, 3) := by decide +kernel
theorem dX6_cushionNear_34 : decode cX6_cushionNear 34 = .ok (.ifCond .eq 27, 3) := by decide +kernel
theorem dX6_cushionNear_37 : decode cX6_cushionNear 37 = .ok (.aload_n 0, 1) := by decide +kernel
theorem dX6_cushionNear_38 : decode cX6_cushionNear 38 = .ok (.getfield 9, 3) := by decide +kernel
theorem dX6_cushionNear_41 : decode cX6_cushionNear 41 = .ok (.iload 5, 2) := by decide +kernel
theorem dX6_cushionNear_43 : decode cX6_cushionNear 43 = .ok (.iaload, 1) := by decide +kernel
theorem dX6_cushionNear_44 : decode cX6_cushionNear 44 = .ok (.iload 4, 2) := by decide +kernel
theorem dX6_cushionNear_46 : decode cX6_cushionNear 46 = .ok (.if_icmp .ge 15, 3) := by decide +kernel
theorem dX6_cushionNear_49 : decode cX6_cushionNear 49 = .ok (.iload 5, 2) := by decide +kernel
theorem dX6_cushionNear_51 : decode cX6_cushionNear 51 = .ok (.istore_n 3, 1) := by decide +kernel
theorem dX6_cushionNear_52 : decode cX6_cushionNear 52 = .ok (.aload_n 0, 1) := by decide +kernel
theorem dX6_cushionNear_53 : decode cX6_cushionNear 53 = .ok (.getfield 9, 3) := by decide +kernel
theorem dX6_cushionNear_56 : decode cX6_cushionNear 56 = .ok (.iload 5, 2) := by decide +kernel
theorem dX6_cushionNear_58 : decode cX6_cushionNear 58 = .ok (.iaload, 1) := by decide +kernel
theorem dX6_cushionNear_59 : decode cX6_cushionNear 59 = .ok (.istore 4, 2) := by decide +kernel
theorem dX6_cushionNear_61 : decode cX6_cushionNear 61 = .ok (.iinc 5 1, 3) := by decide +kernel
theorem dX6_cushionNear_64 : decode cX6_cushionNear 64 = .ok (.goto (-48), 3) := by decide +kernel
theorem dX6_cushionNear_67 : decode cX6_cushionNear 67 = .ok (.iload_n 3, 1) := by decide +kernel
theorem dX6_cushionNear_68 : decode cX6_cushionNear 68 = .ok (.ireturn, 1) := by decide +kernel
theorem dX6_partsByWalks_0 : decode cX6_partsByWalks 0 = .ok (.iconst 0, 1) := by decide +kernel
theorem dX6_partsByWalks_1 : decode cX6_partsByWalks 1 = .ok (.istore_n 2, 1) := by decide +kernel
theorem dX6_partsByWalks_2 : decode cX6_partsByWalks 2 = .ok (.iconst 0, 1) := by decide +kernel
theorem dX6_partsByWalks_3 : decode cX6_partsByWalks 3 = .ok (.istore_n 3, 1) := by decide +kernel
theorem dX6_partsByWalks_4 : decode cX6_partsByWalks 4 = .ok (.iconst 0, 1) := by decide +kernel
theorem dX6_partsByWalks_5 : decode cX6_partsByWalks 5 = .ok (.istore 4, 2) := by decide +kernel
theorem dX6_partsByWalks_7 : decode cX6_partsByWalks 7 = .ok (.iload 4, 2) := by decide +kernel
theorem dX6_partsByWalks_9 : decode cX6_partsByWalks 9 = .ok (.aload_n 1, 1) := by decide +kernel
theorem dX6_partsByWalks_10 : decode cX6_partsByWalks 10 = .ok (.getfield 21, 3) := by decide +kernel
theorem dX6_partsByWalks_13 : decode cX6_partsByWalks 13 = .ok (.if_icmp .ge 30, 3) := by decide +kernel
theorem dX6_partsByWalks_16 : decode cX6_partsByWalks 16 = .ok (.iload_n 3, 1) := by decide +kernel
theorem dX6_partsByWalks_17 : decode cX6_partsByWalks 17 = .ok (.iload 4, 2) := by decide +kernel
theorem dX6_partsByWalks_19 : decode cX6_partsByWalks 19 = .ok (.invokestatic 37, 3) := by decide +kernel
theorem dX6_partsByWalks_22 : decode cX6_partsByWalks 22 = .ok (.ifCond .ne 15, 3) := by decide +kernel
theorem dX6_partsByWalks_25 : decode cX6_partsByWalks 25 = .ok (.iinc 2 1, 3) := by decide +kernel
theorem dX6_partsByWalks_28 : decode cX6_partsByWalks 28 = .ok (.aload_n 1, 1) := by decide +kernel
theorem dX6_partsByWalks_29 : decode cX6_partsByWalks 29 = .ok (.iload 4, 2) := by decide +kernel
theorem dX6_partsByWalks_31 : decode cX6_partsByWalks 31 = .ok (.iload_n 3, 1) := by decide +kernel
theorem dX6_partsByWalks_32 : decode cX6_partsByWalks 32 = .ok (.iconst 0, 1) := by decide +kernel
theorem dX6_partsByWalks_33 : decode cX6_partsByWalks 33 = .ok (.invokestatic 64, 3) := by decide +kernel
theorem dX6_partsByWalks_36 : decode cX6_partsByWalks 36 = .ok (.istore_n 3, 1) := by decide +kernel
theorem dX6_partsByWalks_37 : decode cX6_partsByWalks 37 = .ok (.iinc 4 1, 3) := by decide +kernel
theorem dX6_partsByWalks_40 : decode cX6_partsByWalks 40 = .ok (.goto (-33), 3) := by decide +kernel
theorem dX6_partsByWalks_43 : decode cX6_partsByWalks 43 = .ok (.iload_n 2, 1) := by decide +kernel
theorem dX6_partsByWalks_44 : decode cX6_partsByWalks 44 = .ok (.ireturn, 1) := by decide +kernel
theorem dX6_walk_0 : decode cX6_walk 0 = .ok (.iload_n 3, 1) := by decide +kernel
theorem dX6_walk_1 : decode cX6_walk 1 = .ok (.bipush 14, 2) := by decide +kernel
theorem dX6_walk_3 : decode cX6_walk 3 = .ok (.if_icmp .lt 5, 3) := by decide +kernel
theorem dX6_walk_6 : decode cX6_walk 6 = .ok (.iload_n 2, 1) := by decide +kernel
theorem dX6_walk_7 : decode cX6_walk 7 = .ok (.ireturn, 1) := by decide +kernel
theorem dX6_walk_8 : decode cX6_walk 8 = .ok (.iload_n 2, 1) := by decide +kernel
theorem dX6_walk_9 : decode cX6_walk 9 = .ok (.iconst 1, 1) := by decide +kernel
theorem dX6_walk_10 : decode cX6_walk 10 = .ok (.iload_n 1, 1) := by decide +kernel
theorem dX6_walk_11 : decode cX6_walk 11 = .ok (.ishl, 1) := by decide +kernel
theorem dX6_walk_12 : decode cX6_walk 12 = .ok (.ior, 1) := by decide +kernel
theorem dX6_walk_13 : decode cX6_walk 13 = .ok (.istore 4, 2) := by decide +kernel
theorem dX6_walk_15 : decode cX6_walk 15 = .ok (.iconst 0, 1) := by decide +kernel
theorem dX6_walk_16 : decode cX6_walk 16 = .ok (.istore 5, 2) := by decide +kernel
theorem dX6_walk_18 : decode cX6_walk 18 = .ok (.iload 5, 2) := by decide +kernel
theorem dX6_walk_20 : decode cX6_walk 20 = .ok (.aload_n 0, 1) := by decide +kernel
theorem dX6_walk_21 : decode cX6_walk 21 = .ok (.getfield 21, 3) := by decide +kernel
theorem dX6_walk_24 : decode cX6_walk 24 = .ok (.if_icmp .ge 42, 3) := by decide +kernel
theorem dX6_walk_27 : decode cX6_walk 27 = .ok (.aload_n 0, 1) := by decide +kernel
theorem dX6_walk_28 : decode cX6_walk 28 = .ok (.iload_n 1, 1) := by decide +kernel
theorem dX6_walk_29 : decode cX6_walk 29 = .ok (.iload 5, 2) := by decide +kernel
theorem dX6_walk_31 : decode cX6_walk 31 = .ok (.invokevirtual 45, 3) := by decide +kernel
theorem dX6_walk_34 : decode cX6_walk 34 = .ok (.ifCond .eq 26, 3) := by decide +kernel
theorem dX6_walk_37 : decode cX6_walk 37 = .ok (.iload 4, 2) := by decide +kernel
theorem dX6_walk_39 : decode cX6_walk 39 = .ok (.iload 5, 2) := by decide +kernel
theorem dX6_walk_41 : decode cX6_walk 41 = .ok (.invokestatic 37, 3) := by decide +kernel
theorem dX6_walk_44 : decode cX6_walk 44 = .ok (.ifCond .ne 16, 3) := by decide +kernel
theorem dX6_walk_47 : decode cX6_walk 47 = .ok (.aload_n 0, 1) := by decide +kernel
theorem dX6_walk_48 : decode cX6_walk 48 = .ok (.iload 5, 2) := by decide +kernel
theorem dX6_walk_50 : decode cX6_walk 50 = .ok (.iload 4, 2) := by decide +kernel
theorem dX6_walk_52 : decode cX6_walk 52 = .ok (.iload_n 3, 1) := by decide +kernel
theorem dX6_walk_53 : decode cX6_walk 53 = .ok (.iconst 1, 1) := by decide +kernel
theorem dX6_walk_54 : decode cX6_walk 54 = .ok (.iadd, 1) := by decide +kernel
theorem dX6_walk_55 : decode cX6_walk 55 = .ok (.invokestatic 64, 3) := by decide +kernel
theorem dX6_walk_58 : decode cX6_walk 58 = .ok (.istore 4, 2) := by decide +kernel
theorem dX6_walk_60 : decode cX6_walk 60 = .ok (.iinc 5 1, 3) := by decide +kernel
theorem dX6_walk_63 : decode cX6_walk 63 = .ok (.goto (-45), 3) := by decide +kernel
theorem dX6_walk_66 : decode cX6_walk 66 = .ok (.iload 4, 2) := by decide +kernel
theorem dX6_walk_68 : decode cX6_walk 68 = .ok (.ireturn, 1) := by decide +kernel
theorem dX6_partsByUnions_0 : decode cX6_partsByUnions 0 = .ok (.iconst 0, 1) := by decide +kernel
theorem dX6_partsByUnions_1 : decode cX6_partsByUnions 1 = .ok (.istore_n 2, 1) := by decide +kernel
theorem dX6_partsByUnions_2 : decode cX6_partsByUnions 2 = .ok (.iload_n 2, 1) := by decide +kernel
theorem dX6_partsByUnions_3 : decode cX6_partsByUnions 3 = .ok (.aload_n 1, 1) := by decide +kernel
theorem dX6_partsByUnions_4 : decode cX6_partsByUnions 4 = .ok (.getfield 21, 3) := by decide +kernel
theorem dX6_partsByUnions_7 : decode cX6_partsByUnions 7 = .ok (.if_icmp .ge 16, 3) := by decide +kernel
theorem dX6_partsByUnions_10 : decode cX6_partsByUnions 10 = .ok (.aload_n 0, 1) := by decide +kernel
theorem dX6_partsByUnions_11 : decode cX6_partsByUnions 11 = .ok (.getfield 18, 3) := by decide +kernel
theorem dX6_partsByUnions_14 : decode cX6_partsByUnions 14 = .ok (.iload_n 2, 1) := by decide +kernel
theorem dX6_partsByUnions_15 : decode cX6_partsByUnions 15 = .ok (.iload_n 2, 1) := by decide +kernel
theorem dX6_partsByUnions_16 : decode cX6_partsByUnions 16 = .ok (.iastore, 1) := by decide +kernel
theorem dX6_partsByUnions_17 : decode cX6_partsByUnions 17 = .ok (.iinc 2 1, 3) := by decide +kernel
theorem dX6_partsByUnions_20 : decode cX6_partsByUnions 20 = .ok (.goto (-18), 3) := by decide +kernel
theorem dX6_partsByUnions_23 : decode cX6_partsByUnions 23 = .ok (.aload_n 1, 1) := by decide +kernel
theorem dX6_partsByUnions_24 : decode cX6_partsByUnions 24 = .ok (.getfield 21, 3) := by decide +kernel
theorem dX6_partsByUnions_27 : decode cX6_partsByUnions 27 = .ok (.istore_n 2, 1) := by decide +kernel
theorem dX6_partsByUnions_28 : decode cX6_partsByUnions 28 = .ok (.iconst 0, 1) := by decide +kernel
theorem dX6_partsByUnions_29 : decode cX6_partsByUnions 29 = .ok (.istore_n 3, 1) := by decide +kernel
theorem dX6_partsByUnions_30 : decode cX6_partsByUnions 30 = .ok (.iload_n 3, 1) := by decide +kernel
theorem dX6_partsByUnions_31 : decode cX6_partsByUnions 31 = .ok (.aload_n 1, 1) := by decide +kernel
theorem dX6_partsByUnions_32 : decode cX6_partsByUnions 32 = .ok (.getfield 21, 3) := by decide +kernel
theorem dX6_partsByUnions_35 : decode cX6_partsByUnions 35 = .ok (.if_icmp .ge 74, 3) := by decide +kernel
theorem dX6_partsByUnions_38 : decode cX6_partsByUnions 38 = .ok (.iconst 0, 1) := by decide +kernel
theorem dX6_partsByUnions_39 : decode cX6_partsByUnions 39 = .ok (.istore 4, 2) := by decide +kernel
theorem dX6_partsByUnions_41 : decode cX6_partsByUnions 41 = .ok (.iload 4, 2) := by decide +kernel
theorem dX6_partsByUnions_43 : decode cX6_partsByUnions 43 = .ok (.iload_n 3, 1) := by decide +kernel
theorem dX6_partsByUnions_44 : decode cX6_partsByUnions 44 = .ok (.if_icmp .ge 59, 3) := by decide +kernel
theorem dX6_partsByUnions_47 : decode cX6_partsByUnions 47 = .ok (.aload_n 1, 1) := by decide +kernel
theorem dX6_partsByUnions_48 : decode cX6_partsByUnions 48 = .ok (.iload_n 3, 1) := by decide +kernel
theorem dX6_partsByUnions_49 : decode cX6_partsByUnions 49 = .ok (.iload 4, 2) := by decide +kernel
theorem dX6_partsByUnions_51 : decode cX6_partsByUnions 51 = .ok (.invokevirtual 45, 3) := by decide +kernel
theorem dX6_partsByUnions_54 : decode cX6_partsByUnions 54 = .ok (.ifCond .eq 43, 3) := by decide +kernel
theorem dX6_partsByUnions_57 : decode cX6_partsByUnions 57 = .ok (.aload_n 0, 1) := by decide +kernel
theorem dX6_partsByUnions_58 : decode cX6_partsByUnions 58 = .ok (.getfield 18, 3) := by decide +kernel
theorem dX6_partsByUnions_61 : decode cX6_partsByUnions 61 = .ok (.iload_n 3, 1) := by decide +kernel
theorem dX6_partsByUnions_62 : decode cX6_partsByUnions 62 = .ok (.iaload, 1) := by decide +kernel
theorem dX6_partsByUnions_63 : decode cX6_partsByUnions 63 = .ok (.aload_n 0, 1) := by decide +kernel
theorem dX6_partsByUnions_64 : decode cX6_partsByUnions 64 = .ok (.getfield 18, 3) := by decide +kernel
theorem dX6_partsByUnions_67 : decode cX6_partsByUnions 67 = .ok (.iload 4, 2) := by decide +kernel
theorem dX6_partsByUnions_69 : decode cX6_partsByUnions 69 = .ok (.iaload, 1) := by decide +kernel
theorem dX6_partsByUnions_70 : decode cX6_partsByUnions 70 = .ok (.if_icmp .eq 27, 3) := by decide +kernel
theorem dX6_partsByUnions_73 : decode cX6_partsByUnions 73 = .ok (.aload_n 0, 1) := by decide +kernel
theorem dX6_partsByUnions_74 : decode cX6_partsByUnions 74 = .ok (.aload_n 1, 1) := by decide +kernel
theorem dX6_partsByUnions_75 : decode cX6_partsByUnions 75 = .ok (.getfield 21, 3) := by decide +kernel
theorem dX6_partsByUnions_78 : decode cX6_partsByUnions 78 = .ok (.aload_n 0, 1) := by decide +kernel
theorem dX6_partsByUnions_79 : decode cX6_partsByUnions 79 = .ok (.getfield 18, 3) := by decide +kernel
theorem dX6_partsByUnions_82 : decode cX6_partsByUnions 82 = .ok (.iload_n 3, 1) := by decide +kernel
theorem dX6_partsByUnions_83 : decode cX6_partsByUnions 83 = .ok (.iaload, 1) := by decide +kernel
theorem dX6_partsByUnions_84 : decode cX6_partsByUnions 84 = .ok (.aload_n 0, 1) := by decide +kernel
theorem dX6_partsByUnions_85 : decode cX6_partsByUnions 85 = .ok (.getfield 18, 3) := by decide +kernel
theorem dX6_partsByUnions_88 : decode cX6_partsByUnions 88 = .ok (.iload 4, 2) := by decide +kernel
theorem dX6_partsByUnions_90 : decode cX6_partsByUnions 90 = .ok (.iaload, 1) := by decide +kernel
theorem dX6_partsByUnions_91 : decode cX6_partsByUnions 91 = .ok (.invokevirtual 68, 3) := by decide +kernel
theorem dX6_partsByUnions_94 : decode cX6_partsByUnions 94 = .ok (.iinc 2 (-1), 3) := by decide +kernel
theorem dX6_partsByUnions_97 : decode cX6_partsByUnions 97 = .ok (.iinc 4 1, 3) := by decide +kernel
theorem dX6_partsByUnions_100 : decode cX6_partsByUnions 100 = .ok (.goto (-59), 3) := by decide +kernel
theorem dX6_partsByUnions_103 : decode cX6_partsByUnions 103 = .ok (.iinc 3 1, 3) := by decide +kernel
theorem dX6_partsByUnions_106 : decode cX6_partsByUnions 106 = .ok (.goto (-76), 3) := by decide +kernel
theorem dX6_partsByUnions_109 : decode cX6_partsByUnions 109 = .ok (.iload_n 2, 1) := by decide +kernel
theorem dX6_partsByUnions_110 : decode cX6_partsByUnions 110 = .ok (.ireturn, 1) := by decide +kernel
theorem dX6_unite_0 : decode cX6_unite 0 = .ok (.iconst 0, 1) := by decide +kernel
theorem dX6_unite_1 : decode cX6_unite 1 = .ok (.istore 4, 2) := by decide +kernel
theorem dX6_unite_3 : decode cX6_unite 3 = .ok (.iload 4, 2) := by decide +kernel
theorem dX6_unite_5 : decode cX6_unite 5 = .ok (.iload_n 1, 1) := by decide +kernel
theorem dX6_unite_6 : decode cX6_unite 6 = .ok (.if_icmp .ge 28, 3) := by decide +kernel
theorem dX6_unite_9 : decode cX6_unite 9 = .ok (.aload_n 0, 1) := by decide +kernel
theorem dX6_unite_10 : decode cX6_unite 10 = .ok (.getfield 18, 3) := by decide +kernel
theorem dX6_unite_13 : decode cX6_unite 13 = .ok (.iload 4, 2) := by decide +kernel
theorem dX6_unite_15 : decode cX6_unite 15 = .ok (.iaload, 1) := by decide +kernel
theorem dX6_unite_16 : decode cX6_unite 16 = .ok (.iload_n 2, 1) := by decide +kernel
theorem dX6_unite_17 : decode cX6_unite 17 = .ok (.if_icmp .ne 11, 3) := by decide +kernel
theorem dX6_unite_20 : decode cX6_unite 20 = .ok (.aload_n 0, 1) := by decide +kernel
theorem dX6_unite_21 : decode cX6_unite 21 = .ok (.getfield 18, 3) := by decide +kernel
theorem dX6_unite_24 : decode cX6_unite 24 = .ok (.iload 4, 2) := by decide +kernel
theorem dX6_unite_26 : decode cX6_unite 26 = .ok (.iload_n 3, 1) := by decide +kernel
theorem dX6_unite_27 : decode cX6_unite 27 = .ok (.iastore, 1) := by decide +kernel
theorem dX6_unite_28 : decode cX6_unite 28 = .ok (.iinc 4 1, 3) := by decide +kernel
theorem dX6_unite_31 : decode cX6_unite 31 = .ok (.goto (-28), 3) := by decide +kernel
theorem dX6_unite_34 : decode cX6_unite 34 = .ok (.return_, 1) := by decide +kernel
theorem dX7_init_0 : decode cX7_init 0 = .ok (.aload_n 0, 1) := by decide +kernel
theorem dX7_init_1 : decode cX7_init 1 = .ok (.invokespecial 3, 3) := by decide +kernel
theorem dX7_init_4 : decode cX7_init 4 = .ok (.aload_n 0, 1) := by decide +kernel
theorem dX7_init_5 : decode cX7_init 5 = .ok (.new 9, 3) := by decide +kernel
theorem dX7_init_8 : decode cX7_init 8 = .ok (.dup, 1) := by decide +kernel
theorem dX7_init_9 : decode cX7_init 9 = .ok (.invokespecial 11, 3) := by decide +kernel
theorem dX7_init_12 : decode cX7_init 12 = .ok (.putfield 12, 3) := by decide +kernel
theorem dX7_init_15 : decode cX7_init 15 = .ok (.aload_n 0, 1) := by decide +kernel
theorem dX7_init_16 : decode cX7_init 16 = .ok (.bipush 6, 2) := by decide +kernel
theorem dX7_init_18 : decode cX7_init 18 = .ok (.newarray .int, 2) := by decide +kernel
theorem dX7_init_20 : decode cX7_init 20 = .ok (.putfield 18, 3) := by decide +kernel
theorem dX7_init_23 : decode cX7_init 23 = .ok (.aload_n 0, 1) := by decide +kernel
theorem dX7_init_24 : decode cX7_init 24 = .ok (.bipush 6, 2) := by decide +kernel
theorem dX7_init_26 : decode cX7_init 26 = .ok (.newarray .int, 2) := by decide +kernel
theorem dX7_init_28 : decode cX7_init 28 = .ok (.putfield 22, 3) := by decide +kernel
theorem dX7_init_31 : decode cX7_init 31 = .ok (.return_, 1) := by decide +kernel
theorem dX7_aim_0 : decode cX7_aim 0 = .ok (.aload_n 1, 1) := by decide +kernel
theorem dX7_aim_1 : decode cX7_aim 1 = .ok (.iload_n 2, 1) := by decide +kernel
theorem dX7_aim_2 : decode cX7_aim 2 = .ok (.invokevirtual 25, 3) := by decide +kernel
theorem dX7_aim_5 : decode cX7_aim 5 = .ok (.ifCond .eq 11, 3) := by decide +kernel
theorem dX7_aim_8 : decode cX7_aim 8 = .ok (.aload_n 1, 1) := by decide +kernel
theorem dX7_aim_9 : decode cX7_aim 9 = .ok (.iload_n 3, 1) := by decide +kernel
theorem dX7_aim_10 : decode cX7_aim 10 = .ok (.invokevirtual 31, 3) := by decide +kernel
theorem dX7_aim_13 : decode cX7_aim 13 = .ok (.ifCond .ne 6, 3) := by decide +kernel
theorem dX7_aim_16 : decode cX7_aim 16 = .ok (.bipush (-11), 2) := by decide +kernel
theorem dX7_aim_18 : decode cX7_aim 18 = .ok (.ireturn, 1) := by decide +kernel
theorem dX7_aim_19 : decode cX7_aim 19 = .ok (.aload_n 1, 1) := by decide +kernel
theorem dX7_aim_20 : decode cX7_aim 20 = .ok (.getfield 34, 3) := by decide +kernel
theorem dX7_aim_23 : decode cX7_aim 23 = .ok (.iload_n 3, 1) := by decide +kernel
theorem dX7_aim_24 : decode cX7_aim 24 = .ok (.invokestatic 38, 3) := by decide +kernel
theorem dX7_aim_27 : decode cX7_aim 27 = .ok (.ifCond .ne 6, 3) := by decide +kernel
theorem dX7_aim_30 : decode cX7_aim 30 = .ok (.bipush (-12), 2) := by decide +kernel
theorem dX7_aim_32 : decode cX7_aim 32 = .ok (.ireturn, 1) := by decide +kernel
theorem dX7_aim_33 : decode cX7_aim 33 = .ok (.aload_n 1, 1) := by decide +kernel
theorem dX7_aim_34 : decode cX7_aim 34 = .ok (.getfield 42, 3) := by decide +kernel
theorem dX7_aim_37 : decode cX7_aim 37 = .ok (.iload_n 2, 1) := by decide +kernel
theorem dX7_aim_38 : decode cX7_aim 38 = .ok (.iaload, 1) := by decide +kernel
theorem dX7_aim_39 : decode cX7_aim 39 = .ok (.iload_n 3, 1) := by decide +kernel
theorem dX7_aim_40 : decode cX7_aim 40 = .ok (.if_icmp .ne 6, 3) := by decide +kernel
theorem dX7_aim_43 : decode cX7_aim 43 = .ok (.bipush (-14), 2) := by decide +kernel
theorem dX7_aim_45 : decode cX7_aim 45 = .ok (.ireturn, 1) := by decide +kernel
theorem dX7_aim_46 : decode cX7_aim 46 = .ok (.aload_n 0, 1) := by decide +kernel
theorem dX7_aim_47 : decode cX7_aim 47 = .ok (.getfield 12, 3) := by decide +kernel
theorem dX7_aim_50 : decode cX7_aim 50 = .ok (.aload_n 1, 1) := by decide +kernel
theorem dX7_aim_51 : decode cX7_aim 51 = .ok (.aload_n 1, 1) := by decide +kernel
theorem dX7_aim_52 : decode cX7_aim 52 = .ok (.getfield 42, 3) := by decide +kernel
theorem dX7_aim_55 : decode cX7_aim 55 = .ok (.iload_n 2, 1) := by decide +kernel
theorem dX7_aim_56 : decode cX7_aim 56 = .ok (.iaload, 1) := by decide +kernel
theorem dX7_aim_57 : decode cX7_aim 57 = .ok (.invokevirtual 45, 3) := by decide +kernel
theorem dX7_aim_60 : decode cX7_aim 60 = .ok (.aload_n 0, 1) := by decide +kernel
theorem dX7_aim_61 : decode cX7_aim 61 = .ok (.getfield 12, 3) := by decide +kernel
theorem dX7_aim_64 : decode cX7_aim 64 = .ok (.getfield 49, 3) := by decide +kernel
theorem dX7_aim_67 : decode cX7_aim 67 = .ok (.iload_n 3, 1) := by decide +kernel
theorem dX7_aim_68 : decode cX7_aim 68 = .ok (.iaload, 1) := by decide +kernel
theorem dX7_aim_69 : decode cX7_aim 69 = .ok (.istore 4, 2) := by decide +kernel
theorem dX7_aim_71 : decode cX7_aim 71 = .ok (.iload 4, 2) := by decide +kernel
theorem dX7_aim_73 : decode cX7_aim 73 = .ok (.sipush 1000, 3) := by decide +kernel
theorem dX7_aim_76 : decode cX7_aim 76 = .ok (.if_icmp .lt 6, 3) := by decide +kernel
theorem dX7_aim_79 : decode cX7_aim 79 = .ok (.bipush (-15), 2) := by decide +kernel
theorem dX7_aim_81 : decode cX7_aim 81 = .ok (.ireturn, 1) := by decide +kernel
theorem dX7_aim_82 : decode cX7_aim 82 = .ok (.aload_n 1, 1) := by decide +kernel
theorem dX7_aim_83 : decode cX7_aim 83 = .ok (.getfield 52, 3) := by decide +kernel
theorem dX7_aim_86 : decode cX7_aim 86 = .ok (.iload_n 2, 1) := by decide +kernel
theorem dX7_aim_87 : decode cX7_aim 87 = .ok (.iload_n 3, 1) := by decide +kernel
theorem dX7_aim_88 : decode cX7_aim 88 = .ok (.iastore, 1) := by decide +kernel
theorem dX7_aim_89 : decode cX7_aim 89 = .ok (.iload 4, 2) := by decide +kernel
theorem dX7_aim_91 : decode cX7_aim 91 = .ok (.ireturn, 1) := by decide +kernel
theorem dX7_letPass_0 : decode cX7_letPass 0 = .ok (.iload_n 2, 1) := by decide +kernel
theorem dX7_letPass_1 : decode cX7_letPass 1 = .ok (.iconst 1, 1) := by decide +kernel
theorem dX7_letPass_2 : decode cX7_letPass 2 = .ok (.if_icmp .lt 9, 3) := by decide +kernel
theorem dX7_letPass_5 : decode cX7_letPass 5 = .ok (.iload_n 2, 1) := by decide +kernel
theorem dX7_letPass_6 : decode cX7_letPass 6 = .ok (.bipush 50, 2) := by decide +kernel
theorem dX7_letPass_8 : decode cX7_letPass 8 = .ok (.if_icmp .le 6, 3) := by decide +kernel
theorem dX7_letPass_11 : decode cX7_letPass 11 = .ok (.bipush (-12), 2) := by decide +kernel
theorem dX7_letPass_13 : decode cX7_letPass 13 = .ok (.ireturn, 1) := by decide +kernel
theorem dX7_letPass_14 : decode cX7_letPass 14 = .ok (.aload_n 1, 1) := by decide +kernel
theorem dX7_letPass_15 : decode cX7_letPass 15 = .ok (.getfield 55, 3) := by decide +kernel
theorem dX7_letPass_18 : decode cX7_letPass 18 = .ok (.istore_n 3, 1) := by decide +kernel
theorem dX7_letPass_19 : decode cX7_letPass 19 = .ok (.iconst 0, 1) := by decide +kernel
theorem dX7_letPass_20 : decode cX7_letPass 20 = .ok (.istore 4, 2) := by decide +kernel
theorem dX7_letPass_22 : decode cX7_letPass 22 = .ok (.iload 4, 2) := by decide +kernel
theorem dX7_letPass_24 : decode cX7_letPass 24 = .ok (.iload_n 2, 1) := by decide +kernel
theorem dX7_letPass_25 : decode cX7_letPass 25 = .ok (.if_icmp .ge 48, 3) := by decide +kernel
theorem dX7_letPass_28 : decode cX7_letPass 28 = .ok (.iconst 0, 1) := by decide +kernel
theorem dX7_letPass_29 : decode cX7_letPass 29 = .ok (.istore 5, 2) := by decide +kernel
theorem dX7_letPass_31 : decode cX7_letPass 31 = .ok (.iload 5, 2) := by decide +kernel
theorem dX7_letPass_33 : decode cX7_letPass 33 = .ok (.aload_n 1, 1) := by decide +kernel
theorem dX7_letPass_34 : decode cX7_letPass 34 = .ok (.getfield 58, 3) := by decide +kernel
theorem dX7_letPass_37 : decode cX7_letPass 37 = .ok (.if_icmp .ge 20, 3) := by decide +kernel
theorem dX7_letPass_40 : decode cX7_letPass 40 = .ok (.aload_n 0, 1) := by decide +kernel
theorem dX7_letPass_41 : decode cX7_letPass 41 = .ok (.aload_n 1, 1) := by decide +kernel
theorem dX7_letPass_42 : decode cX7_letPass 42 = .ok (.aload_n 1, 1) := by decide +kernel
theorem dX7_letPass_43 : decode cX7_letPass 43 = .ok (.iload 5, 2) := by decide +kernel
theorem dX7_letPass_45 : decode cX7_letPass 45 = .ok (.invokevirtual 61, 3) := by decide +kernel
theorem dX7_letPass_48 : decode cX7_letPass 48 = .ok (.invokevirtual 65, 3) := by decide +kernel
theorem dX7_letPass_51 : decode cX7_letPass 51 = .ok (.iinc 5 1, 3) := by decide +kernel
theorem dX7_letPass_54 : decode cX7_letPass 54 = .ok (.goto (-23), 3) := by decide +kernel
theorem dX7_letPass_57 : decode cX7_letPass 57 = .ok (.aload_n 1, 1) := by decide +kernel
theorem dX7_letPass_58 : decode cX7_letPass 58 = .ok (.dup, 1) := by decide +kernel
theorem dX7_letPass_59 : decode cX7_letPass 59 = .ok (.getfield 68, 3) := by decide +kernel
theorem dX7_letPass_62 : decode cX7_letPass 62 = .ok (.iconst 1, 1) := by decide +kernel
theorem dX7_letPass_63 : decode cX7_letPass 63 = .ok (.iadd, 1) := by decide +kernel
theorem dX7_letPass_64 : decode cX7_letPass 64 = .ok (.putfield 68, 3) := by decide +kernel
theorem dX7_letPass_67 : decode cX7_letPass 67 = .ok (.iinc 4 1, 3) := by decide +kernel
theorem dX7_letPass_70 : decode cX7_letPass 70 = .ok (.goto (-48), 3) := by decide +kernel
theorem dX7_letPass_73 : decode cX7_letPass 73 = .ok (.aload_n 1, 1) := by decide +kernel
theorem dX7_letPass_74 : decode cX7_letPass 74 = .ok (.getfield 55, 3) := by decide +kernel
theorem dX7_letPass_77 : decode cX7_letPass 77 = .ok (.iload_n 3, 1) := by decide +kernel
theorem dX7_letPass_78 : decode cX7_letPass 78 = .ok (.isub, 1) := by decide +kernel
theorem dX7_letPass_79 : decode cX7_letPass 79 = .ok (.ireturn, 1) := by decide +kernel
theorem dX7_consider_0 : decode cX7_consider 0 = .ok (.aload_n 1, 1) := by decide +kernel
theorem dX7_consider_1 : decode cX7_consider 1 = .ok (.iload_n 2, 1) := by decide +kernel
theorem dX7_consider_2 : decode cX7_consider 2 = .ok (.invokevirtual 25, 3) := by decide +kernel
theorem dX7_consider_5 : decode cX7_consider 5 = .ok (.ifCond .eq 14, 3) := by decide +kernel
theorem dX7_consider_8 : decode cX7_consider 8 = .ok (.aload_n 1, 1) := by decide +kernel
theorem dX7_consider_9 : decode cX7_consider 9 = .ok (.getfield 71, 3) := by decide +kernel
theorem dX7_consider_12 : decode cX7_consider 12 = .ok (.iload_n 2, 1) := by decide +kernel
theorem dX7_consider_13 : decode cX7_consider 13 = .ok (.invokestatic 38, 3) := by decide +kernel
theorem dX7_consider_16 : decode cX7_consider 16 = .ok (.ifCond .eq 4, 3) := by decide +kernel
theorem dX7_consider_19 : decode cX7_consider 19 = .ok (.return_, 1) := by decide +kernel
theorem dX7_consider_20 : decode cX7_consider 20 = .ok (.aload_n 1, 1) := by decide +kernel
theorem dX7_consider_21 : decode cX7_consider 21 = .ok (.getfield 74, 3) := by decide +kernel
theorem dX7_consider_24 : decode cX7_consider 24 = .ok (.iload_n 2, 1) := by decide +kernel
theorem dX7_consider_25 : decode cX7_consider 25 = .ok (.iaload, 1) := by decide +kernel
theorem dX7_consider_26 : decode cX7_consider 26 = .ok (.ifCond .le 14, 3) := by decide +kernel
theorem dX7_consider_29 : decode cX7_consider 29 = .ok (.aload_n 1, 1) := by decide +kernel
theorem dX7_consider_30 : decode cX7_consider 30 = .ok (.getfield 74, 3) := by decide +kernel
theorem dX7_consider_33 : decode cX7_consider 33 = .ok (.iload_n 2, 1) := by decide +kernel
theorem dX7_consider_34 : decode cX7_consider 34 = .ok (.dup2, 1) := by decide +kernel
theorem dX7_consider_35 : decode cX7_consider 35 = .ok (.iaload, 1) := by decide +kernel
theorem dX7_consider_36 : decode cX7_consider 36 = .ok (.iconst 1, 1) := by decide +kernel
theorem dX7_consider_37 : decode cX7_consider 37 = .ok (.isub, 1) := by decide +kernel
theorem dX7_consider_38 : decode cX7_consider 38 = .ok (.iastore, 1) := by decide +kernel
theorem dX7_consider_39 : decode cX7_consider 39 = .ok (.return_, 1) := by decide +kernel
theorem dX7_consider_40 : decode cX7_consider 40 = .ok (.aload_n 0, 1) := by decide +kernel
theorem dX7_consider_41 : decode cX7_consider 41 = .ok (.getfield 12, 3) := by decide +kernel
theorem dX7_consider_44 : decode cX7_consider 44 = .ok (.aload_n 1, 1) := by decide +kernel
theorem dX7_consider_45 : decode cX7_consider 45 = .ok (.iload_n 2, 1) := by decide +kernel
theorem dX7_consider_46 : decode cX7_consider 46 = .ok (.invokevirtual 77, 3) := by decide +kernel
theorem dX7_consider_49 : decode cX7_consider 49 = .ok (.istore_n 3, 1) := by decide +kernel
theorem dX7_consider_50 : decode cX7_consider 50 = .ok (.iload_n 3, 1) := by decide +kernel
theorem dX7_consider_51 : decode cX7_consider 51 = .ok (.iconst (-1), 1) := by decide +kernel
theorem dX7_consider_52 : decode cX7_consider 52 = .ok (.if_icmp .ne 4, 3) := by decide +kernel
theorem dX7_consider_55 : decode cX7_consider 55 = .ok (.return_, 1) := by decide +kernel
theorem dX7_consider_56 : decode cX7_consider 56 = .ok (.aload_n 1, 1) := by decide +kernel
theorem dX7_consider_57 : decode cX7_consider 57 = .ok (.iload_n 2, 1) := by decide +kernel
theorem dX7_consider_58 : decode cX7_consider 58 = .ok (.iload_n 3, 1) := by decide +kernel
theorem dX7_consider_59 : decode cX7_consider 59 = .ok (.invokevirtual 81, 3) := by decide +kernel
theorem dX7_consider_62 : decode cX7_consider 62 = .ok (.ifCond .eq 12, 3) := by decide +kernel
theorem dX7_consider_65 : decode cX7_consider 65 = .ok (.aload_n 1, 1) := by decide +kernel
theorem dX7_consider_66 : decode cX7_consider 66 = .ok (.iload_n 2, 1) := by decide +kernel
theorem dX7_consider_67 : decode cX7_consider 67 = .ok (.iload_n 3, 1) := by decide +kernel
theorem dX7_consider_68 : decode cX7_consider 68 = .ok (.invokevirtual 84, 3) := by decide +kernel
theorem dX7_consider_71 : decode cX7_consider 71 = .ok (.goto 13, 3) := by decide +kernel
theorem dX7_consider_74 : decode cX7_consider 74 = .ok (.aload_n 1, 1) := by decide +kernel
theorem dX7_consider_75 : decode cX7_consider 75 = .ok (.getfield 88, 3) := by decide +kernel
theorem dX7_consider_78 : decode cX7_consider 78 = .ok (.iload_n 2, 1) := by decide +kernel
theorem dX7_consider_79 : decode cX7_consider 79 = .ok (.dup2, 1) := by decide +kernel
theorem dX7_consider_80 : decode cX7_consider 80 = .ok (.iaload, 1) := by decide +kernel
theorem dX7_consider_81 : decode cX7_consider 81 = .ok (.iconst 1, 1) := by decide +kernel
theorem dX7_consider_82 : decode cX7_consider 82 = .ok (.iadd, 1) := by decide +kernel
theorem dX7_consider_83 : decode cX7_consider 83 = .ok (.iastore, 1) := by decide +kernel
theorem dX7_consider_84 : decode cX7_consider 84 = .ok (.return_, 1) := by decide +kernel
theorem dX7_ticksToGoal_0 : decode cX7_ticksToGoal 0 = .ok (.iconst 1, 1) := by decide +kernel
theorem dX7_ticksToGoal_1 : decode cX7_ticksToGoal 1 = .ok (.istore_n 3, 1) := by decide +kernel
theorem dX7_ticksToGoal_2 : decode cX7_ticksToGoal 2 = .ok (.iload_n 3, 1) := by decide +kernel
theorem dX7_ticksToGoal_3 : decode cX7_ticksToGoal 3 = .ok (.bipush 99, 2) := by decide +kernel
theorem dX7_ticksToGoal_5 : decode cX7_ticksToGoal 5 = .ok (.if_icmp .gt 28, 3) := by decide +kernel
theorem dX7_ticksToGoal_8 : decode cX7_ticksToGoal 8 = .ok (.aload_n 0, 1) := by decide +kernel
theorem dX7_ticksToGoal_9 : decode cX7_ticksToGoal 9 = .ok (.aload_n 1, 1) := by decide +kernel
theorem dX7_ticksToGoal_10 : decode cX7_ticksToGoal 10 = .ok (.iconst 1, 1) := by decide +kernel
theorem dX7_ticksToGoal_11 : decode cX7_ticksToGoal 11 = .ok (.invokevirtual 91, 3) := by decide +kernel
theorem dX7_ticksToGoal_14 : decode cX7_ticksToGoal 14 = .ok (.pop, 1) := by decide +kernel
theorem dX7_ticksToGoal_15 : decode cX7_ticksToGoal 15 = .ok (.aload_n 1, 1) := by decide +kernel
theorem dX7_ticksToGoal_16 : decode cX7_ticksToGoal 16 = .ok (.getfield 52, 3) := by decide +kernel
theorem dX7_ticksToGoal_19 : decode cX7_ticksToGoal 19 = .ok (.iload_n 2, 1) := by decide +kernel
theorem dX7_ticksToGoal_20 : decode cX7_ticksToGoal 20 = .ok (.iaload, 1) := by decide +kernel
theorem dX7_ticksToGoal_21 : decode cX7_ticksToGoal 21 = .ok (.iconst (-1), 1) := by decide +kernel
theorem dX7_ticksToGoal_22 : decode cX7_ticksToGoal 22 = .ok (.if_icmp .ne 5, 3) := by decide +kernel
theorem dX7_ticksToGoal_25 : decode cX7_ticksToGoal 25 = .ok (.iload_n 3, 1) := by decide +kernel
theorem dX7_ticksToGoal_26 : decode cX7_ticksToGoal 26 = .ok (.ireturn, 1) := by decide +kernel
theorem dX7_ticksToGoal_27 : decode cX7_ticksToGoal 27 = .ok (.iinc 3 1, 3) := by decide +kernel
theorem dX7_ticksToGoal_30 : decode cX7_ticksToGoal 30 = .ok (.goto (-28), 3) := by decide +kernel
theorem dX7_ticksToGoal_33 : decode cX7_ticksToGoal 33 = .ok (.iconst (-1), 1) := by decide +kernel
theorem dX7_ticksToGoal_34 : decode cX7_ticksToGoal 34 = .ok (.ireturn, 1) := by decide +kernel
theorem dX7_blockerOf_0 : decode cX7_blockerOf 0 = .ok (.aload_n 1, 1) := by decide +kernel
theorem dX7_blockerOf_1 : decode cX7_blockerOf 1 = .ok (.getfield 71, 3) := by decide +kernel
theorem dX7_blockerOf_4 : decode cX7_blockerOf 4 = .ok (.iload_n 2, 1) := by decide +kernel
theorem dX7_blockerOf_5 : decode cX7_blockerOf 5 = .ok (.invokestatic 38, 3) := by decide +kernel
theorem dX7_blockerOf_8 : decode cX7_blockerOf 8 = .ok (.ifCond .eq 5, 3) := by decide +kernel
theorem dX7_blockerOf_11 : decode cX7_blockerOf 11 = .ok (.iconst (-1), 1) := by decide +kernel
theorem dX7_blockerOf_12 : decode cX7_blockerOf 12 = .ok (.ireturn, 1) := by decide +kernel
theorem dX7_blockerOf_13 : decode cX7_blockerOf 13 = .ok (.aload_n 0, 1) := by decide +kernel
theorem dX7_blockerOf_14 : decode cX7_blockerOf 14 = .ok (.getfield 12, 3) := by decide +kernel
theorem dX7_blockerOf_17 : decode cX7_blockerOf 17 = .ok (.aload_n 1, 1) := by decide +kernel
theorem dX7_blockerOf_18 : decode cX7_blockerOf 18 = .ok (.iload_n 2, 1) := by decide +kernel
theorem dX7_blockerOf_19 : decode cX7_blockerOf 19 = .ok (.invokevirtual 77, 3) := by decide +kernel
theorem dX7_blockerOf_22 : decode cX7_blockerOf 22 = .ok (.istore_n 3, 1) := by decide +kernel
theorem dX7_blockerOf_23 : decode cX7_blockerOf 23 = .ok (.iload_n 3, 1) := by decide +kernel
theorem dX7_blockerOf_24 : decode cX7_blockerOf 24 = .ok (.iconst (-1), 1) := by decide +kernel
theorem dX7_blockerOf_25 : decode cX7_blockerOf 25 = .ok (.if_icmp .ne 7, 3) := by decide +kernel
theorem dX7_blockerOf_28 : decode cX7_blockerOf 28 = .ok (.iconst (-1), 1) := by decide +kernel
theorem dX7_blockerOf_29 : decode cX7_blockerOf 29 = .ok (.goto 8, 3) := by decide +kernel
theorem dX7_blockerOf_32 : decode cX7_blockerOf 32 = .ok (.aload_n 1, 1) := by decide +kernel
theorem dX7_blockerOf_33 : decode cX7_blockerOf 33 = .ok (.iload_n 3, 1) := by decide +kernel
theorem dX7_blockerOf_34 : decode cX7_blockerOf 34 = .ok (.invokevirtual 94, 3) := by decide +kernel
theorem dX7_blockerOf_37 : decode cX7_blockerOf 37 = .ok (.ireturn, 1) := by decide +kernel
theorem dX7_stuckByFollowing_0 : decode cX7_stuckByFollowing 0 = .ok (.iconst 0, 1) := by decide +kernel
theorem dX7_stuckByFollowing_1 : decode cX7_stuckByFollowing 1 = .ok (.istore_n 2, 1) := by decide +kernel
theorem dX7_stuckByFollowing_2 : decode cX7_stuckByFollowing 2 = .ok (.iload_n 2, 1) := by decide +kernel
theorem dX7_stuckByFollowing_3 : decode cX7_stuckByFollowing 3 = .ok (.aload_n 1, 1) := by decide +kernel
theorem dX7_stuckByFollowing_4 : decode cX7_stuckByFollowing 4 = .ok (.getfield 58, 3) := by decide +kernel
theorem dX7_stuckByFollowing_7 : decode cX7_stuckByFollowing 7 = .ok (.if_icmp .ge 21, 3) := by decide +kernel
theorem dX7_stuckByFollowing_10 : decode cX7_stuckByFollowing 10 = .ok (.aload_n 0, 1) := by decide +kernel
theorem dX7_stuckByFollowing_11 : decode cX7_stuckByFollowing 11 = .ok (.getfield 18, 3) := by decide +kernel
theorem dX7_stuckByFollowing_14 : decode cX7_stuckByFollowing 14 = .ok (.iload_n 2, 1) := by decide +kernel
theorem dX7_stuckByFollowing_15 : decode cX7_stuckByFollowing 15 = .ok (.aload_n 0, 1) := by decide +kernel
theorem dX7_stuckByFollowing_16 : decode cX7_stuckByFollowing 16 = .ok (.aload_n 1, 1) := by decide +kernel
theorem dX7_stuckByFollowing_17 : decode cX7_stuckByFollowing 17 = .ok (.iload_n 2, 1) := by decide +kernel
theorem dX7_stuckByFollowing_18 : decode cX7_stuckByFollowing 18 = .ok (.invokevirtual 97, 3) := by decide +kernel
theorem dX7_stuckByFollowing_21 : decode cX7_stuckByFollowing 21 = .ok (.iastore, 1) := by decide +kernel
theorem dX7_stuckByFollowing_22 : decode cX7_stuckByFollowing 22 = .ok (.iinc 2 1, 3) := by decide +kernel
theorem dX7_stuckByFollowing_25 : decode cX7_stuckByFollowing 25 = .ok (.goto (-23), 3) := by decide +kernel
theorem dX7_stuckByFollowing_28 : decode cX7_stuckByFollowing 28 = .ok (.iconst 0, 1) := by decide +kernel
theorem dX7_stuckByFollowing_29 : decode cX7_stuckByFollowing 29 = .ok (.istore_n 2, 1) := by decide +kernel
theorem dX7_stuckByFollowing_30 : decode cX7_stuckByFollowing 30 = .ok (.iconst 0, 1) := by decide +kernel
theorem dX7_stuckByFollowing_31 : decode cX7_stuckByFollowing 31 = .ok (.istore_n 3, 1) := by decide +kernel
theorem dX7_stuckByFollowing_32 : decode cX7_stuckByFollowing 32 = .ok (.iload_n 3, 1) := by decide +kernel
theorem dX7_stuckByFollowing_33 : decode cX7_stuckByFollowing 33 = .ok (.aload_n 1, 1) := by decide +kernel
theorem dX7_stuckByFollowing_34 : decode cX7_stuckByFollowing 34 = .ok (.getfield 58, 3) := by decide +kernel
theorem dX7_stuckByFollowing_37 : decode cX7_stuckByFollowing 37 = .ok (.if_icmp .ge 24, 3) := by decide +kernel
theorem dX7_stuckByFollowing_40 : decode cX7_stuckByFollowing 40 = .ok (.aload_n 0, 1) := by decide +kernel
theorem dX7_stuckByFollowing_41 : decode cX7_stuckByFollowing 41 = .ok (.iload_n 3, 1) := by decide +kernel
theorem dX7_stuckByFollowing_42 : decode cX7_stuckByFollowing 42 = .ok (.aload_n 1, 1) := by decide +kernel
theorem dX7_stuckByFollowing_43 : decode cX7_stuckByFollowing 43 = .ok (.getfield 58, 3) := by decide +kernel
theorem dX7_stuckByFollowing_46 : decode cX7_stuckByFollowing 46 = .ok (.invokevirtual 100, 3) := by decide +kernel
theorem dX7_stuckByFollowing_49 : decode cX7_stuckByFollowing 49 = .ok (.ifCond .eq 6, 3) := by decide +kernel
theorem dX7_stuckByFollowing_52 : decode cX7_stuckByFollowing 52 = .ok (.iinc 2 1, 3) := by decide +kernel
theorem dX7_stuckByFollowing_55 : decode cX7_stuckByFollowing 55 = .ok (.iinc 3 1, 3) := by decide +kernel
theorem dX7_stuckByFollowing_58 : decode cX7_stuckByFollowing 58 = .ok (.goto (-26), 3) := by decide +kernel
theorem dX7_stuckByFollowing_61 : decode cX7_stuckByFollowing 61 = .ok (.iload_n 2, 1) := by decide +kernel
theorem dX7_stuckByFollowing_62 : decode cX7_stuckByFollowing 62 = .ok (.ireturn, 1) := by decide +kernel
theorem dX7_leadsBack_0 : decode cX7_leadsBack 0 = .ok (.iload_n 1, 1) := by decide +kernel
theorem dX7_leadsBack_1 : decode cX7_leadsBack 1 = .ok (.istore_n 3, 1) := by decide +kernel
theorem dX7_leadsBack_2 : decode cX7_leadsBack 2 = .ok (.iconst 0, 1) := by decide +kernel
theorem dX7_leadsBack_3 : decode cX7_leadsBack 3 = .ok (.istore 4, 2) := by decide +kernel
theorem dX7_leadsBack_5 : decode cX7_leadsBack 5 = .ok (.iload 4, 2) := by decide +kernel
theorem dX7_leadsBack_7 : decode cX7_leadsBack 7 = .ok (.iload_n 2, 1) := by decide +kernel
theorem dX7_leadsBack_8 : decode cX7_leadsBack 8 = .ok (.if_icmp .ge 30, 3) := by decide +kernel
theorem dX7_leadsBack_11 : decode cX7_leadsBack 11 = .ok (.aload_n 0, 1) := by decide +kernel
theorem dX7_leadsBack_12 : decode cX7_leadsBack 12 = .ok (.getfield 18, 3) := by decide +kernel
theorem dX7_leadsBack_15 : decode cX7_leadsBack 15 = .ok (.iload_n 3, 1) := by decide +kernel
theorem dX7_leadsBack_16 : decode cX7_leadsBack 16 = .ok (.iaload, 1) := by decide +kernel
theorem dX7_leadsBack_17 : decode cX7_leadsBack 17 = .ok (.istore_n 3, 1) := by decide +kernel
theorem dX7_leadsBack_18 : decode cX7_leadsBack 18 = .ok (.iload_n 3, 1) := by decide +kernel
theorem dX7_leadsBack_19 : decode cX7_leadsBack 19 = .ok (.iload_n 1, 1) := by decide +kernel
theorem dX7_leadsBack_20 : decode cX7_leadsBack 20 = .ok (.if_icmp .ne 5, 3) := by decide +kernel
theorem dX7_leadsBack_23 : decode cX7_leadsBack 23 = .ok (.iconst 1, 1) := by decide +kernel
theorem dX7_leadsBack_24 : decode cX7_leadsBack 24 = .ok (.ireturn, 1) := by decide +kernel
theorem dX7_leadsBack_25 : decode cX7_leadsBack 25 = .ok (.iload_n 3, 1) := by decide +kernel
theorem dX7_leadsBack_26 : decode cX7_leadsBack 26 = .ok (.iconst (-1), 1) := by decide +kernel
theorem dX7_leadsBack_27 : decode cX7_leadsBack 27 = .ok (.if_icmp .ne 5, 3) := by decide +kernel
theorem dX7_leadsBack_30 : decode cX7_leadsBack 30 = .ok (.iconst 0, 1) := by decide +kernel
theorem dX7_leadsBack_31 : decode cX7_leadsBack 31 = .ok (.ireturn, 1) := by decide +kernel
theorem dX7_leadsBack_32 : decode cX7_leadsBack 32 = .ok (.iinc 4 1, 3) := by decide +kernel
theorem dX7_leadsBack_35 : decode cX7_leadsBack 35 = .ok (.goto (-30), 3) := by decide +kernel
theorem dX7_leadsBack_38 : decode cX7_leadsBack 38 = .ok (.iconst 0, 1) := by decide +kernel
theorem dX7_leadsBack_39 : decode cX7_leadsBack 39 = .ok (.ireturn, 1) := by decide +kernel
theorem dX7_stuckByTable_0 : decode cX7_stuckByTable 0 = .ok (.iconst 0, 1) := by decide +kernel
theorem dX7_stuckByTable_1 : decode cX7_stuckByTable 1 = .ok (.istore_n 2, 1) := by decide +kernel
theorem dX7_stuckByTable_2 : decode cX7_stuckByTable 2 = .ok (.iload_n 2, 1) := by decide +kernel
theorem dX7_stuckByTable_3 : decode cX7_stuckByTable 3 = .ok (.aload_n 1, 1) := by decide +kernel
theorem dX7_stuckByTable_4 : decode cX7_stuckByTable 4 = .ok (.getfield 58, 3) := by decide +kernel
theorem dX7_stuckByTable_7 : decode cX7_stuckByTable 7 = .ok (.if_icmp .ge 34, 3) := by decide +kernel
theorem dX7_stuckByTable_10 : decode cX7_stuckByTable 10 = .ok (.aload_n 0, 1) := by decide +kernel
theorem dX7_stuckByTable_11 : decode cX7_stuckByTable 11 = .ok (.aload_n 1, 1) := by decide +kernel
theorem dX7_stuckByTable_12 : decode cX7_stuckByTable 12 = .ok (.iload_n 2, 1) := by decide +kernel
theorem dX7_stuckByTable_13 : decode cX7_stuckByTable 13 = .ok (.invokevirtual 97, 3) := by decide +kernel
theorem dX7_stuckByTable_16 : decode cX7_stuckByTable 16 = .ok (.istore_n 3, 1) := by decide +kernel
theorem dX7_stuckByTable_17 : decode cX7_stuckByTable 17 = .ok (.aload_n 0, 1) := by decide +kernel
theorem dX7_stuckByTable_18 : decode cX7_stuckByTable 18 = .ok (.getfield 22, 3) := by decide +kernel
theorem dX7_stuckByTable_21 : decode cX7_stuckByTable 21 = .ok (.iload_n 2, 1) := by decide +kernel
theorem dX7_stuckByTable_22 : decode cX7_stuckByTable 22 = .ok (.iload_n 3, 1) := by decide +kernel
theorem dX7_stuckByTable_23 : decode cX7_stuckByTable 23 = .ok (.iconst (-1), 1) := by decide +kernel
theorem dX7_stuckByTable_24 : decode cX7_stuckByTable 24 = .ok (.if_icmp .ne 7, 3) := by decide +kernel
theorem dX7_stuckByTable_27 : decode cX7_stuckByTable 27 = .ok (.iconst 0, 1) := by decide +kernel
theorem dX7_stuckByTable_28 : decode cX7_stuckByTable 28 = .ok (.goto 6, 3) := by decide +kernel
theorem dX7_stuckByTable_31 : decode cX7_stuckByTable 31 = .ok (.iconst 1, 1) := by decide +kernel
theorem dX7_stuckByTable_32 : decode cX7_stuckByTable 32 = .ok (.iload_n 3, 1) := by decide +kernel
theorem dX7_stuckByTable_33 : decode cX7_stuckByTable 33 = .ok (.ishl, 1) := by decide +kernel
theorem dX7_stuckByTable_34 : decode cX7_stuckByTable 34 = .ok (.iastore, 1) := by decide +kernel
theorem dX7_stuckByTable_35 : decode cX7_stuckByTable 35 = .ok (.iinc 2 1, 3) := by decide +kernel
theorem dX7_stuckByTable_38 : decode cX7_stuckByTable 38 = .ok (.goto (-36), 3) := by decide +kernel
theorem dX7_stuckByTable_41 : decode cX7_stuckByTable 41 = .ok (.iconst 0, 1) := by decide +kernel
theorem dX7_stuckByTable_42 : decode cX7_stuckByTable 42 = .ok (.istore_n 2, 1) := by decide +kernel
theorem dX7_stuckByTable_43 : decode cX7_stuckByTable 43 = .ok (.iload_n 2, 1) := by decide +kernel
theorem dX7_stuckByTable_44 : decode cX7_stuckByTable 44 = .ok (.aload_n 1, 1) := by decide +kernel
theorem dX7_stuckByTable_45 : decode cX7_stuckByTable 45 = .ok (.getfield 58, 3) := by decide +kernel
theorem dX7_stuckByTable_48 : decode cX7_stuckByTable 48 = .ok (.if_icmp .ge 53, 3) := by decide +kernel
theorem dX7_stuckByTable_51 : decode cX7_stuckByTable 51 = .ok (.iconst 0, 1) := by decide +kernel
theorem dX7_stuckByTable_52 : decode cX7_stuckByTable 52 = .ok (.istore_n 3, 1) := by decide +kernel
theorem dX7_stuckByTable_53 : decode cX7_stuckByTable 53 = .ok (.iload_n 3, 1) := by decide +kernel
theorem dX7_stuckByTable_54 : decode cX7_stuckByTable 54 = .ok (.aload_n 1, 1) := by decide +kernel
theorem dX7_stuckByTable_55 : decode cX7_stuckByTable 55 = .ok (.getfield 58, 3) := by decide +kernel
theorem dX7_stuckByTable_58 : decode cX7_stuckByTable 58 = .ok (.if_icmp .ge 37, 3) := by decide +kernel
theorem dX7_stuckByTable_61 : decode cX7_stuckByTable 61 = .ok (.aload_n 0, 1) := by decide +kernel
theorem dX7_stuckByTable_62 : decode cX7_stuckByTable 62 = .ok (.getfield 22, 3) := by decide +kernel
theorem dX7_stuckByTable_65 : decode cX7_stuckByTable 65 = .ok (.iload_n 3, 1) := by decide +kernel
theorem dX7_stuckByTable_66 : decode cX7_stuckByTable 66 = .ok (.iaload, 1) := by decide +kernel
theorem dX7_stuckByTable_67 : decode cX7_stuckByTable 67 = .ok (.iload_n 2, 1) := by decide +kernel
theorem dX7_stuckByTable_68 : decode cX7_stuckByTable 68 = .ok (.invokestatic 38, 3) := by decide +kernel
theorem dX7_stuckByTable_71 : decode cX7_stuckByTable 71 = .ok (.ifCond .eq 18, 3) := by decide +kernel
theorem dX7_stuckByTable_74 : decode cX7_stuckByTable 74 = .ok (.aload_n 0, 1) := by decide +kernel
theorem dX7_stuckByTable_75 : decode cX7_stuckByTable 75 = .ok (.getfield 22, 3) := by decide +kernel
theorem dX7_stuckByTable_78 : decode cX7_stuckByTable 78 = .ok (.iload_n 3, 1) := by decide +kernel
theorem dX7_stuckByTable_79 : decode cX7_stuckByTable 79 = .ok (.dup2, 1) := by decide +kernel
theorem dX7_stuckByTable_80 : decode cX7_stuckByTable 80 = .ok (.iaload, 1) := by decide +kernel
theorem dX7_stuckByTable_81 : decode cX7_stuckByTable 81 = .ok (.aload_n 0, 1) := by decide +kernel
theorem dX7_stuckByTable_82 : decode cX7_stuckByTable 82 = .ok (.getfield 22, 3) := by decide +kernel
theorem dX7_stuckByTable_85 : decode cX7_stuckByTable 85 = .ok (.iload_n 2, 1) := by decide +kernel
theorem dX7_stuckByTable_86 : decode cX7_stuckByTable 86 = .ok (.iaload, 1) := by decide +kernel
theorem dX7_stuckByTable_87 : decode cX7_stuckByTable 87 = .ok (.ior, 1) := by decide +kernel
theorem dX7_stuckByTable_88 : decode cX7_stuckByTable 88 = .ok (.iastore, 1) := by decide +kernel
theorem dX7_stuckByTable_89 : decode cX7_stuckByTable 89 = .ok (.iinc 3 1, 3) := by decide +kernel
theorem dX7_stuckByTable_92 : decode cX7_stuckByTable 92 = .ok (.goto (-39), 3) := by decide +kernel
theorem dX7_stuckByTable_95 : decode cX7_stuckByTable 95 = .ok (.iinc 2 1, 3) := by decide +kernel
theorem dX7_stuckByTable_98 : decode cX7_stuckByTable 98 = .ok (.goto (-55), 3) := by decide +kernel
theorem dX7_stuckByTable_101 : decode cX7_stuckByTable 101 = .ok (.iconst 0, 1) := by decide +kernel
theorem dX7_stuckByTable_102 : decode cX7_stuckByTable 102 = .ok (.istore_n 2, 1) := by decide +kernel
theorem dX7_stuckByTable_103 : decode cX7_stuckByTable 103 = .ok (.iconst 0, 1) := by decide +kernel
theorem dX7_stuckByTable_104 : decode cX7_stuckByTable 104 = .ok (.istore_n 3, 1) := by decide +kernel
theorem dX7_stuckByTable_105 : decode cX7_stuckByTable 105 = .ok (.iload_n 3, 1) := by decide +kernel
theorem dX7_stuckByTable_106 : decode cX7_stuckByTable 106 = .ok (.aload_n 1, 1) := by decide +kernel
theorem dX7_stuckByTable_107 : decode cX7_stuckByTable 107 = .ok (.getfield 58, 3) := by decide +kernel
theorem dX7_stuckByTable_110 : decode cX7_stuckByTable 110 = .ok (.if_icmp .ge 25, 3) := by decide +kernel
theorem dX7_stuckByTable_113 : decode cX7_stuckByTable 113 = .ok (.aload_n 0, 1) := by decide +kernel
theorem dX7_stuckByTable_114 : decode cX7_stuckByTable 114 = .ok (.getfield 22, 3) := by decide +kernel
theorem dX7_stuckByTable_117 : decode cX7_stuckByTable 117 = .ok (.iload_n 3, 1) := by decide +kernel
theorem dX7_stuckByTable_118 : decode cX7_stuckByTable 118 = .ok (.iaload, 1) := by decide +kernel
theorem dX7_stuckByTable_119 : decode cX7_stuckByTable 119 = .ok (.iload_n 3, 1) := by decide +kernel
theorem dX7_stuckByTable_120 : decode cX7_stuckByTable 120 = .ok (.invokestatic 38, 3) := by decide +kernel
theorem dX7_stuckByTable_123 : decode cX7_stuckByTable 123 = .ok (.ifCond .eq 6, 3) := by decide +kernel
theorem dX7_stuckByTable_126 : decode cX7_stuckByTable 126 = .ok (.iinc 2 1, 3) := by decide +kernel
theorem dX7_stuckByTable_129 : decode cX7_stuckByTable 129 = .ok (.iinc 3 1, 3) := by decide +kernel
theorem dX7_stuckByTable_132 : decode cX7_stuckByTable 132 = .ok (.goto (-27), 3) := by decide +kernel
theorem dX7_stuckByTable_135 : decode cX7_stuckByTable 135 = .ok (.iload_n 2, 1) := by decide +kernel
theorem dX7_stuckByTable_136 : decode cX7_stuckByTable 136 = .ok (.ireturn, 1) := by decide +kernel
theorem dX8_init_0 : decode cX8_init 0 = .ok (.aload_n 0, 1) := by decide +kernel
theorem dX8_init_1 : decode cX8_init 1 = .ok (.invokespecial 3, 3) := by decide +kernel
theorem dX8_init_4 : decode cX8_init 4 = .ok (.aload_n 0, 1) := by decide +kernel
theorem dX8_init_5 : decode cX8_init 5 = .ok (.new 9, 3) := by decide +kernel
theorem dX8_init_8 : decode cX8_init 8 = .ok (.dup, 1) := by decide +kernel
theorem dX8_init_9 : decode cX8_init 9 = .ok (.invokespecial 11, 3) := by decide +kernel
theorem dX8_init_12 : decode cX8_init 12 = .ok (.putfield 12, 3) := by decide +kernel
theorem dX8_init_15 : decode cX8_init 15 = .ok (.aload_n 0, 1) := by decide +kernel
theorem dX8_init_16 : decode cX8_init 16 = .ok (.new 9, 3) := by decide +kernel
theorem dX8_init_19 : decode cX8_init 19 = .ok (.dup, 1) := by decide +kernel
theorem dX8_init_20 : decode cX8_init 20 = .ok (.invokespecial 11, 3) := by decide +kernel
theorem dX8_init_23 : decode cX8_init 23 = .ok (.putfield 16, 3) := by decide +kernel
theorem dX8_init_26 : decode cX8_init 26 = .ok (.aload_n 0, 1) := by decide +kernel
theorem dX8_init_27 : decode cX8_init 27 = .ok (.new 9, 3) := by decide +kernel
theorem dX8_init_30 : decode cX8_init 30 = .ok (.dup, 1) := by decide +kernel
theorem dX8_init_31 : decode cX8_init 31 = .ok (.invokespecial 11, 3) := by decide +kernel
theorem dX8_init_34 : decode cX8_init 34 = .ok (.putfield 19, 3) := by decide +kernel
theorem dX8_init_37 : decode cX8_init 37 = .ok (.aload_n 0, 1) := by decide +kernel
theorem dX8_init_38 : decode cX8_init 38 = .ok (.new 22, 3) := by decide +kernel
theorem dX8_init_41 : decode cX8_init 41 = .ok (.dup, 1) := by decide +kernel
theorem dX8_init_42 : decode cX8_init 42 = .ok (.invokespecial 24, 3) := by decide +kernel
theorem dX8_init_45 : decode cX8_init 45 = .ok (.putfield 25, 3) := by decide +kernel
theorem dX8_init_48 : decode cX8_init 48 = .ok (.aload_n 0, 1) := by decide +kernel
theorem dX8_init_49 : decode cX8_init 49 = .ok (.new 29, 3) := by decide +kernel
theorem dX8_init_52 : decode cX8_init 52 = .ok (.dup, 1) := by decide +kernel
theorem dX8_init_53 : decode cX8_init 53 = .ok (.invokespecial 31, 3) := by decide +kernel
theorem dX8_init_56 : decode cX8_init 56 = .ok (.putfield 32, 3) := by decide +kernel
theorem dX8_init_59 : decode cX8_init 59 = .ok (.aload_n 0, 1) := by decide +kernel
theorem dX8_init_60 : decode cX8_init 60 = .ok (.new 36, 3) := by decide +kernel
theorem dX8_init_63 : decode cX8_init 63 = .ok (.dup, 1) := by decide +kernel
theorem dX8_init_64 : decode cX8_init 64 = .ok (.invokespecial 38, 3) := by decide +kernel
theorem dX8_init_67 : decode cX8_init 67 = .ok (.putfield 39, 3) := by decide +kernel
theorem dX8_init_70 : decode cX8_init 70 = .ok (.aload_n 0, 1) := by decide +kernel
theorem dX8_init_71 : decode cX8_init 71 = .ok (.new 43, 3) := by decide +kernel
theorem dX8_init_74 : decode cX8_init 74 = .ok (.dup, 1) := by decide +kernel
theorem dX8_init_75 : decode cX8_init 75 = .ok (.invokespecial 45, 3) := by decide +kernel
theorem dX8_init_78 : decode cX8_init 78 = .ok (.putfield 46, 3) := by decide +kernel
theorem dX8_init_81 : decode cX8_init 81 = .ok (.aload_n 0, 1) := by decide +kernel
theorem dX8_init_82 : decode cX8_init 82 = .ok (.new 50, 3) := by decide +kernel
theorem dX8_init_85 : decode cX8_init 85 = .ok (.dup, 1) := by decide +kernel
theorem dX8_init_86 : decode cX8_init 86 = .ok (.invokespecial 52, 3) := by decide +kernel
theorem dX8_init_89 : decode cX8_init 89 = .ok (.putfield 53, 3) := by decide +kernel
theorem dX8_init_92 : decode cX8_init 92 = .ok (.aload_n 0, 1) := by decide +kernel
theorem dX8_init_93 : decode cX8_init 93 = .ok (.iconst 0, 1) := by decide +kernel
theorem dX8_init_94 : decode cX8_init 94 = .ok (.putfield 57, 3) := by decide +kernel
theorem dX8_init_97 : decode cX8_init 97 = .ok (.aload_n 0, 1) := by decide +kernel
theorem dX8_init_98 : decode cX8_init 98 = .ok (.iconst (-1), 1) := by decide +kernel
theorem dX8_init_99 : decode cX8_init 99 = .ok (.putfield 61, 3) := by decide +kernel
theorem dX8_init_102 : decode cX8_init 102 = .ok (.aload_n 0, 1) := by decide +kernel
theorem dX8_init_103 : decode cX8_init 103 = .ok (.iconst (-1), 1) := by decide +kernel
theorem dX8_init_104 : decode cX8_init 104 = .ok (.putfield 65, 3) := by decide +kernel
theorem dX8_init_107 : decode cX8_init 107 = .ok (.return_, 1) := by decide +kernel
theorem dX8_addBlock_0 : decode cX8_addBlock 0 = .ok (.aload_n 0, 1) := by decide +kernel
theorem dX8_addBlock_1 : decode cX8_addBlock 1 = .ok (.getfield 25, 3) := by decide +kernel
theorem dX8_addBlock_4 : decode cX8_addBlock 4 = .ok (.aload_n 0, 1) := by decide +kernel
theorem dX8_addBlock_5 : decode cX8_addBlock 5 = .ok (.getfield 12, 3) := by decide +kernel
theorem dX8_addBlock_8 : decode cX8_addBlock 8 = .ok (.invokevirtual 68, 3) := by decide +kernel
theorem dX8_addBlock_11 : decode cX8_addBlock 11 = .ok (.aload_n 0, 1) := by decide +kernel
theorem dX8_addBlock_12 : decode cX8_addBlock 12 = .ok (.aload_n 0, 1) := by decide +kernel
theorem dX8_addBlock_13 : decode cX8_addBlock 13 = .ok (.getfield 12, 3) := by decide +kernel
theorem dX8_addBlock_16 : decode cX8_addBlock 16 = .ok (.iload_n 1, 1) := by decide +kernel
theorem dX8_addBlock_17 : decode cX8_addBlock 17 = .ok (.iconst 0, 1) := by decide +kernel
theorem dX8_addBlock_18 : decode cX8_addBlock 18 = .ok (.invokevirtual 72, 3) := by decide +kernel
theorem dX8_addBlock_21 : decode cX8_addBlock 21 = .ok (.invokevirtual 76, 3) := by decide +kernel
theorem dX8_addBlock_24 : decode cX8_addBlock 24 = .ok (.ireturn, 1) := by decide +kernel
theorem dX8_addCushion_0 : decode cX8_addCushion 0 = .ok (.aload_n 0, 1) := by decide +kernel
theorem dX8_addCushion_1 : decode cX8_addCushion 1 = .ok (.getfield 25, 3) := by decide +kernel
theorem dX8_addCushion_4 : decode cX8_addCushion 4 = .ok (.aload_n 0, 1) := by decide +kernel
theorem dX8_addCushion_5 : decode cX8_addCushion 5 = .ok (.getfield 12, 3) := by decide +kernel
theorem dX8_addCushion_8 : decode cX8_addCushion 8 = .ok (.invokevirtual 68, 3) := by decide +kernel
theorem dX8_addCushion_11 : decode cX8_addCushion 11 = .ok (.aload_n 0, 1) := by decide +kernel
theorem dX8_addCushion_12 : decode cX8_addCushion 12 = .ok (.aload_n 0, 1) := by decide +kernel
theorem dX8_addCushion_13 : decode cX8_addCushion 13 = .ok (.getfield 12, 3) := by decide +kernel
theorem dX8_addCushion_16 : decode cX8_addCushion 16 = .ok (.iload_n 1, 1) := by decide +kernel
theorem dX8_addCushion_17 : decode cX8_addCushion 17 = .ok (.iconst 1, 1) := by decide +kernel
theorem dX8_addCushion_18 : decode cX8_addCushion 18 = .ok (.invokevirtual 72, 3) := by decide +kernel
theorem dX8_addCushion_21 : decode cX8_addCushion 21 = .ok (.invokevirtual 76, 3) := by decide +kernel
theorem dX8_addCushion_24 : decode cX8_addCushion 24 = .ok (.ireturn, 1) := by decide +kernel
theorem dX8_link_0 : decode cX8_link 0 = .ok (.aload_n 0, 1) := by decide +kernel
theorem dX8_link_1 : decode cX8_link 1 = .ok (.getfield 25, 3) := by decide +kernel
theorem dX8_link_4 : decode cX8_link 4 = .ok (.aload_n 0, 1) := by decide +kernel
theorem dX8_link_5 : decode cX8_link 5 = .ok (.getfield 12, 3) := by decide +kernel
theorem dX8_link_8 : decode cX8_link 8 = .ok (.invokevirtual 68, 3) := by decide +kernel
theorem dX8_link_11 : decode cX8_link 11 = .ok (.aload_n 0, 1) := by decide +kernel
theorem dX8_link_12 : decode cX8_link 12 = .ok (.aload_n 0, 1) := by decide +kernel
theorem dX8_link_13 : decode cX8_link 13 = .ok (.getfield 12, 3) := by decide +kernel
theorem dX8_link_16 : decode cX8_link 16 = .ok (.iload_n 1, 1) := by decide +kernel
theorem dX8_link_17 : decode cX8_link 17 = .ok (.iload_n 2, 1) := by decide +kernel
theorem dX8_link_18 : decode cX8_link 18 = .ok (.invokevirtual 80, 3) := by decide +kernel
theorem dX8_link_21 : decode cX8_link 21 = .ok (.invokevirtual 76, 3) := by decide +kernel
theorem dX8_link_24 : decode cX8_link 24 = .ok (.ireturn, 1) := by decide +kernel
theorem dX8_unlink_0 : decode cX8_unlink 0 = .ok (.aload_n 0, 1) := by decide +kernel
theorem dX8_unlink_1 : decode cX8_unlink 1 = .ok (.getfield 25, 3) := by decide +kernel
theorem dX8_unlink_4 : decode cX8_unlink 4 = .ok (.aload_n 0, 1) := by decide +kernel
theorem dX8_unlink_5 : decode cX8_unlink 5 = .ok (.getfield 12, 3) := by decide +kernel
theorem dX8_unlink_8 : decode cX8_unlink 8 = .ok (.invokevirtual 68, 3) := by decide +kernel
theorem dX8_unlink_11 : decode cX8_unlink 11 = .ok (.aload_n 0, 1) := by decide +kernel
theorem dX8_unlink_12 : decode cX8_unlink 12 = .ok (.aload_n 0, 1) := by decide +kernel
theorem dX8_unlink_13 : decode cX8_unlink 13 = .ok (.getfield 12, 3) := by decide +kernel
theorem dX8_unlink_16 : decode cX8_unlink 16 = .ok (.iload_n 1, 1) := by decide +kernel
theorem dX8_unlink_17 : decode cX8_unlink 17 = .ok (.iload_n 2, 1) := by decide +kernel
theorem dX8_unlink_18 : decode cX8_unlink 18 = .ok (.invokevirtual 84, 3) := by decide +kernel
theorem dX8_unlink_21 : decode cX8_unlink 21 = .ok (.invokevirtual 76, 3) := by decide +kernel
theorem dX8_unlink_24 : decode cX8_unlink 24 = .ok (.ireturn, 1) := by decide +kernel
theorem dX8_putCat_0 : decode cX8_putCat 0 = .ok (.aload_n 0, 1) := by decide +kernel
theorem dX8_putCat_1 : decode cX8_putCat 1 = .ok (.getfield 25, 3) := by decide +kernel
theorem dX8_putCat_4 : decode cX8_putCat 4 = .ok (.aload_n 0, 1) := by decide +kernel
theorem dX8_putCat_5 : decode cX8_putCat 5 = .ok (.getfield 12, 3) := by decide +kernel
theorem dX8_putCat_8 : decode cX8_putCat 8 = .ok (.invokevirtual 68, 3) := by decide +kernel
theorem dX8_putCat_11 : decode cX8_putCat 11 = .ok (.aload_n 0, 1) := by decide +kernel
theorem dX8_putCat_12 : decode cX8_putCat 12 = .ok (.aload_n 0, 1) := by decide +kernel
theorem dX8_putCat_13 : decode cX8_putCat 13 = .ok (.getfield 12, 3) := by decide +kernel
theorem dX8_putCat_16 : decode cX8_putCat 16 = .ok (.iload_n 1, 1) := by decide +kernel
theorem dX8_putCat_17 : decode cX8_putCat 17 = .ok (.invokevirtual 87, 3) := by decide +kernel
theorem dX8_putCat_20 : decode cX8_putCat 20 = .ok (.invokevirtual 76, 3) := by decide +kernel
theorem dX8_putCat_23 : decode cX8_putCat 23 = .ok (.ireturn, 1) := by decide +kernel
theorem dX8_removeCat_0 : decode cX8_removeCat 0 = .ok (.aload_n 0, 1) := by decide +kernel
theorem dX8_removeCat_1 : decode cX8_removeCat 1 = .ok (.getfield 25, 3) := by decide +kernel
theorem dX8_removeCat_4 : decode cX8_removeCat 4 = .ok (.aload_n 0, 1) := by decide +kernel
theorem dX8_removeCat_5 : decode cX8_removeCat 5 = .ok (.getfield 12, 3) := by decide +kernel
theorem dX8_removeCat_8 : decode cX8_removeCat 8 = .ok (.invokevirtual 68, 3) := by decide +kernel
theorem dX8_removeCat_11 : decode cX8_removeCat 11 = .ok (.aload_n 0, 1) := by decide +kernel
theorem dX8_removeCat_12 : decode cX8_removeCat 12 = .ok (.aload_n 0, 1) := by decide +kernel
theorem dX8_removeCat_13 : decode cX8_removeCat 13 = .ok (.getfield 12, 3) := by decide +kernel
theorem dX8_removeCat_16 : decode cX8_removeCat 16 = .ok (.iload_n 1, 1) := by decide +kernel
theorem dX8_removeCat_17 : decode cX8_removeCat 17 = .ok (.invokevirtual 90, 3) := by decide +kernel
theorem dX8_removeCat_20 : decode cX8_removeCat 20 = .ok (.invokevirtual 76, 3) := by decide +kernel
theorem dX8_removeCat_23 : decode cX8_removeCat 23 = .ok (.ireturn, 1) := by decide +kernel
theorem dX8_blockCount_0 : decode cX8_blockCount 0 = .ok (.aload_n 0, 1) := by decide +kernel
theorem dX8_blockCount_1 : decode cX8_blockCount 1 = .ok (.getfield 12, 3) := by decide +kernel
theorem dX8_blockCount_4 : decode cX8_blockCount 4 = .ok (.getfield 93, 3) := by decide +kernel
theorem dX8_blockCount_7 : decode cX8_blockCount 7 = .ok (.ireturn, 1) := by decide +kernel
theorem dX8_length_0 : decode cX8_length 0 = .ok (.aload_n 0, 1) := by decide +kernel
theorem dX8_length_1 : decode cX8_length 1 = .ok (.iload_n 1, 1) := by decide +kernel
theorem dX8_length_2 : decode cX8_length 2 = .ok (.invokevirtual 96, 3) := by decide +kernel
theorem dX8_length_5 : decode cX8_length 5 = .ok (.aload_n 0, 1) := by decide +kernel
theorem dX8_length_6 : decode cX8_length 6 = .ok (.getfield 12, 3) := by decide +kernel
theorem dX8_length_9 : decode cX8_length 9 = .ok (.getfield 100, 3) := by decide +kernel
theorem dX8_length_12 : decode cX8_length 12 = .ok (.iload_n 1, 1) := by decide +kernel
theorem dX8_length_13 : decode cX8_length 13 = .ok (.iaload, 1) := by decide +kernel
theorem dX8_length_14 : decode cX8_length 14 = .ok (.ireturn, 1) := by decide +kernel
theorem dX8_isCushion_0 : decode cX8_isCushion 0 = .ok (.aload_n 0, 1) := by decide +kernel
theorem dX8_isCushion_1 : decode cX8_isCushion 1 = .ok (.iload_n 1, 1) := by decide +kernel
theorem dX8_isCushion_2 : decode cX8_isCushion 2 = .ok (.invokevirtual 96, 3) := by decide +kernel
theorem dX8_isCushion_5 : decode cX8_isCushion 5 = .ok (.aload_n 0, 1) := by decide +kernel
theorem dX8_isCushion_6 : decode cX8_isCushion 6 = .ok (.getfield 12, 3) := by decide +kernel
theorem dX8_isCushion_9 : decode cX8_isCushion 9 = .ok (.getfield 104, 3) := by decide +kernel
theorem dX8_isCushion_12 : decode cX8_isCushion 12 = .ok (.iload_n 1, 1) := by decide +kernel
theorem dX8_isCushion_13 : decode cX8_isCushion 13 = .ok (.invokestatic 107, 3) := by decide +kernel
theorem dX8_isCushion_16 : decode cX8_isCushion 16 = .ok (.ireturn, 1) := by decide +kernel
theorem dX8_hasCat_0 : decode cX8_hasCat 0 = .ok (.aload_n 0, 1) := by decide +kernel
theorem dX8_hasCat_1 : decode cX8_hasCat 1 = .ok (.iload_n 1, 1) := by decide +kernel
theorem dX8_hasCat_2 : decode cX8_hasCat 2 = .ok (.invokevirtual 96, 3) := by decide +kernel
theorem dX8_hasCat_5 : decode cX8_hasCat 5 = .ok (.aload_n 0, 1) := by decide +kernel
theorem dX8_hasCat_6 : decode cX8_hasCat 6 = .ok (.getfield 12, 3) := by decide +kernel
theorem dX8_hasCat_9 : decode cX8_hasCat 9 = .ok (.getfield 111, 3) := by decide +kernel
theorem dX8_hasCat_12 : decode cX8_hasCat 12 = .ok (.iload_n 1, 1) := by decide +kernel
theorem dX8_hasCat_13 : decode cX8_hasCat 13 = .ok (.invokestatic 107, 3) := by decide +kernel
theorem dX8_hasCat_16 : decode cX8_hasCat 16 = .ok (.ireturn, 1) := by decide +kernel
theorem dX8_areLinked_0 : decode cX8_areLinked 0 = .ok (.aload_n 0, 1) := by decide +kernel
theorem dX8_areLinked_1 : decode cX8_areLinked 1 = .ok (.iload_n 1, 1) := by decide +kernel
theorem dX8_areLinked_2 : decode cX8_areLinked 2 = .ok (.invokevirtual 96, 3) := by decide +kernel
theorem dX8_areLinked_5 : decode cX8_areLinked 5 = .ok (.aload_n 0, 1) := by decide +kernel
theorem dX8_areLinked_6 : decode cX8_areLinked 6 = .ok (.iload_n 2, 1) := by decide +kernel
theorem dX8_areLinked_7 : decode cX8_areLinked 7 = .ok (.invokevirtual 96, 3) := by decide +kernel
theorem dX8_areLinked_10 : decode cX8_areLinked 10 = .ok (.aload_n 0, 1) := by decide +kernel
theorem dX8_areLinked_11 : decode cX8_areLinked 11 = .ok (.getfield 12, 3) := by decide +kernel
theorem dX8_areLinked_14 : decode cX8_areLinked 14 = .ok (.iload_n 1, 1) := by decide +kernel
theorem dX8_areLinked_15 : decode cX8_areLinked 15 = .ok (.iload_n 2, 1) := by decide +kernel
theorem dX8_areLinked_16 : decode cX8_areLinked 16 = .ok (.invokevirtual 114, 3) := by decide +kernel
theorem dX8_areLinked_19 : decode cX8_areLinked 19 = .ok (.ireturn, 1) := by decide +kernel
theorem dX8_degree_0 : decode cX8_degree 0 = .ok (.aload_n 0, 1) := by decide +kernel
theorem dX8_degree_1 : decode cX8_degree 1 = .ok (.iload_n 1, 1) := by decide +kernel
theorem dX8_degree_2 : decode cX8_degree 2 = .ok (.invokevirtual 96, 3) := by decide +kernel
theorem dX8_degree_5 : decode cX8_degree 5 = .ok (.aload_n 0, 1) := by decide +kernel
theorem dX8_degree_6 : decode cX8_degree 6 = .ok (.getfield 12, 3) := by decide +kernel
theorem dX8_degree_9 : decode cX8_degree 9 = .ok (.getfield 117, 3) := by decide +kernel
theorem dX8_degree_12 : decode cX8_degree 12 = .ok (.iload_n 1, 1) := by decide +kernel
theorem dX8_degree_13 : decode cX8_degree 13 = .ok (.iaload, 1) := by decide +kernel
theorem dX8_degree_14 : decode cX8_degree 14 = .ok (.invokestatic 120, 3) := by decide +kernel
theorem dX8_degree_17 : decode cX8_degree 17 = .ok (.ireturn, 1) := by decide +kernel
theorem dX8_trainIn_0 : decode cX8_trainIn 0 = .ok (.aload_n 0, 1) := by decide +kernel
theorem dX8_trainIn_1 : decode cX8_trainIn 1 = .ok (.iload_n 1, 1) := by decide +kernel
theorem dX8_trainIn_2 : decode cX8_trainIn 2 = .ok (.invokevirtual 96, 3) := by decide +kernel
theorem dX8_trainIn_5 : decode cX8_trainIn 5 = .ok (.aload_n 0, 1) := by decide +kernel
theorem dX8_trainIn_6 : decode cX8_trainIn 6 = .ok (.getfield 12, 3) := by decide +kernel
theorem dX8_trainIn_9 : decode cX8_trainIn 9 = .ok (.iload_n 1, 1) := by decide +kernel
theorem dX8_trainIn_10 : decode cX8_trainIn 10 = .ok (.invokevirtual 125, 3) := by decide +kernel
theorem dX8_trainIn_13 : decode cX8_trainIn 13 = .ok (.invokestatic 128, 3) := by decide +kernel
theorem dX8_trainIn_16 : decode cX8_trainIn 16 = .ok (.ireturn, 1) := by decide +kernel
theorem dX8_reservedBy_0 : decode cX8_reservedBy 0 = .ok (.aload_n 0, 1) := by decide +kernel
theorem dX8_reservedBy_1 : decode cX8_reservedBy 1 = .ok (.iload_n 1, 1) := by decide +kernel
theorem dX8_reservedBy_2 : decode cX8_reservedBy 2 = .ok (.invokevirtual 96, 3) := by decide +kernel
theorem dX8_reservedBy_5 : decode cX8_reservedBy 5 = .ok (.aload_n 0, 1) := by decide +kernel
theorem dX8_reservedBy_6 : decode cX8_reservedBy 6 = .ok (.getfield 12, 3) := by decide +kernel
theorem dX8_reservedBy_9 : decode cX8_reservedBy 9 = .ok (.iload_n 1, 1) := by decide +kernel
theorem dX8_reservedBy_10 : decode cX8_reservedBy 10 = .ok (.invokevirtual 131, 3) := by decide +kernel
theorem dX8_reservedBy_13 : decode cX8_reservedBy 13 = .ok (.invokestatic 128, 3) := by decide +kernel
theorem dX8_reservedBy_16 : decode cX8_reservedBy 16 = .ok (.ireturn, 1) := by decide +kernel
theorem dX8_signal_0 : decode cX8_signal 0 = .ok (.aload_n 0, 1) := by decide +kernel
theorem dX8_signal_1 : decode cX8_signal 1 = .ok (.iload_n 1, 1) := by decide +kernel
theorem dX8_signal_2 : decode cX8_signal 2 = .ok (.invokevirtual 96, 3) := by decide +kernel
theorem dX8_signal_5 : decode cX8_signal 5 = .ok (.aload_n 0, 1) := by decide +kernel
theorem dX8_signal_6 : decode cX8_signal 6 = .ok (.getfield 12, 3) := by decide +kernel
theorem dX8_signal_9 : decode cX8_signal 9 = .ok (.iload_n 1, 1) := by decide +kernel
theorem dX8_signal_10 : decode cX8_signal 10 = .ok (.invokevirtual 134, 3) := by decide +kernel
theorem dX8_signal_13 : decode cX8_signal 13 = .ok (.ireturn, 1) := by decide +kernel
theorem dX8_distance_0 : decode cX8_distance 0 = .ok (.aload_n 0, 1) := by decide +kernel
theorem dX8_distance_1 : decode cX8_distance 1 = .ok (.iload_n 1, 1) := by decide +kernel
theorem dX8_distance_2 : decode cX8_distance 2 = .ok (.invokevirtual 96, 3) := by decide +kernel
theorem dX8_distance_5 : decode cX8_distance 5 = .ok (.aload_n 0, 1) := by decide +kernel
theorem dX8_distance_6 : decode cX8_distance 6 = .ok (.iload_n 2, 1) := by decide +kernel
theorem dX8_distance_7 : decode cX8_distance 7 = .ok (.invokevirtual 96, 3) := by decide +kernel
theorem dX8_distance_10 : decode cX8_distance 10 = .ok (.aload_n 0, 1) := by decide +kernel
theorem dX8_distance_11 : decode cX8_distance 11 = .ok (.getfield 32, 3) := by decide +kernel
theorem dX8_distance_14 : decode cX8_distance 14 = .ok (.aload_n 0, 1) := by decide +kernel
theorem dX8_distance_15 : decode cX8_distance 15 = .ok (.getfield 12, 3) := by decide +kernel
theorem dX8_distance_18 : decode cX8_distance 18 = .ok (.iload_n 1, 1) := by decide +kernel
theorem dX8_distance_19 : decode cX8_distance 19 = .ok (.invokevirtual 138, 3) := by decide +kernel
theorem dX8_distance_22 : decode cX8_distance 22 = .ok (.aload_n 0, 1) := by decide +kernel
theorem dX8_distance_23 : decode cX8_distance 23 = .ok (.getfield 32, 3) := by decide +kernel
theorem dX8_distance_26 : decode cX8_distance 26 = .ok (.getfield 142, 3) := by decide +kernel
theorem dX8_distance_29 : decode cX8_distance 29 = .ok (.iload_n 2, 1) := by decide +kernel
theorem dX8_distance_30 : decode cX8_distance 30 = .ok (.iaload, 1) := by decide +kernel
theorem dX8_distance_31 : decode cX8_distance 31 = .ok (.sipush 1000, 3) := by decide +kernel
theorem dX8_distance_34 : decode cX8_distance 34 = .ok (.if_icmp .ge 15, 3) := by decide +kernel
theorem dX8_distance_37 : decode cX8_distance 37 = .ok (.aload_n 0, 1) := by decide +kernel
theorem dX8_distance_38 : decode cX8_distance 38 = .ok (.getfield 32, 3) := by decide +kernel
theorem dX8_distance_41 : decode cX8_distance 41 = .ok (.getfield 142, 3) := by decide +kernel
theorem dX8_distance_44 : decode cX8_distance 44 = .ok (.iload_n 2, 1) := by decide +kernel
theorem dX8_distance_45 : decode cX8_distance 45 = .ok (.iaload, 1) := by decide +kernel
theorem dX8_distance_46 : decode cX8_distance 46 = .ok (.goto 4, 3) := by decide +kernel
theorem dX8_distance_49 : decode cX8_distance 49 = .ok (.iconst (-1), 1) := by decide +kernel
theorem dX8_distance_50 : decode cX8_distance 50 = .ok (.invokestatic 128, 3) := by decide +kernel
theorem dX8_distance_53 : decode cX8_distance 53 = .ok (.ireturn, 1) := by decide +kernel
theorem dX8_distanceByRounds_0 : decode cX8_distanceByRounds 0 = .ok (.aload_n 0, 1) := by decide +kernel
theorem dX8_distanceByRounds_1 : decode cX8_distanceByRounds 1 = .ok (.iload_n 1, 1) := by decide +kernel
theorem dX8_distanceByRounds_2 : decode cX8_distanceByRounds 2 = .ok (.invokevirtual 96, 3) := by decide +kernel
theorem dX8_distanceByRounds_5 : decode cX8_distanceByRounds 5 = .ok (.aload_n 0, 1) := by decide +kernel
theorem dX8_distanceByRounds_6 : decode cX8_distanceByRounds 6 = .ok (.iload_n 2, 1) := by decide +kernel
theorem dX8_distanceByRounds_7 : decode cX8_distanceByRounds 7 = .ok (.invokevirtual 96, 3) := by decide +kernel
theorem dX8_distanceByRounds_10 : decode cX8_distanceByRounds 10 = .ok (.aload_n 0, 1) := by decide +kernel
theorem dX8_distanceByRounds_11 : decode cX8_distanceByRounds 11 = .ok (.getfield 32, 3) := by decide +kernel
theorem dX8_distanceByRounds_14 : decode cX8_distanceByRounds 14 = .ok (.aload_n 0, 1) := by decide +kernel
theorem dX8_distanceByRounds_15 : decode cX8_distanceByRounds 15 = .ok (.getfield 12, 3) := by decide +kernel
theorem dX8_distanceByRounds_18 : decode cX8_distanceByRounds 18 = .ok (.iload_n 1, 1) := by decide +kernel
theorem dX8_distanceByRounds_19 : decode cX8_distanceByRounds 19 = .ok (.invokevirtual 145, 3) := by decide +kernel
theorem dX8_distanceByRounds_22 : decode cX8_distanceByRounds 22 = .ok (.aload_n 0, 1) := by decide +kernel
theorem dX8_distanceByRounds_23 : decode cX8_distanceByRounds 23 = .ok (.getfield 32, 3) := by decide +kernel
theorem dX8_distanceByRounds_26 : decode cX8_distanceByRounds 26 = .ok (.getfield 148, 3) := by decide +kernel
theorem dX8_distanceByRounds_29 : decode cX8_distanceByRounds 29 = .ok (.iload_n 2, 1) := by decide +kernel
theorem dX8_distanceByRounds_30 : decode cX8_distanceByRounds 30 = .ok (.iaload, 1) := by decide +kernel
theorem dX8_distanceByRounds_31 : decode cX8_distanceByRounds 31 = .ok (.sipush 1000, 3) := by decide +kernel
theorem dX8_distanceByRounds_34 : decode cX8_distanceByRounds 34 = .ok (.if_icmp .ge 15, 3) := by decide +kernel
theorem dX8_distanceByRounds_37 : decode cX8_distanceByRounds 37 = .ok (.aload_n 0, 1) := by decide +kernel
theorem dX8_distanceByRounds_38 : decode cX8_distanceByRounds 38 = .ok (.getfield 32, 3) := by decide +kernel
theorem dX8_distanceByRounds_41 : decode cX8_distanceByRounds 41 = .ok (.getfield 148, 3) := by decide +kernel
theorem dX8_distanceByRounds_44 : decode cX8_distanceByRounds 44 = .ok (.iload_n 2, 1) := by decide +kernel
theorem dX8_distanceByRounds_45 : decode cX8_distanceByRounds 45 = .ok (.iaload, 1) := by decide +kernel
theorem dX8_distanceByRounds_46 : decode cX8_distanceByRounds 46 = .ok (.goto 4, 3) := by decide +kernel
theorem dX8_distanceByRounds_49 : decode cX8_distanceByRounds 49 = .ok (.iconst (-1), 1) := by decide +kernel
theorem dX8_distanceByRounds_50 : decode cX8_distanceByRounds 50 = .ok (.invokestatic 128, 3) := by decide +kernel
theorem dX8_distanceByRounds_53 : decode cX8_distanceByRounds 53 = .ok (.ireturn, 1) := by decide +kernel
theorem dX8_nextBlock_0 : decode cX8_nextBlock 0 = .ok (.aload_n 0, 1) := by decide +kernel
theorem dX8_nextBlock_1 : decode cX8_nextBlock 1 = .ok (.iload_n 1, 1) := by decide +kernel
theorem dX8_nextBlock_2 : decode cX8_nextBlock 2 = .ok (.invokevirtual 151, 3) := by decide +kernel
theorem dX8_nextBlock_5 : decode cX8_nextBlock 5 = .ok (.aload_n 0, 1) := by decide +kernel
theorem dX8_nextBlock_6 : decode cX8_nextBlock 6 = .ok (.getfield 32, 3) := by decide +kernel
theorem dX8_nextBlock_9 : decode cX8_nextBlock 9 = .ok (.aload_n 0, 1) := by decide +kernel
theorem dX8_nextBlock_10 : decode cX8_nextBlock 10 = .ok (.getfield 12, 3) := by decide +kernel
theorem dX8_nextBlock_13 : decode cX8_nextBlock 13 = .ok (.iload_n 1, 1) := by decide +kernel
theorem dX8_nextBlock_14 : decode cX8_nextBlock 14 = .ok (.invokevirtual 154, 3) := by decide +kernel
theorem dX8_nextBlock_17 : decode cX8_nextBlock 17 = .ok (.invokestatic 128, 3) := by decide +kernel
theorem dX8_nextBlock_20 : decode cX8_nextBlock 20 = .ok (.ireturn, 1) := by decide +kernel
theorem dX8_partCount_0 : decode cX8_partCount 0 = .ok (.aload_n 0, 1) := by decide +kernel
theorem dX8_partCount_1 : decode cX8_partCount 1 = .ok (.getfield 32, 3) := by decide +kernel
theorem dX8_partCount_4 : decode cX8_partCount 4 = .ok (.aload_n 0, 1) := by decide +kernel
theorem dX8_partCount_5 : decode cX8_partCount 5 = .ok (.getfield 12, 3) := by decide +kernel
theorem dX8_partCount_8 : decode cX8_partCount 8 = .ok (.invokevirtual 158, 3) := by decide +kernel
theorem dX8_partCount_11 : decode cX8_partCount 11 = .ok (.ireturn, 1) := by decide +kernel
theorem dX8_partCountByUnions_0 : decode cX8_partCountByUnions 0 = .ok (.aload_n 0, 1) := by decide +kernel
theorem dX8_partCountByUnions_1 : decode cX8_partCountByUnions 1 = .ok (.getfield 32, 3) := by decide +kernel
theorem dX8_partCountByUnions_4 : decode cX8_partCountByUnions 4 = .ok (.aload_n 0, 1) := by decide +kernel
theorem dX8_partCountByUnions_5 : decode cX8_partCountByUnions 5 = .ok (.getfield 12, 3) := by decide +kernel
theorem dX8_partCountByUnions_8 : decode cX8_partCountByUnions 8 = .ok (.invokevirtual 162, 3) := by decide +kernel
theorem dX8_partCountByUnions_11 : decode cX8_partCountByUnions 11 = .ok (.ireturn, 1) := by decide +kernel
theorem dX8_nearestCushion_0 : decode cX8_nearestCushion 0 = .ok (.aload_n 0, 1) := by decide +kernel
theorem dX8_nearestCushion_1 : decode cX8_nearestCushion 1 = .ok (.iload_n 1, 1) := by decide +kernel
theorem dX8_nearestCushion_2 : decode cX8_nearestCushion 2 = .ok (.invokevirtual 96, 3) := by decide +kernel
theorem dX8_nearestCushion_5 : decode cX8_nearestCushion 5 = .ok (.aload_n 0, 1) := by decide +kernel
theorem dX8_nearestCushion_6 : decode cX8_nearestCushion 6 = .ok (.getfield 32, 3) := by decide +kernel
theorem dX8_nearestCushion_9 : decode cX8_nearestCushion 9 = .ok (.aload_n 0, 1) := by decide +kernel
theorem dX8_nearestCushion_10 : decode cX8_nearestCushion 10 = .ok (.getfield 12, 3) := by decide +kernel
theorem dX8_nearestCushion_13 : decode cX8_nearestCushion 13 = .ok (.iload_n 1, 1) := by decide +kernel
theorem dX8_nearestCushion_14 : decode cX8_nearestCushion 14 = .ok (.invokevirtual 165, 3) := by decide +kernel
theorem dX8_nearestCushion_17 : decode cX8_nearestCushion 17 = .ok (.invokestatic 128, 3) := by decide +kernel
theorem dX8_nearestCushion_20 : decode cX8_nearestCushion 20 = .ok (.ireturn, 1) := by decide +kernel
theorem dX8_addTrain_0 : decode cX8_addTrain 0 = .ok (.aload_n 0, 1) := by decide +kernel
theorem dX8_addTrain_1 : decode cX8_addTrain 1 = .ok (.getfield 25, 3) := by decide +kernel
theorem dX8_addTrain_4 : decode cX8_addTrain 4 = .ok (.aload_n 0, 1) := by decide +kernel
theorem dX8_addTrain_5 : decode cX8_addTrain 5 = .ok (.getfield 12, 3) := by decide +kernel
theorem dX8_addTrain_8 : decode cX8_addTrain 8 = .ok (.invokevirtual 68, 3) := by decide +kernel
theorem dX8_addTrain_11 : decode cX8_addTrain 11 = .ok (.aload_n 0, 1) := by decide +kernel
theorem dX8_addTrain_12 : decode cX8_addTrain 12 = .ok (.aload_n 0, 1) := by decide +kernel
theorem dX8_addTrain_13 : decode cX8_addTrain 13 = .ok (.getfield 12, 3) := by decide +kernel
theorem dX8_addTrain_16 : decode cX8_addTrain 16 = .ok (.iload_n 1, 1) := by decide +kernel
theorem dX8_addTrain_17 : decode cX8_addTrain 17 = .ok (.iload_n 2, 1) := by decide +kernel
theorem dX8_addTrain_18 : decode cX8_addTrain 18 = .ok (.invokevirtual 168, 3) := by decide +kernel
theorem dX8_addTrain_21 : decode cX8_addTrain 21 = .ok (.invokevirtual 76, 3) := by decide +kernel
theorem dX8_addTrain_24 : decode cX8_addTrain 24 = .ok (.ireturn, 1) := by decide +kernel
theorem dX8_setGoal_0 : decode cX8_setGoal 0 = .ok (.aload_n 0, 1) := by decide +kernel
theorem dX8_setGoal_1 : decode cX8_setGoal 1 = .ok (.getfield 25, 3) := by decide +kernel
theorem dX8_setGoal_4 : decode cX8_setGoal 4 = .ok (.aload_n 0, 1) := by decide +kernel
theorem dX8_setGoal_5 : decode cX8_setGoal 5 = .ok (.getfield 12, 3) := by decide +kernel
theorem dX8_setGoal_8 : decode cX8_setGoal 8 = .ok (.invokevirtual 68, 3) := by decide +kernel
theorem dX8_setGoal_11 : decode cX8_setGoal 11 = .ok (.aload_n 0, 1) := by decide +kernel
theorem dX8_setGoal_12 : decode cX8_setGoal 12 = .ok (.aload_n 0, 1) := by decide +kernel
theorem dX8_setGoal_13 : decode cX8_setGoal 13 = .ok (.getfield 39, 3) := by decide +kernel
theorem dX8_setGoal_16 : decode cX8_setGoal 16 = .ok (.aload_n 0, 1) := by decide +kernel
theorem dX8_setGoal_17 : decode cX8_setGoal 17 = .ok (.getfield 12, 3) := by decide +kernel
theorem dX8_setGoal_20 : decode cX8_setGoal 20 = .ok (.iload_n 1, 1) := by decide +kernel
theorem dX8_setGoal_21 : decode cX8_setGoal 21 = .ok (.iload_n 2, 1) := by decide +kernel
theorem dX8_setGoal_22 : decode cX8_setGoal 22 = .ok (.invokevirtual 171, 3) := by decide +kernel
theorem dX8_setGoal_25 : decode cX8_setGoal 25 = .ok (.invokevirtual 76, 3) := by decide +kernel
theorem dX8_setGoal_28 : decode cX8_setGoal 28 = .ok (.ireturn, 1) := by decide +kernel
theorem dX8_clearGoal_0 : decode cX8_clearGoal 0 = .ok (.aload_n 0, 1) := by decide +kernel
theorem dX8_clearGoal_1 : decode cX8_clearGoal 1 = .ok (.getfield 25, 3) := by decide +kernel
theorem dX8_clearGoal_4 : decode cX8_clearGoal 4 = .ok (.aload_n 0, 1) := by decide +kernel
theorem dX8_clearGoal_5 : decode cX8_clearGoal 5 = .ok (.getfield 12, 3) := by decide +kernel
theorem dX8_clearGoal_8 : decode cX8_clearGoal 8 = .ok (.invokevirtual 68, 3) := by decide +kernel
theorem dX8_clearGoal_11 : decode cX8_clearGoal 11 = .ok (.aload_n 0, 1) := by decide +kernel
theorem dX8_clearGoal_12 : decode cX8_clearGoal 12 = .ok (.aload_n 0, 1) := by decide +kernel
theorem dX8_clearGoal_13 : decode cX8_clearGoal 13 = .ok (.getfield 12, 3) := by decide +kernel
theorem dX8_clearGoal_16 : decode cX8_clearGoal 16 = .ok (.iload_n 1, 1) := by decide +kernel
theorem dX8_clearGoal_17 : decode cX8_clearGoal 17 = .ok (.invokevirtual 175, 3) := by decide +kernel
theorem dX8_clearGoal_20 : decode cX8_clearGoal 20 = .ok (.invokevirtual 76, 3) := by decide +kernel
theorem dX8_clearGoal_23 : decode cX8_clearGoal 23 = .ok (.ireturn, 1) := by decide +kernel
theorem dX8_reserve_0 : decode cX8_reserve 0 = .ok (.aload_n 0, 1) := by decide +kernel
theorem dX8_reserve_1 : decode cX8_reserve 1 = .ok (.getfield 25, 3) := by decide +kernel
theorem dX8_reserve_4 : decode cX8_reserve 4 = .ok (.aload_n 0, 1) := by decide +kernel
theorem dX8_reserve_5 : decode cX8_reserve 5 = .ok (.getfield 12, 3) := by decide +kernel
theorem dX8_reserve_8 : decode cX8_reserve 8 = .ok (.invokevirtual 68, 3) := by decide +kernel
theorem dX8_reserve_11 : decode cX8_reserve 11 = .ok (.aload_n 0, 1) := by decide +kernel
theorem dX8_reserve_12 : decode cX8_reserve 12 = .ok (.aload_n 0, 1) := by decide +kernel
theorem dX8_reserve_13 : decode cX8_reserve 13 = .ok (.getfield 12, 3) := by decide +kernel
theorem dX8_reserve_16 : decode cX8_reserve 16 = .ok (.iload_n 1, 1) := by decide +kernel
theorem dX8_reserve_17 : decode cX8_reserve 17 = .ok (.iload_n 2, 1) := by decide +kernel
theorem dX8_reserve_18 : decode cX8_reserve 18 = .ok (.invokevirtual 178, 3) := by decide +kernel
theorem dX8_reserve_21 : decode cX8_reserve 21 = .ok (.invokevirtual 76, 3) := by decide +kernel
theorem dX8_reserve_24 : decode cX8_reserve 24 = .ok (.ireturn, 1) := by decide +kernel
theorem dX8_cancelReservation_0 : decode cX8_cancelReservation 0 = .ok (.aload_n 0, 1) := by decide +kernel
theorem dX8_cancelReservation_1 : decode cX8_cancelReservation 1 = .ok (.getfield 25, 3) := by decide +kernel
theorem dX8_cancelReservation_4 : decode cX8_cancelReservation 4 = .ok (.aload_n 0, 1) := by decide +kernel
theorem dX8_cancelReservation_5 : decode cX8_cancelReservation 5 = .ok (.getfield 12, 3) := by decide +kernel
theorem dX8_cancelReservation_8 : decode cX8_cancelReservation 8 = .ok (.invokevirtual 68, 3) := by decide +kernel
theorem dX8_cancelReservation_11 : decode cX8_cancelReservation 11 = .ok (.aload_n 0, 1) := by decide +kernel
theorem dX8_cancelReservation_12 : decode cX8_cancelReservation 12 = .ok (.aload_n 0, 1) := by decide +kernel
theorem dX8_cancelReservation_13 : decode cX8_cancelReservation 13 = .ok (.getfield 12, 3) := by decide +kernel
theorem dX8_cancelReservation_16 : decode cX8_cancelReservation 16 = .ok (.iload_n 1, 1) := by decide +kernel
theorem dX8_cancelReservation_17 : decode cX8_cancelReservation 17 = .ok (.invokevirtual 181, 3) := by decide +kernel
theorem dX8_cancelReservation_20 : decode cX8_cancelReservation 20 = .ok (.invokevirtual 76, 3) := by decide +kernel
theorem dX8_cancelReservation_23 : decode cX8_cancelReservation 23 = .ok (.ireturn, 1) := by decide +kernel
theorem dX8_rescue_0 : decode cX8_rescue 0 = .ok (.aload_n 0, 1) := by decide +kernel
theorem dX8_rescue_1 : decode cX8_rescue 1 = .ok (.getfield 25, 3) := by decide +kernel
theorem dX8_rescue_4 : decode cX8_rescue 4 = .ok (.aload_n 0, 1) := by decide +kernel
theorem dX8_rescue_5 : decode cX8_rescue 5 = .ok (.getfield 12, 3) := by decide +kernel
theorem dX8_rescue_8 : decode cX8_rescue 8 = .ok (.invokevirtual 68, 3) := by decide +kernel
theorem dX8_rescue_11 : decode cX8_rescue 11 = .ok (.aload_n 0, 1) := by decide +kernel
theorem dX8_rescue_12 : decode cX8_rescue 12 = .ok (.aload_n 0, 1) := by decide +kernel
theorem dX8_rescue_13 : decode cX8_rescue 13 = .ok (.getfield 12, 3) := by decide +kernel
theorem dX8_rescue_16 : decode cX8_rescue 16 = .ok (.iload_n 1, 1) := by decide +kernel
theorem dX8_rescue_17 : decode cX8_rescue 17 = .ok (.invokevirtual 184, 3) := by decide +kernel
theorem dX8_rescue_20 : decode cX8_rescue 20 = .ok (.invokevirtual 76, 3) := by decide +kernel
theorem dX8_rescue_23 : decode cX8_rescue 23 = .ok (.ireturn, 1) := by decide +kernel
theorem dX8_trainCount_0 : decode cX8_trainCount 0 = .ok (.aload_n 0, 1) := by decide +kernel
theorem dX8_trainCount_1 : decode cX8_trainCount 1 = .ok (.getfield 12, 3) := by decide +kernel
theorem dX8_trainCount_4 : decode cX8_trainCount 4 = .ok (.getfield 187, 3) := by decide +kernel
theorem dX8_trainCount_7 : decode cX8_trainCount 7 = .ok (.ireturn, 1) := by decide +kernel
theorem dX8_blockOf_0 : decode cX8_blockOf 0 = .ok (.aload_n 0, 1) := by decide +kernel
theorem dX8_blockOf_1 : decode cX8_blockOf 1 = .ok (.iload_n 1, 1) := by decide +kernel
theorem dX8_blockOf_2 : decode cX8_blockOf 2 = .ok (.invokevirtual 151, 3) := by decide +kernel
theorem dX8_blockOf_5 : decode cX8_blockOf 5 = .ok (.aload_n 0, 1) := by decide +kernel
theorem dX8_blockOf_6 : decode cX8_blockOf 6 = .ok (.getfield 12, 3) := by decide +kernel
theorem dX8_blockOf_9 : decode cX8_blockOf 9 = .ok (.getfield 190, 3) := by decide +kernel
theorem dX8_blockOf_12 : decode cX8_blockOf 12 = .ok (.iload_n 1, 1) := by decide +kernel
theorem dX8_blockOf_13 : decode cX8_blockOf 13 = .ok (.iaload, 1) := by decide +kernel
theorem dX8_blockOf_14 : decode cX8_blockOf 14 = .ok (.ireturn, 1) := by decide +kernel
theorem dX8_priority_0 : decode cX8_priority 0 = .ok (.aload_n 0, 1) := by decide +kernel
theorem dX8_priority_1 : decode cX8_priority 1 = .ok (.iload_n 1, 1) := by decide +kernel
theorem dX8_priority_2 : decode cX8_priority 2 = .ok (.invokevirtual 151, 3) := by decide +kernel
theorem dX8_priority_5 : decode cX8_priority 5 = .ok (.aload_n 0, 1) := by decide +kernel
theorem dX8_priority_6 : decode cX8_priority 6 = .ok (.getfield 12, 3) := by decide +kernel
theorem dX8_priority_9 : decode cX8_priority 9 = .ok (.getfield 193, 3) := by decide +kernel
theorem dX8_priority_12 : decode cX8_priority 12 = .ok (.iload_n 1, 1) := by decide +kernel
theorem dX8_priority_13 : decode cX8_priority 13 = .ok (.iaload, 1) := by decide +kernel
theorem dX8_priority_14 : decode cX8_priority 14 = .ok (.ireturn, 1) := by decide +kernel
theorem dX8_remainingTicks_0 : decode cX8_remainingTicks 0 = .ok (.aload_n 0, 1) := by decide +kernel
theorem dX8_remainingTicks_1 : decode cX8_remainingTicks 1 = .ok (.iload_n 1, 1) := by decide +kernel
theorem dX8_remainingTicks_2 : decode cX8_remainingTicks 2 = .ok (.invokevirtual 151, 3) := by decide +kernel
theorem dX8_remainingTicks_5 : decode cX8_remainingTicks 5 = .ok (.aload_n 0, 1) := by decide +kernel
theorem dX8_remainingTicks_6 : decode cX8_remainingTicks 6 = .ok (.getfield 12, 3) := by decide +kernel
theorem dX8_remainingTicks_9 : decode cX8_remainingTicks 9 = .ok (.getfield 196, 3) := by decide +kernel
theorem dX8_remainingTicks_12 : decode cX8_remainingTicks 12 = .ok (.iload_n 1, 1) := by decide +kernel
theorem dX8_remainingTicks_13 : decode cX8_remainingTicks 13 = .ok (.iaload, 1) := by decide +kernel
theorem dX8_remainingTicks_14 : decode cX8_remainingTicks 14 = .ok (.ireturn, 1) := by decide +kernel
theorem dX8_goal_0 : decode cX8_goal 0 = .ok (.aload_n 0, 1) := by decide +kernel
theorem dX8_goal_1 : decode cX8_goal 1 = .ok (.iload_n 1, 1) := by decide +kernel
theorem dX8_goal_2 : decode cX8_goal 2 = .ok (.invokevirtual 151, 3) := by decide +kernel
theorem dX8_goal_5 : decode cX8_goal 5 = .ok (.aload_n 0, 1) := by decide +kernel
theorem dX8_goal_6 : decode cX8_goal 6 = .ok (.getfield 12, 3) := by decide +kernel
theorem dX8_goal_9 : decode cX8_goal 9 = .ok (.getfield 199, 3) := by decide +kernel
theorem dX8_goal_12 : decode cX8_goal 12 = .ok (.iload_n 1, 1) := by decide +kernel
theorem dX8_goal_13 : decode cX8_goal 13 = .ok (.iaload, 1) := by decide +kernel
theorem dX8_goal_14 : decode cX8_goal 14 = .ok (.invokestatic 128, 3) := by decide +kernel
theorem dX8_goal_17 : decode cX8_goal 17 = .ok (.ireturn, 1) := by decide +kernel
theorem dX8_isDerailed_0 : decode cX8_isDerailed 0 = .ok (.aload_n 0, 1) := by decide +kernel
theorem dX8_isDerailed_1 : decode cX8_isDerailed 1 = .ok (.iload_n 1, 1) := by decide +kernel
theorem dX8_isDerailed_2 : decode cX8_isDerailed 2 = .ok (.invokevirtual 151, 3) := by decide +kernel
theorem dX8_isDerailed_5 : decode cX8_isDerailed 5 = .ok (.aload_n 0, 1) := by decide +kernel
theorem dX8_isDerailed_6 : decode cX8_isDerailed 6 = .ok (.getfield 12, 3) := by decide +kernel
theorem dX8_isDerailed_9 : decode cX8_isDerailed 9 = .ok (.getfield 202, 3) := by decide +kernel
theorem dX8_isDerailed_12 : decode cX8_isDerailed 12 = .ok (.iload_n 1, 1) := by decide +kernel
theorem dX8_isDerailed_13 : decode cX8_isDerailed 13 = .ok (.invokestatic 107, 3) := by decide +kernel
theorem dX8_isDerailed_16 : decode cX8_isDerailed 16 = .ok (.ireturn, 1) := by decide +kernel
theorem dX8_waits_0 : decode cX8_waits 0 = .ok (.aload_n 0, 1) := by decide +kernel
theorem dX8_waits_1 : decode cX8_waits 1 = .ok (.iload_n 1, 1) := by decide +kernel
theorem dX8_waits_2 : decode cX8_waits 2 = .ok (.invokevirtual 151, 3) := by decide +kernel
theorem dX8_waits_5 : decode cX8_waits 5 = .ok (.aload_n 0, 1) := by decide +kernel
theorem dX8_waits_6 : decode cX8_waits 6 = .ok (.getfield 12, 3) := by decide +kernel
theorem dX8_waits_9 : decode cX8_waits 9 = .ok (.getfield 205, 3) := by decide +kernel
theorem dX8_waits_12 : decode cX8_waits 12 = .ok (.iload_n 1, 1) := by decide +kernel
theorem dX8_waits_13 : decode cX8_waits 13 = .ok (.iaload, 1) := by decide +kernel
theorem dX8_waits_14 : decode cX8_waits 14 = .ok (.ireturn, 1) := by decide +kernel
theorem dX8_trainByPriority_0 : decode cX8_trainByPriority 0 = .ok (.aload_n 0, 1) := by decide +kernel
theorem dX8_trainByPriority_1 : decode cX8_trainByPriority 1 = .ok (.getfield 12, 3) := by decide +kernel
theorem dX8_trainByPriority_4 : decode cX8_trainByPriority 4 = .ok (.iload_n 1, 1) := by decide +kernel
theorem dX8_trainByPriority_5 : decode cX8_trainByPriority 5 = .ok (.invokevirtual 208, 3) := by decide +kernel
theorem dX8_trainByPriority_8 : decode cX8_trainByPriority 8 = .ok (.invokestatic 128, 3) := by decide +kernel
theorem dX8_trainByPriority_11 : decode cX8_trainByPriority 11 = .ok (.ireturn, 1) := by decide +kernel
theorem dX8_blockedBy_0 : decode cX8_blockedBy 0 = .ok (.aload_n 0, 1) := by decide +kernel
theorem dX8_blockedBy_1 : decode cX8_blockedBy 1 = .ok (.iload_n 1, 1) := by decide +kernel
theorem dX8_blockedBy_2 : decode cX8_blockedBy 2 = .ok (.invokevirtual 151, 3) := by decide +kernel
theorem dX8_blockedBy_5 : decode cX8_blockedBy 5 = .ok (.aload_n 0, 1) := by decide +kernel
theorem dX8_blockedBy_6 : decode cX8_blockedBy 6 = .ok (.getfield 39, 3) := by decide +kernel
theorem dX8_blockedBy_9 : decode cX8_blockedBy 9 = .ok (.aload_n 0, 1) := by decide +kernel
theorem dX8_blockedBy_10 : decode cX8_blockedBy 10 = .ok (.getfield 12, 3) := by decide +kernel
theorem dX8_blockedBy_13 : decode cX8_blockedBy 13 = .ok (.iload_n 1, 1) := by decide +kernel
theorem dX8_blockedBy_14 : decode cX8_blockedBy 14 = .ok (.invokevirtual 211, 3) := by decide +kernel
theorem dX8_blockedBy_17 : decode cX8_blockedBy 17 = .ok (.invokestatic 128, 3) := by decide +kernel
theorem dX8_blockedBy_20 : decode cX8_blockedBy 20 = .ok (.ireturn, 1) := by decide +kernel
theorem dX8_deadlocked_0 : decode cX8_deadlocked 0 = .ok (.aload_n 0, 1) := by decide +kernel
theorem dX8_deadlocked_1 : decode cX8_deadlocked 1 = .ok (.getfield 39, 3) := by decide +kernel
theorem dX8_deadlocked_4 : decode cX8_deadlocked 4 = .ok (.aload_n 0, 1) := by decide +kernel
theorem dX8_deadlocked_5 : decode cX8_deadlocked 5 = .ok (.getfield 12, 3) := by decide +kernel
theorem dX8_deadlocked_8 : decode cX8_deadlocked 8 = .ok (.invokevirtual 214, 3) := by decide +kernel
theorem dX8_deadlocked_11 : decode cX8_deadlocked 11 = .ok (.ireturn, 1) := by decide +kernel
theorem dX8_deadlockedByTable_0 : decode cX8_deadlockedByTable 0 = .ok (.aload_n 0, 1) := by decide +kernel
theorem dX8_deadlockedByTable_1 : decode cX8_deadlockedByTable 1 = .ok (.getfield 39, 3) := by decide +kernel
theorem dX8_deadlockedByTable_4 : decode cX8_deadlockedByTable 4 = .ok (.aload_n 0, 1) := by decide +kernel
theorem dX8_deadlockedByTable_5 : decode cX8_deadlockedByTable 5 = .ok (.getfield 12, 3) := by decide +kernel
theorem dX8_deadlockedByTable_8 : decode cX8_deadlockedByTable 8 = .ok (.invokevirtual 217, 3) := by decide +kernel
theorem dX8_deadlockedByTable_11 : decode cX8_deadlockedByTable 11 = .ok (.ireturn, 1) := by decide +kernel
theorem dX8_passTicks_0 : decode cX8_passTicks 0 = .ok (.aload_n 0, 1) := by decide +kernel
theorem dX8_passTicks_1 : decode cX8_passTicks 1 = .ok (.getfield 25, 3) := by decide +kernel
theorem dX8_passTicks_4 : decode cX8_passTicks 4 = .ok (.aload_n 0, 1) := by decide +kernel
theorem dX8_passTicks_5 : decode cX8_passTicks 5 = .ok (.getfield 12, 3) := by decide +kernel
theorem dX8_passTicks_8 : decode cX8_passTicks 8 = .ok (.invokevirtual 68, 3) := by decide +kernel
theorem dX8_passTicks_11 : decode cX8_passTicks 11 = .ok (.aload_n 0, 1) := by decide +kernel
theorem dX8_passTicks_12 : decode cX8_passTicks 12 = .ok (.aload_n 0, 1) := by decide +kernel
theorem dX8_passTicks_13 : decode cX8_passTicks 13 = .ok (.getfield 39, 3) := by decide +kernel
theorem dX8_passTicks_16 : decode cX8_passTicks 16 = .ok (.aload_n 0, 1) := by decide +kernel
theorem dX8_passTicks_17 : decode cX8_passTicks 17 = .ok (.getfield 12, 3) := by decide +kernel
theorem dX8_passTicks_20 : decode cX8_passTicks 20 = .ok (.iload_n 1, 1) := by decide +kernel
theorem dX8_passTicks_21 : decode cX8_passTicks 21 = .ok (.invokevirtual 220, 3) := by decide +kernel
theorem dX8_passTicks_24 : decode cX8_passTicks 24 = .ok (.invokevirtual 76, 3) := by decide +kernel
theorem dX8_passTicks_27 : decode cX8_passTicks 27 = .ok (.ireturn, 1) := by decide +kernel
theorem dX8_ticks_0 : decode cX8_ticks 0 = .ok (.aload_n 0, 1) := by decide +kernel
theorem dX8_ticks_1 : decode cX8_ticks 1 = .ok (.getfield 12, 3) := by decide +kernel
theorem dX8_ticks_4 : decode cX8_ticks 4 = .ok (.getfield 223, 3) := by decide +kernel
theorem dX8_ticks_7 : decode cX8_ticks 7 = .ok (.ireturn, 1) := by decide +kernel
theorem dX8_arrivals_0 : decode cX8_arrivals 0 = .ok (.aload_n 0, 1) := by decide +kernel
theorem dX8_arrivals_1 : decode cX8_arrivals 1 = .ok (.getfield 12, 3) := by decide +kernel
theorem dX8_arrivals_4 : decode cX8_arrivals 4 = .ok (.getfield 226, 3) := by decide +kernel
theorem dX8_arrivals_7 : decode cX8_arrivals 7 = .ok (.ireturn, 1) := by decide +kernel
theorem dX8_ticksUntilArrival_0 : decode cX8_ticksUntilArrival 0 = .ok (.aload_n 0, 1) := by decide +kernel
theorem dX8_ticksUntilArrival_1 : decode cX8_ticksUntilArrival 1 = .ok (.iload_n 1, 1) := by decide +kernel
theorem dX8_ticksUntilArrival_2 : decode cX8_ticksUntilArrival 2 = .ok (.invokevirtual 151, 3) := by decide +kernel
theorem dX8_ticksUntilArrival_5 : decode cX8_ticksUntilArrival 5 = .ok (.aload_n 0, 1) := by decide +kernel
theorem dX8_ticksUntilArrival_6 : decode cX8_ticksUntilArrival 6 = .ok (.getfield 12, 3) := by decide +kernel
theorem dX8_ticksUntilArrival_9 : decode cX8_ticksUntilArrival 9 = .ok (.getfield 199, 3) := by decide +kernel
theorem dX8_ticksUntilArrival_12 : decode cX8_ticksUntilArrival 12 = .ok (.iload_n 1, 1) := by decide +kernel
theorem dX8_ticksUntilArrival_13 : decode cX8_ticksUntilArrival 13 = .ok (.iaload, 1) := by decide +kernel
theorem dX8_ticksUntilArrival_14 : decode cX8_ticksUntilArrival 14 = .ok (.iconst (-1), 1) := by decide +kernel
theorem dX8_ticksUntilArrival_15 : decode cX8_ticksUntilArrival 15 = .ok (.if_icmp .ne 13, 3) := by decide +kernel
theorem dX8_ticksUntilArrival_18 : decode cX8_ticksUntilArrival 18 = .ok (.new 229, 3) := by decide +kernel
theorem dX8_ticksUntilArrival_21 : decode cX8_ticksUntilArrival 21 = .ok (.dup, 1) := by decide +kernel
theorem dX8_ticksUntilArrival_22 : decode cX8_ticksUntilArrival 22 = .ok (.ldc 231, 2) := by decide +kernel
theorem dX8_ticksUntilArrival_24 : decode cX8_ticksUntilArrival 24 = .ok (.invokespecial 233, 3) := by decide +kernel
theorem dX8_ticksUntilArrival_27 : decode cX8_ticksUntilArrival 27 = .ok (.athrow, 1) := by decide +kernel
theorem dX8_ticksUntilArrival_28 : decode cX8_ticksUntilArrival 28 = .ok (.aload_n 0, 1) := by decide +kernel
theorem dX8_ticksUntilArrival_29 : decode cX8_ticksUntilArrival 29 = .ok (.getfield 19, 3) := by decide +kernel
theorem dX8_ticksUntilArrival_32 : decode cX8_ticksUntilArrival 32 = .ok (.aload_n 0, 1) := by decide +kernel
theorem dX8_ticksUntilArrival_33 : decode cX8_ticksUntilArrival 33 = .ok (.getfield 12, 3) := by decide +kernel
theorem dX8_ticksUntilArrival_36 : decode cX8_ticksUntilArrival 36 = .ok (.invokevirtual 236, 3) := by decide +kernel
theorem dX8_ticksUntilArrival_39 : decode cX8_ticksUntilArrival 39 = .ok (.aload_n 0, 1) := by decide +kernel
theorem dX8_ticksUntilArrival_40 : decode cX8_ticksUntilArrival 40 = .ok (.getfield 39, 3) := by decide +kernel
theorem dX8_ticksUntilArrival_43 : decode cX8_ticksUntilArrival 43 = .ok (.aload_n 0, 1) := by decide +kernel
theorem dX8_ticksUntilArrival_44 : decode cX8_ticksUntilArrival 44 = .ok (.getfield 19, 3) := by decide +kernel
theorem dX8_ticksUntilArrival_47 : decode cX8_ticksUntilArrival 47 = .ok (.iload_n 1, 1) := by decide +kernel
theorem dX8_ticksUntilArrival_48 : decode cX8_ticksUntilArrival 48 = .ok (.invokevirtual 239, 3) := by decide +kernel
theorem dX8_ticksUntilArrival_51 : decode cX8_ticksUntilArrival 51 = .ok (.invokestatic 128, 3) := by decide +kernel
theorem dX8_ticksUntilArrival_54 : decode cX8_ticksUntilArrival 54 = .ok (.ireturn, 1) := by decide +kernel
theorem dX8_meanWaits_0 : decode cX8_meanWaits 0 = .ok (.aload_n 0, 1) := by decide +kernel
theorem dX8_meanWaits_1 : decode cX8_meanWaits 1 = .ok (.getfield 12, 3) := by decide +kernel
theorem dX8_meanWaits_4 : decode cX8_meanWaits 4 = .ok (.getfield 187, 3) := by decide +kernel
theorem dX8_meanWaits_7 : decode cX8_meanWaits 7 = .ok (.ifCond .ne 13, 3) := by decide +kernel
theorem dX8_meanWaits_10 : decode cX8_meanWaits 10 = .ok (.new 242, 3) := by decide +kernel
theorem dX8_meanWaits_13 : decode cX8_meanWaits 13 = .ok (.dup, 1) := by decide +kernel
theorem dX8_meanWaits_14 : decode cX8_meanWaits 14 = .ok (.ldc 244, 2) := by decide +kernel
theorem dX8_meanWaits_16 : decode cX8_meanWaits 16 = .ok (.invokespecial 246, 3) := by decide +kernel
theorem dX8_meanWaits_19 : decode cX8_meanWaits 19 = .ok (.athrow, 1) := by decide +kernel
theorem dX8_meanWaits_20 : decode cX8_meanWaits 20 = .ok (.aload_n 0, 1) := by decide +kernel
theorem dX8_meanWaits_21 : decode cX8_meanWaits 21 = .ok (.getfield 12, 3) := by decide +kernel
theorem dX8_meanWaits_24 : decode cX8_meanWaits 24 = .ok (.invokevirtual 247, 3) := by decide +kernel
theorem dX8_meanWaits_27 : decode cX8_meanWaits 27 = .ok (.i2d, 1) := by decide +kernel
theorem dX8_meanWaits_28 : decode cX8_meanWaits 28 = .ok (.aload_n 0, 1) := by decide +kernel
theorem dX8_meanWaits_29 : decode cX8_meanWaits 29 = .ok (.getfield 12, 3) := by decide +kernel
theorem dX8_meanWaits_32 : decode cX8_meanWaits 32 = .ok (.getfield 187, 3) := by decide +kernel
theorem dX8_meanWaits_35 : decode cX8_meanWaits 35 = .ok (.i2d, 1) := by decide +kernel
theorem dX8_meanWaits_36 : decode cX8_meanWaits 36 = .ok (.ddiv, 1) := by decide +kernel
theorem dX8_meanWaits_37 : decode cX8_meanWaits 37 = .ok (.dreturn, 1) := by decide +kernel
theorem dX8_occupiedFraction_0 : decode cX8_occupiedFraction 0 = .ok (.aload_n 0, 1) := by decide +kernel
theorem dX8_occupiedFraction_1 : decode cX8_occupiedFraction 1 = .ok (.getfield 12, 3) := by decide +kernel
theorem dX8_occupiedFraction_4 : decode cX8_occupiedFraction 4 = .ok (.getfield 93, 3) := by decide +kernel
theorem dX8_occupiedFraction_7 : decode cX8_occupiedFraction 7 = .ok (.ifCond .ne 13, 3) := by decide +kernel
theorem dX8_occupiedFraction_10 : decode cX8_occupiedFraction 10 = .ok (.new 242, 3) := by decide +kernel
theorem dX8_occupiedFraction_13 : decode cX8_occupiedFraction 13 = .ok (.dup, 1) := by decide +kernel
theorem dX8_occupiedFraction_14 : decode cX8_occupiedFraction 14 = .ok (.ldc 251, 2) := by decide +kernel
theorem dX8_occupiedFraction_16 : decode cX8_occupiedFraction 16 = .ok (.invokespecial 246, 3) := by decide +kernel
theorem dX8_occupiedFraction_19 : decode cX8_occupiedFraction 19 = .ok (.athrow, 1) := by decide +kernel
theorem dX8_occupiedFraction_20 : decode cX8_occupiedFraction 20 = .ok (.aload_n 0, 1) := by decide +kernel
theorem dX8_occupiedFraction_21 : decode cX8_occupiedFraction 21 = .ok (.getfield 12, 3) := by decide +kernel
theorem dX8_occupiedFraction_24 : decode cX8_occupiedFraction 24 = .ok (.getfield 187, 3) := by decide +kernel
theorem dX8_occupiedFraction_27 : decode cX8_occupiedFraction 27 = .ok (.i2f, 1) := by decide +kernel
theorem dX8_occupiedFraction_28 : decode cX8_occupiedFraction 28 = .ok (.aload_n 0, 1) := by decide +kernel
theorem dX8_occupiedFraction_29 : decode cX8_occupiedFraction 29 = .ok (.getfield 12, 3) := by decide +kernel
theorem dX8_occupiedFraction_32 : decode cX8_occupiedFraction 32 = .ok (.getfield 93, 3) := by decide +kernel
theorem dX8_occupiedFraction_35 : decode cX8_occupiedFraction 35 = .ok (.i2f, 1) := by decide +kernel
theorem dX8_occupiedFraction_36 : decode cX8_occupiedFraction 36 = .ok (.fdiv, 1) := by decide +kernel
theorem dX8_occupiedFraction_37 : decode cX8_occupiedFraction 37 = .ok (.freturn, 1) := by decide +kernel
theorem dX8_writeTrain_0 : decode cX8_writeTrain 0 = .ok (.aload_n 0, 1) := by decide +kernel
theorem dX8_writeTrain_1 : decode cX8_writeTrain 1 = .ok (.iload_n 1, 1) := by decide +kernel
theorem dX8_writeTrain_2 : decode cX8_writeTrain 2 = .ok (.invokevirtual 151, 3) := by decide +kernel
theorem dX8_writeTrain_5 : decode cX8_writeTrain 5 = .ok (.aload_n 0, 1) := by decide +kernel
theorem dX8_writeTrain_6 : decode cX8_writeTrain 6 = .ok (.getfield 53, 3) := by decide +kernel
theorem dX8_writeTrain_9 : decode cX8_writeTrain 9 = .ok (.invokevirtual 253, 3) := by decide +kernel
theorem dX8_writeTrain_12 : decode cX8_writeTrain 12 = .ok (.aload_n 0, 1) := by decide +kernel
theorem dX8_writeTrain_13 : decode cX8_writeTrain 13 = .ok (.getfield 53, 3) := by decide +kernel
theorem dX8_writeTrain_16 : decode cX8_writeTrain 16 = .ok (.bipush 84, 2) := by decide +kernel
theorem dX8_writeTrain_18 : decode cX8_writeTrain 18 = .ok (.iload_n 1, 1) := by decide +kernel
theorem dX8_writeTrain_19 : decode cX8_writeTrain 19 = .ok (.invokevirtual 256, 3) := by decide +kernel
theorem dX8_writeTrain_22 : decode cX8_writeTrain 22 = .ok (.aload_n 0, 1) := by decide +kernel
theorem dX8_writeTrain_23 : decode cX8_writeTrain 23 = .ok (.getfield 53, 3) := by decide +kernel
theorem dX8_writeTrain_26 : decode cX8_writeTrain 26 = .ok (.bipush 64, 2) := by decide +kernel
theorem dX8_writeTrain_28 : decode cX8_writeTrain 28 = .ok (.aload_n 0, 1) := by decide +kernel
theorem dX8_writeTrain_29 : decode cX8_writeTrain 29 = .ok (.getfield 12, 3) := by decide +kernel
theorem dX8_writeTrain_32 : decode cX8_writeTrain 32 = .ok (.getfield 190, 3) := by decide +kernel
theorem dX8_writeTrain_35 : decode cX8_writeTrain 35 = .ok (.iload_n 1, 1) := by decide +kernel
theorem dX8_writeTrain_36 : decode cX8_writeTrain 36 = .ok (.iaload, 1) := by decide +kernel
theorem dX8_writeTrain_37 : decode cX8_writeTrain 37 = .ok (.invokevirtual 256, 3) := by decide +kernel
theorem dX8_writeTrain_40 : decode cX8_writeTrain 40 = .ok (.aload_n 0, 1) := by decide +kernel
theorem dX8_writeTrain_41 : decode cX8_writeTrain 41 = .ok (.getfield 12, 3) := by decide +kernel
theorem dX8_writeTrain_44 : decode cX8_writeTrain 44 = .ok (.getfield 196, 3) := by decide +kernel
theorem dX8_writeTrain_47 : decode cX8_writeTrain 47 = .ok (.iload_n 1, 1) := by decide +kernel
theorem dX8_writeTrain_48 : decode cX8_writeTrain 48 = .ok (.iaload, 1) := by decide +kernel
theorem dX8_writeTrain_49 : decode cX8_writeTrain 49 = .ok (.ifCond .le 21, 3) := by decide +kernel
theorem dX8_writeTrain_52 : decode cX8_writeTrain 52 = .ok (.aload_n 0, 1) := by decide +kernel
theorem dX8_writeTrain_53 : decode cX8_writeTrain 53 = .ok (.getfield 53, 3) := by decide +kernel
theorem dX8_writeTrain_56 : decode cX8_writeTrain 56 = .ok (.bipush 43, 2) := by decide +kernel
theorem dX8_writeTrain_58 : decode cX8_writeTrain 58 = .ok (.aload_n 0, 1) := by decide +kernel
theorem dX8_writeTrain_59 : decode cX8_writeTrain 59 = .ok (.getfield 12, 3) := by decide +kernel
theorem dX8_writeTrain_62 : decode cX8_writeTrain 62 = .ok (.getfield 196, 3) := by decide +kernel
theorem dX8_writeTrain_65 : decode cX8_writeTrain 65 = .ok (.iload_n 1, 1) := by decide +kernel
theorem dX8_writeTrain_66 : decode cX8_writeTrain 66 = .ok (.iaload, 1) := by decide +kernel
theorem dX8_writeTrain_67 : decode cX8_writeTrain 67 = .ok (.invokevirtual 256, 3) := by decide +kernel
theorem dX8_writeTrain_70 : decode cX8_writeTrain 70 = .ok (.aload_n 0, 1) := by decide +kernel
theorem dX8_writeTrain_71 : decode cX8_writeTrain 71 = .ok (.getfield 12, 3) := by decide +kernel
theorem dX8_writeTrain_74 : decode cX8_writeTrain 74 = .ok (.getfield 199, 3) := by decide +kernel
theorem dX8_writeTrain_77 : decode cX8_writeTrain 77 = .ok (.iload_n 1, 1) := by decide +kernel
theorem dX8_writeTrain_78 : decode cX8_writeTrain 78 = .ok (.iaload, 1) := by decide +kernel
theorem dX8_writeTrain_79 : decode cX8_writeTrain 79 = .ok (.iconst (-1), 1) := by decide +kernel
theorem dX8_writeTrain_80 : decode cX8_writeTrain 80 = .ok (.if_icmp .eq 21, 3) := by decide +kernel
theorem dX8_writeTrain_83 : decode cX8_writeTrain 83 = .ok (.aload_n 0, 1) := by decide +kernel
theorem dX8_writeTrain_84 : decode cX8_writeTrain 84 = .ok (.getfield 53, 3) := by decide +kernel
theorem dX8_writeTrain_87 : decode cX8_writeTrain 87 = .ok (.bipush 62, 2) := by decide +kernel
theorem dX8_writeTrain_89 : decode cX8_writeTrain 89 = .ok (.aload_n 0, 1) := by decide +kernel
theorem dX8_writeTrain_90 : decode cX8_writeTrain 90 = .ok (.getfield 12, 3) := by decide +kernel
theorem dX8_writeTrain_93 : decode cX8_writeTrain 93 = .ok (.getfield 199, 3) := by decide +kernel
theorem dX8_writeTrain_96 : decode cX8_writeTrain 96 = .ok (.iload_n 1, 1) := by decide +kernel
theorem dX8_writeTrain_97 : decode cX8_writeTrain 97 = .ok (.iaload, 1) := by decide +kernel
theorem dX8_writeTrain_98 : decode cX8_writeTrain 98 = .ok (.invokevirtual 256, 3) := by decide +kernel
theorem dX8_writeTrain_101 : decode cX8_writeTrain 101 = .ok (.aload_n 0, 1) := by decide +kernel
theorem dX8_writeTrain_102 : decode cX8_writeTrain 102 = .ok (.getfield 12, 3) := by decide +kernel
theorem dX8_writeTrain_105 : decode cX8_writeTrain 105 = .ok (.getfield 202, 3) := by decide +kernel
theorem dX8_writeTrain_108 : decode cX8_writeTrain 108 = .ok (.iload_n 1, 1) := by decide +kernel
theorem dX8_writeTrain_109 : decode cX8_writeTrain 109 = .ok (.invokestatic 107, 3) := by decide +kernel
theorem dX8_writeTrain_112 : decode cX8_writeTrain 112 = .ok (.ifCond .eq 12, 3) := by decide +kernel
theorem dX8_writeTrain_115 : decode cX8_writeTrain 115 = .ok (.aload_n 0, 1) := by decide +kernel
theorem dX8_writeTrain_116 : decode cX8_writeTrain 116 = .ok (.getfield 53, 3) := by decide +kernel
theorem dX8_writeTrain_119 : decode cX8_writeTrain 119 = .ok (.bipush 33, 2) := by decide +kernel
theorem dX8_writeTrain_121 : decode cX8_writeTrain 121 = .ok (.invokevirtual 260, 3) := by decide +kernel
theorem dX8_writeTrain_124 : decode cX8_writeTrain 124 = .ok (.aload_n 0, 1) := by decide +kernel
theorem dX8_writeTrain_125 : decode cX8_writeTrain 125 = .ok (.getfield 53, 3) := by decide +kernel
theorem dX8_writeTrain_128 : decode cX8_writeTrain 128 = .ok (.getfield 264, 3) := by decide +kernel
theorem dX8_writeTrain_131 : decode cX8_writeTrain 131 = .ok (.ireturn, 1) := by decide +kernel
theorem dX8_writeSignals_0 : decode cX8_writeSignals 0 = .ok (.aload_n 0, 1) := by decide +kernel
theorem dX8_writeSignals_1 : decode cX8_writeSignals 1 = .ok (.getfield 53, 3) := by decide +kernel
theorem dX8_writeSignals_4 : decode cX8_writeSignals 4 = .ok (.invokevirtual 253, 3) := by decide +kernel
theorem dX8_writeSignals_7 : decode cX8_writeSignals 7 = .ok (.iconst 0, 1) := by decide +kernel
theorem dX8_writeSignals_8 : decode cX8_writeSignals 8 = .ok (.istore_n 1, 1) := by decide +kernel
theorem dX8_writeSignals_9 : decode cX8_writeSignals 9 = .ok (.iload_n 1, 1) := by decide +kernel
theorem dX8_writeSignals_10 : decode cX8_writeSignals 10 = .ok (.aload_n 0, 1) := by decide +kernel
theorem dX8_writeSignals_11 : decode cX8_writeSignals 11 = .ok (.getfield 12, 3) := by decide +kernel
theorem dX8_writeSignals_14 : decode cX8_writeSignals 14 = .ok (.getfield 93, 3) := by decide +kernel
theorem dX8_writeSignals_17 : decode cX8_writeSignals 17 = .ok (.if_icmp .ge 24, 3) := by decide +kernel
theorem dX8_writeSignals_20 : decode cX8_writeSignals 20 = .ok (.aload_n 0, 1) := by decide +kernel
theorem dX8_writeSignals_21 : decode cX8_writeSignals 21 = .ok (.getfield 53, 3) := by decide +kernel
theorem dX8_writeSignals_24 : decode cX8_writeSignals 24 = .ok (.aload_n 0, 1) := by decide +kernel
theorem dX8_writeSignals_25 : decode cX8_writeSignals 25 = .ok (.getfield 12, 3) := by decide +kernel
theorem dX8_writeSignals_28 : decode cX8_writeSignals 28 = .ok (.iload_n 1, 1) := by decide +kernel
theorem dX8_writeSignals_29 : decode cX8_writeSignals 29 = .ok (.invokevirtual 134, 3) := by decide +kernel
theorem dX8_writeSignals_32 : decode cX8_writeSignals 32 = .ok (.invokevirtual 260, 3) := by decide +kernel
theorem dX8_writeSignals_35 : decode cX8_writeSignals 35 = .ok (.iinc 1 1, 3) := by decide +kernel
theorem dX8_writeSignals_38 : decode cX8_writeSignals 38 = .ok (.goto (-29), 3) := by decide +kernel
theorem dX8_writeSignals_41 : decode cX8_writeSignals 41 = .ok (.aload_n 0, 1) := by decide +kernel
theorem dX8_writeSignals_42 : decode cX8_writeSignals 42 = .ok (.getfield 53, 3) := by decide +kernel
theorem dX8_writeSignals_45 : decode cX8_writeSignals 45 = .ok (.getfield 264, 3) := by decide +kernel
theorem dX8_writeSignals_48 : decode cX8_writeSignals 48 = .ok (.ireturn, 1) := by decide +kernel
theorem dX8_outputCharacter_0 : decode cX8_outputCharacter 0 = .ok (.iload_n 1, 1) := by decide +kernel
theorem dX8_outputCharacter_1 : decode cX8_outputCharacter 1 = .ok (.ifCond .lt 14, 3) := by decide +kernel
theorem dX8_outputCharacter_4 : decode cX8_outputCharacter 4 = .ok (.iload_n 1, 1) := by decide +kernel
theorem dX8_outputCharacter_5 : decode cX8_outputCharacter 5 = .ok (.aload_n 0, 1) := by decide +kernel
theorem dX8_outputCharacter_6 : decode cX8_outputCharacter 6 = .ok (.getfield 53, 3) := by decide +kernel
theorem dX8_outputCharacter_9 : decode cX8_outputCharacter 9 = .ok (.getfield 264, 3) := by decide +kernel
theorem dX8_outputCharacter_12 : decode cX8_outputCharacter 12 = .ok (.if_icmp .lt 14, 3) := by decide +kernel
theorem dX8_outputCharacter_15 : decode cX8_outputCharacter 15 = .ok (.new 267, 3) := by decide +kernel
theorem dX8_outputCharacter_18 : decode cX8_outputCharacter 18 = .ok (.dup, 1) := by decide +kernel
theorem dX8_outputCharacter_19 : decode cX8_outputCharacter 19 = .ok (.ldc_w 269, 3) := by decide +kernel
theorem dX8_outputCharacter_22 : decode cX8_outputCharacter 22 = .ok (.invokespecial 271, 3) := by decide +kernel
theorem dX8_outputCharacter_25 : decode cX8_outputCharacter 25 = .ok (.athrow, 1) := by decide +kernel
theorem dX8_outputCharacter_26 : decode cX8_outputCharacter 26 = .ok (.aload_n 0, 1) := by decide +kernel
theorem dX8_outputCharacter_27 : decode cX8_outputCharacter 27 = .ok (.getfield 53, 3) := by decide +kernel
theorem dX8_outputCharacter_30 : decode cX8_outputCharacter 30 = .ok (.getfield 272, 3) := by decide +kernel
theorem dX8_outputCharacter_33 : decode cX8_outputCharacter 33 = .ok (.iload_n 1, 1) := by decide +kernel
theorem dX8_outputCharacter_34 : decode cX8_outputCharacter 34 = .ok (.caload, 1) := by decide +kernel
theorem dX8_outputCharacter_35 : decode cX8_outputCharacter 35 = .ok (.ireturn, 1) := by decide +kernel
theorem dX8_isConsistent_0 : decode cX8_isConsistent 0 = .ok (.aload_n 0, 1) := by decide +kernel
theorem dX8_isConsistent_1 : decode cX8_isConsistent 1 = .ok (.getfield 32, 3) := by decide +kernel
theorem dX8_isConsistent_4 : decode cX8_isConsistent 4 = .ok (.aload_n 0, 1) := by decide +kernel
theorem dX8_isConsistent_5 : decode cX8_isConsistent 5 = .ok (.getfield 12, 3) := by decide +kernel
theorem dX8_isConsistent_8 : decode cX8_isConsistent 8 = .ok (.invokevirtual 276, 3) := by decide +kernel
theorem dX8_isConsistent_11 : decode cX8_isConsistent 11 = .ok (.ifCond .eq 57, 3) := by decide +kernel
theorem dX8_isConsistent_14 : decode cX8_isConsistent 14 = .ok (.aload_n 0, 1) := by decide +kernel
theorem dX8_isConsistent_15 : decode cX8_isConsistent 15 = .ok (.getfield 32, 3) := by decide +kernel
theorem dX8_isConsistent_18 : decode cX8_isConsistent 18 = .ok (.aload_n 0, 1) := by decide +kernel
theorem dX8_isConsistent_19 : decode cX8_isConsistent 19 = .ok (.getfield 12, 3) := by decide +kernel
theorem dX8_isConsistent_22 : decode cX8_isConsistent 22 = .ok (.invokevirtual 158, 3) := by decide +kernel
theorem dX8_isConsistent_25 : decode cX8_isConsistent 25 = .ok (.aload_n 0, 1) := by decide +kernel
theorem dX8_isConsistent_26 : decode cX8_isConsistent 26 = .ok (.getfield 32, 3) := by decide +kernel
theorem dX8_isConsistent_29 : decode cX8_isConsistent 29 = .ok (.aload_n 0, 1) := by decide +kernel
theorem dX8_isConsistent_30 : decode cX8_isConsistent 30 = .ok (.getfield 12, 3) := by decide +kernel
theorem dX8_isConsistent_33 : decode cX8_isConsistent 33 = .ok (.invokevirtual 162, 3) := by decide +kernel
theorem dX8_isConsistent_36 : decode cX8_isConsistent 36 = .ok (.if_icmp .ne 32, 3) := by decide +kernel
theorem dX8_isConsistent_39 : decode cX8_isConsistent 39 = .ok (.aload_n 0, 1) := by decide +kernel
theorem dX8_isConsistent_40 : decode cX8_isConsistent 40 = .ok (.getfield 39, 3) := by decide +kernel
theorem dX8_isConsistent_43 : decode cX8_isConsistent 43 = .ok (.aload_n 0, 1) := by decide +kernel
theorem dX8_isConsistent_44 : decode cX8_isConsistent 44 = .ok (.getfield 12, 3) := by decide +kernel
theorem dX8_isConsistent_47 : decode cX8_isConsistent 47 = .ok (.invokevirtual 214, 3) := by decide +kernel
theorem dX8_isConsistent_50 : decode cX8_isConsistent 50 = .ok (.aload_n 0, 1) := by decide +kernel
theorem dX8_isConsistent_51 : decode cX8_isConsistent 51 = .ok (.getfield 39, 3) := by decide +kernel
theorem dX8_isConsistent_54 : decode cX8_isConsistent 54 = .ok (.aload_n 0, 1) := by decide +kernel
theorem dX8_isConsistent_55 : decode cX8_isConsistent 55 = .ok (.getfield 12, 3) := by decide +kernel
theorem dX8_isConsistent_58 : decode cX8_isConsistent 58 = .ok (.invokevirtual 217, 3) := by decide +kernel
theorem dX8_isConsistent_61 : decode cX8_isConsistent 61 = .ok (.if_icmp .ne 7, 3) := by decide +kernel
theorem dX8_isConsistent_64 : decode cX8_isConsistent 64 = .ok (.iconst 1, 1) := by decide +kernel
theorem dX8_isConsistent_65 : decode cX8_isConsistent 65 = .ok (.goto 4, 3) := by decide +kernel
theorem dX8_isConsistent_68 : decode cX8_isConsistent 68 = .ok (.iconst 0, 1) := by decide +kernel
theorem dX8_isConsistent_69 : decode cX8_isConsistent 69 = .ok (.ireturn, 1) := by decide +kernel
theorem dX8_feed_0 : decode cX8_feed 0 = .ok (.aload_n 0, 1) := by decide +kernel
theorem dX8_feed_1 : decode cX8_feed 1 = .ok (.getfield 46, 3) := by decide +kernel
theorem dX8_feed_4 : decode cX8_feed 4 = .ok (.iload_n 1, 1) := by decide +kernel
theorem dX8_feed_5 : decode cX8_feed 5 = .ok (.invokevirtual 280, 3) := by decide +kernel
theorem dX8_feed_8 : decode cX8_feed 8 = .ok (.ifCond .ne 14, 3) := by decide +kernel
theorem dX8_feed_11 : decode cX8_feed 11 = .ok (.new 284, 3) := by decide +kernel
theorem dX8_feed_14 : decode cX8_feed 14 = .ok (.dup, 1) := by decide +kernel
theorem dX8_feed_15 : decode cX8_feed 15 = .ok (.ldc_w 286, 3) := by decide +kernel
theorem dX8_feed_18 : decode cX8_feed 18 = .ok (.invokespecial 288, 3) := by decide +kernel
theorem dX8_feed_21 : decode cX8_feed 21 = .ok (.athrow, 1) := by decide +kernel
theorem dX8_feed_22 : decode cX8_feed 22 = .ok (.aload_n 0, 1) := by decide +kernel
theorem dX8_feed_23 : decode cX8_feed 23 = .ok (.getfield 46, 3) := by decide +kernel
theorem dX8_feed_26 : decode cX8_feed 26 = .ok (.getfield 289, 3) := by decide +kernel
theorem dX8_feed_29 : decode cX8_feed 29 = .ok (.ireturn, 1) := by decide +kernel
theorem dX8_execute_0 : decode cX8_execute 0 = .ok (.aload_n 0, 1) := by decide +kernel
theorem dX8_execute_1 : decode cX8_execute 1 = .ok (.getfield 46, 3) := by decide +kernel
theorem dX8_execute_4 : decode cX8_execute 4 = .ok (.invokevirtual 290, 3) := by decide +kernel
theorem dX8_execute_7 : decode cX8_execute 7 = .ok (.istore_n 1, 1) := by decide +kernel
theorem dX8_execute_8 : decode cX8_execute 8 = .ok (.iload_n 1, 1) := by decide +kernel
theorem dX8_execute_9 : decode cX8_execute 9 = .ok (.iconst (-1), 1) := by decide +kernel
theorem dX8_execute_10 : decode cX8_execute 10 = .ok (.if_icmp .eq 26, 3) := by decide +kernel
theorem dX8_execute_13 : decode cX8_execute 13 = .ok (.aload_n 0, 1) := by decide +kernel
theorem dX8_execute_14 : decode cX8_execute 14 = .ok (.iload_n 1, 1) := by decide +kernel
theorem dX8_execute_15 : decode cX8_execute 15 = .ok (.putfield 61, 3) := by decide +kernel
theorem dX8_execute_18 : decode cX8_execute 18 = .ok (.aload_n 0, 1) := by decide +kernel
theorem dX8_execute_19 : decode cX8_execute 19 = .ok (.getfield 46, 3) := by decide +kernel
theorem dX8_execute_22 : decode cX8_execute 22 = .ok (.invokevirtual 293, 3) := by decide +kernel
theorem dX8_execute_25 : decode cX8_execute 25 = .ok (.new 294, 3) := by decide +kernel
theorem dX8_execute_28 : decode cX8_execute 28 = .ok (.dup, 1) := by decide +kernel
theorem dX8_execute_29 : decode cX8_execute 29 = .ok (.ldc_w 296, 3) := by decide +kernel
theorem dX8_execute_32 : decode cX8_execute 32 = .ok (.invokespecial 298, 3) := by decide +kernel
theorem dX8_execute_35 : decode cX8_execute 35 = .ok (.athrow, 1) := by decide +kernel
theorem dX8_execute_36 : decode cX8_execute 36 = .ok (.aload_n 0, 1) := by decide +kernel
theorem dX8_execute_37 : decode cX8_execute 37 = .ok (.getfield 25, 3) := by decide +kernel
theorem dX8_execute_40 : decode cX8_execute 40 = .ok (.aload_n 0, 1) := by decide +kernel
theorem dX8_execute_41 : decode cX8_execute 41 = .ok (.getfield 12, 3) := by decide +kernel
theorem dX8_execute_44 : decode cX8_execute 44 = .ok (.invokevirtual 68, 3) := by decide +kernel
theorem dX8_execute_47 : decode cX8_execute 47 = .ok (.iconst 0, 1) := by decide +kernel
theorem dX8_execute_48 : decode cX8_execute 48 = .ok (.istore_n 2, 1) := by decide +kernel
theorem dX8_execute_49 : decode cX8_execute 49 = .ok (.iconst 0, 1) := by decide +kernel
theorem dX8_execute_50 : decode cX8_execute 50 = .ok (.istore_n 3, 1) := by decide +kernel
theorem dX8_execute_51 : decode cX8_execute 51 = .ok (.aload_n 0, 1) := by decide +kernel
theorem dX8_execute_52 : decode cX8_execute 52 = .ok (.getfield 46, 3) := by decide +kernel
theorem dX8_execute_55 : decode cX8_execute 55 = .ok (.invokevirtual 299, 3) := by decide +kernel
theorem dX8_execute_58 : decode cX8_execute 58 = .ok (.iload_n 2, 1) := by decide +kernel
theorem dX8_execute_59 : decode cX8_execute 59 = .ok (.ifCond .ne 63, 3) := by decide +kernel
theorem dX8_execute_62 : decode cX8_execute 62 = .ok (.iload_n 3, 1) := by decide +kernel
theorem dX8_execute_63 : decode cX8_execute 63 = .ok (.bipush 60, 2) := by decide +kernel
theorem dX8_execute_65 : decode cX8_execute 65 = .ok (.if_icmp .ge 57, 3) := by decide +kernel
theorem dX8_execute_68 : decode cX8_execute 68 = .ok (.aload_n 0, 1) := by decide +kernel
theorem dX8_execute_69 : decode cX8_execute 69 = .ok (.getfield 46, 3) := by decide +kernel
theorem dX8_execute_72 : decode cX8_execute 72 = .ok (.invokevirtual 302, 3) := by decide +kernel
theorem dX8_execute_75 : decode cX8_execute 75 = .ok (.ifCond .eq 47, 3) := by decide +kernel
theorem dX8_execute_78 : decode cX8_execute 78 = .ok (.aload_n 0, 1) := by decide +kernel
theorem dX8_execute_79 : decode cX8_execute 79 = .ok (.aload_n 0, 1) := by decide +kernel
theorem dX8_execute_80 : decode cX8_execute 80 = .ok (.getfield 46, 3) := by decide +kernel
theorem dX8_execute_83 : decode cX8_execute 83 = .ok (.getfield 306, 3) := by decide +kernel
theorem dX8_execute_86 : decode cX8_execute 86 = .ok (.aload_n 0, 1) := by decide +kernel
theorem dX8_execute_87 : decode cX8_execute 87 = .ok (.getfield 46, 3) := by decide +kernel
theorem dX8_execute_90 : decode cX8_execute 90 = .ok (.getfield 310, 3) := by decide +kernel
theorem dX8_execute_93 : decode cX8_execute 93 = .ok (.aload_n 0, 1) := by decide +kernel
theorem dX8_execute_94 : decode cX8_execute 94 = .ok (.getfield 46, 3) := by decide +kernel
theorem dX8_execute_97 : decode cX8_execute 97 = .ok (.getfield 313, 3) := by decide +kernel
theorem dX8_execute_100 : decode cX8_execute 100 = .ok (.invokevirtual 316, 3) := by decide +kernel
theorem dX8_execute_103 : decode cX8_execute 103 = .ok (.ifCond .ge 7, 3) := by decide +kernel
theorem dX8_execute_106 : decode cX8_execute 106 = .ok (.iconst 1, 1) := by decide +kernel
theorem dX8_execute_107 : decode cX8_execute 107 = .ok (.goto 4, 3) := by decide +kernel
theorem dX8_execute_110 : decode cX8_execute 110 = .ok (.iconst 0, 1) := by decide +kernel
theorem dX8_execute_111 : decode cX8_execute 111 = .ok (.istore_n 2, 1) := by decide +kernel
theorem dX8_execute_112 : decode cX8_execute 112 = .ok (.iload_n 2, 1) := by decide +kernel
theorem dX8_execute_113 : decode cX8_execute 113 = .ok (.ifCond .ne (-55), 3) := by decide +kernel
theorem dX8_execute_116 : decode cX8_execute 116 = .ok (.iinc 3 1, 3) := by decide +kernel
theorem dX8_execute_119 : decode cX8_execute 119 = .ok (.goto (-61), 3) := by decide +kernel
theorem dX8_execute_122 : decode cX8_execute 122 = .ok (.aload_n 0, 1) := by decide +kernel
theorem dX8_execute_123 : decode cX8_execute 123 = .ok (.getfield 46, 3) := by decide +kernel
theorem dX8_execute_126 : decode cX8_execute 126 = .ok (.invokevirtual 293, 3) := by decide +kernel
theorem dX8_execute_129 : decode cX8_execute 129 = .ok (.iload_n 2, 1) := by decide +kernel
theorem dX8_execute_130 : decode cX8_execute 130 = .ok (.ifCond .eq 30, 3) := by decide +kernel
theorem dX8_execute_133 : decode cX8_execute 133 = .ok (.aload_n 0, 1) := by decide +kernel
theorem dX8_execute_134 : decode cX8_execute 134 = .ok (.getfield 25, 3) := by decide +kernel
theorem dX8_execute_137 : decode cX8_execute 137 = .ok (.aload_n 0, 1) := by decide +kernel
theorem dX8_execute_138 : decode cX8_execute 138 = .ok (.getfield 12, 3) := by decide +kernel
theorem dX8_execute_141 : decode cX8_execute 141 = .ok (.invokevirtual 320, 3) := by decide +kernel
theorem dX8_execute_144 : decode cX8_execute 144 = .ok (.aload_n 0, 1) := by decide +kernel
theorem dX8_execute_145 : decode cX8_execute 145 = .ok (.iload_n 3, 1) := by decide +kernel
theorem dX8_execute_146 : decode cX8_execute 146 = .ok (.putfield 65, 3) := by decide +kernel
theorem dX8_execute_149 : decode cX8_execute 149 = .ok (.new 323, 3) := by decide +kernel
theorem dX8_execute_152 : decode cX8_execute 152 = .ok (.dup, 1) := by decide +kernel
theorem dX8_execute_153 : decode cX8_execute 153 = .ok (.ldc_w 325, 3) := by decide +kernel
theorem dX8_execute_156 : decode cX8_execute 156 = .ok (.invokespecial 327, 3) := by decide +kernel
theorem dX8_execute_159 : decode cX8_execute 159 = .ok (.athrow, 1) := by decide +kernel
theorem dX8_execute_160 : decode cX8_execute 160 = .ok (.aload_n 0, 1) := by decide +kernel
theorem dX8_execute_161 : decode cX8_execute 161 = .ok (.iload_n 3, 1) := by decide +kernel
theorem dX8_execute_162 : decode cX8_execute 162 = .ok (.invokevirtual 76, 3) := by decide +kernel
theorem dX8_execute_165 : decode cX8_execute 165 = .ok (.ireturn, 1) := by decide +kernel
theorem dX8_errorPosition_0 : decode cX8_errorPosition 0 = .ok (.aload_n 0, 1) := by decide +kernel
theorem dX8_errorPosition_1 : decode cX8_errorPosition 1 = .ok (.getfield 61, 3) := by decide +kernel
theorem dX8_errorPosition_4 : decode cX8_errorPosition 4 = .ok (.invokestatic 128, 3) := by decide +kernel
theorem dX8_errorPosition_7 : decode cX8_errorPosition 7 = .ok (.ireturn, 1) := by decide +kernel
theorem dX8_failedCommand_0 : decode cX8_failedCommand 0 = .ok (.aload_n 0, 1) := by decide +kernel
theorem dX8_failedCommand_1 : decode cX8_failedCommand 1 = .ok (.getfield 65, 3) := by decide +kernel
theorem dX8_failedCommand_4 : decode cX8_failedCommand 4 = .ok (.invokestatic 128, 3) := by decide +kernel
theorem dX8_failedCommand_7 : decode cX8_failedCommand 7 = .ok (.ireturn, 1) := by decide +kernel
theorem dX8_undo_0 : decode cX8_undo 0 = .ok (.aload_n 0, 1) := by decide +kernel
theorem dX8_undo_1 : decode cX8_undo 1 = .ok (.getfield 25, 3) := by decide +kernel
theorem dX8_undo_4 : decode cX8_undo 4 = .ok (.getfield 328, 3) := by decide +kernel
theorem dX8_undo_7 : decode cX8_undo 7 = .ok (.ifCond .ne 14, 3) := by decide +kernel
theorem dX8_undo_10 : decode cX8_undo 10 = .ok (.new 284, 3) := by decide +kernel
theorem dX8_undo_13 : decode cX8_undo 13 = .ok (.dup, 1) := by decide +kernel
theorem dX8_undo_14 : decode cX8_undo 14 = .ok (.ldc_w 331, 3) := by decide +kernel
theorem dX8_undo_17 : decode cX8_undo 17 = .ok (.invokespecial 288, 3) := by decide +kernel
theorem dX8_undo_20 : decode cX8_undo 20 = .ok (.athrow, 1) := by decide +kernel
theorem dX8_undo_21 : decode cX8_undo 21 = .ok (.aload_n 0, 1) := by decide +kernel
theorem dX8_undo_22 : decode cX8_undo 22 = .ok (.getfield 25, 3) := by decide +kernel
theorem dX8_undo_25 : decode cX8_undo 25 = .ok (.aload_n 0, 1) := by decide +kernel
theorem dX8_undo_26 : decode cX8_undo 26 = .ok (.getfield 12, 3) := by decide +kernel
theorem dX8_undo_29 : decode cX8_undo 29 = .ok (.invokevirtual 333, 3) := by decide +kernel
theorem dX8_undo_32 : decode cX8_undo 32 = .ok (.ireturn, 1) := by decide +kernel
theorem dX8_undoCount_0 : decode cX8_undoCount 0 = .ok (.aload_n 0, 1) := by decide +kernel
theorem dX8_undoCount_1 : decode cX8_undoCount 1 = .ok (.getfield 25, 3) := by decide +kernel
theorem dX8_undoCount_4 : decode cX8_undoCount 4 = .ok (.getfield 328, 3) := by decide +kernel
theorem dX8_undoCount_7 : decode cX8_undoCount 7 = .ok (.ireturn, 1) := by decide +kernel
theorem dX8_save_0 : decode cX8_save 0 = .ok (.aload_n 0, 1) := by decide +kernel
theorem dX8_save_1 : decode cX8_save 1 = .ok (.getfield 16, 3) := by decide +kernel
theorem dX8_save_4 : decode cX8_save 4 = .ok (.aload_n 0, 1) := by decide +kernel
theorem dX8_save_5 : decode cX8_save 5 = .ok (.getfield 12, 3) := by decide +kernel
theorem dX8_save_8 : decode cX8_save 8 = .ok (.invokevirtual 236, 3) := by decide +kernel
theorem dX8_save_11 : decode cX8_save 11 = .ok (.aload_n 0, 1) := by decide +kernel
theorem dX8_save_12 : decode cX8_save 12 = .ok (.iconst 1, 1) := by decide +kernel
theorem dX8_save_13 : decode cX8_save 13 = .ok (.putfield 57, 3) := by decide +kernel
theorem dX8_save_16 : decode cX8_save 16 = .ok (.aload_n 0, 1) := by decide +kernel
theorem dX8_save_17 : decode cX8_save 17 = .ok (.getfield 12, 3) := by decide +kernel
theorem dX8_save_20 : decode cX8_save 20 = .ok (.getfield 93, 3) := by decide +kernel
theorem dX8_save_23 : decode cX8_save 23 = .ok (.ireturn, 1) := by decide +kernel
theorem dX8_restore_0 : decode cX8_restore 0 = .ok (.aload_n 0, 1) := by decide +kernel
theorem dX8_restore_1 : decode cX8_restore 1 = .ok (.getfield 57, 3) := by decide +kernel
theorem dX8_restore_4 : decode cX8_restore 4 = .ok (.ifCond .ne 14, 3) := by decide +kernel
theorem dX8_restore_7 : decode cX8_restore 7 = .ok (.new 284, 3) := by decide +kernel
theorem dX8_restore_10 : decode cX8_restore 10 = .ok (.dup, 1) := by decide +kernel
theorem dX8_restore_11 : decode cX8_restore 11 = .ok (.ldc_w 336, 3) := by decide +kernel
theorem dX8_restore_14 : decode cX8_restore 14 = .ok (.invokespecial 288, 3) := by decide +kernel
theorem dX8_restore_17 : decode cX8_restore 17 = .ok (.athrow, 1) := by decide +kernel
theorem dX8_restore_18 : decode cX8_restore 18 = .ok (.aload_n 0, 1) := by decide +kernel
theorem dX8_restore_19 : decode cX8_restore 19 = .ok (.getfield 12, 3) := by decide +kernel
theorem dX8_restore_22 : decode cX8_restore 22 = .ok (.aload_n 0, 1) := by decide +kernel
theorem dX8_restore_23 : decode cX8_restore 23 = .ok (.getfield 16, 3) := by decide +kernel
theorem dX8_restore_26 : decode cX8_restore 26 = .ok (.invokevirtual 236, 3) := by decide +kernel
theorem dX8_restore_29 : decode cX8_restore 29 = .ok (.aload_n 0, 1) := by decide +kernel
theorem dX8_restore_30 : decode cX8_restore 30 = .ok (.getfield 25, 3) := by decide +kernel
theorem dX8_restore_33 : decode cX8_restore 33 = .ok (.invokevirtual 338, 3) := by decide +kernel
theorem dX8_restore_36 : decode cX8_restore 36 = .ok (.aload_n 0, 1) := by decide +kernel
theorem dX8_restore_37 : decode cX8_restore 37 = .ok (.getfield 12, 3) := by decide +kernel
theorem dX8_restore_40 : decode cX8_restore 40 = .ok (.getfield 93, 3) := by decide +kernel
theorem dX8_restore_43 : decode cX8_restore 43 = .ok (.ireturn, 1) := by decide +kernel
theorem dX8_needBlock_0 : decode cX8_needBlock 0 = .ok (.aload_n 0, 1) := by decide +kernel
theorem dX8_needBlock_1 : decode cX8_needBlock 1 = .ok (.getfield 12, 3) := by decide +kernel
theorem dX8_needBlock_4 : decode cX8_needBlock 4 = .ok (.iload_n 1, 1) := by decide +kernel
theorem dX8_needBlock_5 : decode cX8_needBlock 5 = .ok (.invokevirtual 341, 3) := by decide +kernel
theorem dX8_needBlock_8 : decode cX8_needBlock 8 = .ok (.ifCond .ne 14, 3) := by decide +kernel
theorem dX8_needBlock_11 : decode cX8_needBlock 11 = .ok (.new 267, 3) := by decide +kernel
theorem dX8_needBlock_14 : decode cX8_needBlock 14 = .ok (.dup, 1) := by decide +kernel
theorem dX8_needBlock_15 : decode cX8_needBlock 15 = .ok (.ldc_w 345, 3) := by decide +kernel
theorem dX8_needBlock_18 : decode cX8_needBlock 18 = .ok (.invokespecial 271, 3) := by decide +kernel
theorem dX8_needBlock_21 : decode cX8_needBlock 21 = .ok (.athrow, 1) := by decide +kernel
theorem dX8_needBlock_22 : decode cX8_needBlock 22 = .ok (.return_, 1) := by decide +kernel
theorem dX8_needTrain_0 : decode cX8_needTrain 0 = .ok (.aload_n 0, 1) := by decide +kernel
theorem dX8_needTrain_1 : decode cX8_needTrain 1 = .ok (.getfield 12, 3) := by decide +kernel
theorem dX8_needTrain_4 : decode cX8_needTrain 4 = .ok (.iload_n 1, 1) := by decide +kernel
theorem dX8_needTrain_5 : decode cX8_needTrain 5 = .ok (.invokevirtual 347, 3) := by decide +kernel
theorem dX8_needTrain_8 : decode cX8_needTrain 8 = .ok (.ifCond .ne 14, 3) := by decide +kernel
theorem dX8_needTrain_11 : decode cX8_needTrain 11 = .ok (.new 267, 3) := by decide +kernel
theorem dX8_needTrain_14 : decode cX8_needTrain 14 = .ok (.dup, 1) := by decide +kernel
theorem dX8_needTrain_15 : decode cX8_needTrain 15 = .ok (.ldc_w 350, 3) := by decide +kernel
theorem dX8_needTrain_18 : decode cX8_needTrain 18 = .ok (.invokespecial 271, 3) := by decide +kernel
theorem dX8_needTrain_21 : decode cX8_needTrain 21 = .ok (.athrow, 1) := by decide +kernel
theorem dX8_needTrain_22 : decode cX8_needTrain 22 = .ok (.return_, 1) := by decide +kernel
theorem dX8_has_0 : decode cX8_has 0 = .ok (.iload_n 0, 1) := by decide +kernel
theorem dX8_has_1 : decode cX8_has 1 = .ok (.iload_n 1, 1) := by decide +kernel
theorem dX8_has_2 : decode cX8_has 2 = .ok (.ishr, 1) := by decide +kernel
theorem dX8_has_3 : decode cX8_has 3 = .ok (.iconst 1, 1) := by decide +kernel
theorem dX8_has_4 : decode cX8_has 4 = .ok (.iand, 1) := by decide +kernel
theorem dX8_has_5 : decode cX8_has 5 = .ok (.ifCond .eq 7, 3) := by decide +kernel
theorem dX8_has_8 : decode cX8_has 8 = .ok (.iconst 1, 1) := by decide +kernel
theorem dX8_has_9 : decode cX8_has 9 = .ok (.goto 4, 3) := by decide +kernel
theorem dX8_has_12 : decode cX8_has 12 = .ok (.iconst 0, 1) := by decide +kernel
theorem dX8_has_13 : decode cX8_has 13 = .ok (.ireturn, 1) := by decide +kernel
theorem dX8_found_0 : decode cX8_found 0 = .ok (.iload_n 0, 1) := by decide +kernel
theorem dX8_found_1 : decode cX8_found 1 = .ok (.iconst (-1), 1) := by decide +kernel
theorem dX8_found_2 : decode cX8_found 2 = .ok (.if_icmp .ne 14, 3) := by decide +kernel
theorem dX8_found_5 : decode cX8_found 5 = .ok (.new 229, 3) := by decide +kernel
theorem dX8_found_8 : decode cX8_found 8 = .ok (.dup, 1) := by decide +kernel
theorem dX8_found_9 : decode cX8_found 9 = .ok (.ldc_w 352, 3) := by decide +kernel
theorem dX8_found_12 : decode cX8_found 12 = .ok (.invokespecial 233, 3) := by decide +kernel
theorem dX8_found_15 : decode cX8_found 15 = .ok (.athrow, 1) := by decide +kernel
theorem dX8_found_16 : decode cX8_found 16 = .ok (.iload_n 0, 1) := by decide +kernel
theorem dX8_found_17 : decode cX8_found 17 = .ok (.ireturn, 1) := by decide +kernel
theorem dX8_changed_0 : decode cX8_changed 0 = .ok (.iload_n 1, 1) := by decide +kernel
theorem dX8_changed_1 : decode cX8_changed 1 = .ok (.bipush (-11), 2) := by decide +kernel
theorem dX8_changed_3 : decode cX8_changed 3 = .ok (.if_icmp .ne 14, 3) := by decide +kernel
theorem dX8_changed_6 : decode cX8_changed 6 = .ok (.new 267, 3) := by decide +kernel
theorem dX8_changed_9 : decode cX8_changed 9 = .ok (.dup, 1) := by decide +kernel
theorem dX8_changed_10 : decode cX8_changed 10 = .ok (.ldc_w 354, 3) := by decide +kernel
theorem dX8_changed_13 : decode cX8_changed 13 = .ok (.invokespecial 271, 3) := by decide +kernel
theorem dX8_changed_16 : decode cX8_changed 16 = .ok (.athrow, 1) := by decide +kernel
theorem dX8_changed_17 : decode cX8_changed 17 = .ok (.iload_n 1, 1) := by decide +kernel
theorem dX8_changed_18 : decode cX8_changed 18 = .ok (.bipush (-12), 2) := by decide +kernel
theorem dX8_changed_20 : decode cX8_changed 20 = .ok (.if_icmp .ne 14, 3) := by decide +kernel
theorem dX8_changed_23 : decode cX8_changed 23 = .ok (.new 294, 3) := by decide +kernel
theorem dX8_changed_26 : decode cX8_changed 26 = .ok (.dup, 1) := by decide +kernel
theorem dX8_changed_27 : decode cX8_changed 27 = .ok (.ldc_w 356, 3) := by decide +kernel
theorem dX8_changed_30 : decode cX8_changed 30 = .ok (.invokespecial 298, 3) := by decide +kernel
theorem dX8_changed_33 : decode cX8_changed 33 = .ok (.athrow, 1) := by decide +kernel
theorem dX8_changed_34 : decode cX8_changed 34 = .ok (.iload_n 1, 1) := by decide +kernel
theorem dX8_changed_35 : decode cX8_changed 35 = .ok (.bipush (-13), 2) := by decide +kernel
theorem dX8_changed_37 : decode cX8_changed 37 = .ok (.if_icmp .ne 14, 3) := by decide +kernel
theorem dX8_changed_40 : decode cX8_changed 40 = .ok (.new 284, 3) := by decide +kernel
theorem dX8_changed_43 : decode cX8_changed 43 = .ok (.dup, 1) := by decide +kernel
theorem dX8_changed_44 : decode cX8_changed 44 = .ok (.ldc_w 358, 3) := by decide +kernel
theorem dX8_changed_47 : decode cX8_changed 47 = .ok (.invokespecial 288, 3) := by decide +kernel
theorem dX8_changed_50 : decode cX8_changed 50 = .ok (.athrow, 1) := by decide +kernel
theorem dX8_changed_51 : decode cX8_changed 51 = .ok (.iload_n 1, 1) := by decide +kernel
theorem dX8_changed_52 : decode cX8_changed 52 = .ok (.bipush (-14), 2) := by decide +kernel
theorem dX8_changed_54 : decode cX8_changed 54 = .ok (.if_icmp .ne 14, 3) := by decide +kernel
theorem dX8_changed_57 : decode cX8_changed 57 = .ok (.new 323, 3) := by decide +kernel
theorem dX8_changed_60 : decode cX8_changed 60 = .ok (.dup, 1) := by decide +kernel
theorem dX8_changed_61 : decode cX8_changed 61 = .ok (.ldc_w 360, 3) := by decide +kernel
theorem dX8_changed_64 : decode cX8_changed 64 = .ok (.invokespecial 327, 3) := by decide +kernel
theorem dX8_changed_67 : decode cX8_changed 67 = .ok (.athrow, 1) := by decide +kernel
theorem dX8_changed_68 : decode cX8_changed 68 = .ok (.iload_n 1, 1) := by decide +kernel
theorem dX8_changed_69 : decode cX8_changed 69 = .ok (.bipush (-15), 2) := by decide +kernel
theorem dX8_changed_71 : decode cX8_changed 71 = .ok (.if_icmp .ne 14, 3) := by decide +kernel
theorem dX8_changed_74 : decode cX8_changed 74 = .ok (.new 229, 3) := by decide +kernel
theorem dX8_changed_77 : decode cX8_changed 77 = .ok (.dup, 1) := by decide +kernel
theorem dX8_changed_78 : decode cX8_changed 78 = .ok (.ldc_w 352, 3) := by decide +kernel
theorem dX8_changed_81 : decode cX8_changed 81 = .ok (.invokespecial 233, 3) := by decide +kernel
theorem dX8_changed_84 : decode cX8_changed 84 = .ok (.athrow, 1) := by decide +kernel
theorem dX8_changed_85 : decode cX8_changed 85 = .ok (.aload_n 0, 1) := by decide +kernel
theorem dX8_changed_86 : decode cX8_changed 86 = .ok (.getfield 25, 3) := by decide +kernel
theorem dX8_changed_89 : decode cX8_changed 89 = .ok (.invokevirtual 362, 3) := by decide +kernel
theorem dX8_changed_92 : decode cX8_changed 92 = .ok (.iload_n 1, 1) := by decide +kernel
theorem dX8_changed_93 : decode cX8_changed 93 = .ok (.ireturn, 1) := by decide +kernel
theorem dX8_perform_0 : decode cX8_perform 0 = .ok (.getstatic 365, 3) := by decide +kernel
theorem dX8_perform_3 : decode cX8_perform 3 = .ok (.aload_n 1, 1) := by decide +kernel
theorem dX8_perform_4 : decode cX8_perform 4 = .ok (.invokevirtual 370, 3) := by decide +kernel
theorem dX8_perform_7 : decode cX8_perform 7 = .ok (.iaload, 1) := by decide +kernel
theorem dX8_perform_8 : decode cX8_perform 8 = .ok (.tableswitch 147 1 9 #[52, 62, 72, 82, 92, 106, 115, 125, 134], 52) := by decide +kernel
theorem dX8_perform_60 : decode cX8_perform 60 = .ok (.aload_n 0, 1) := by decide +kernel
theorem dX8_perform_61 : decode cX8_perform 61 = .ok (.getfield 12, 3) := by decide +kernel
theorem dX8_perform_64 : decode cX8_perform 64 = .ok (.iload_n 2, 1) := by decide +kernel
theorem dX8_perform_65 : decode cX8_perform 65 = .ok (.iconst 0, 1) := by decide +kernel
theorem dX8_perform_66 : decode cX8_perform 66 = .ok (.invokevirtual 72, 3) := by decide +kernel
theorem dX8_perform_69 : decode cX8_perform 69 = .ok (.ireturn, 1) := by decide +kernel
theorem dX8_perform_70 : decode cX8_perform 70 = .ok (.aload_n 0, 1) := by decide +kernel
theorem dX8_perform_71 : decode cX8_perform 71 = .ok (.getfield 12, 3) := by decide +kernel
theorem dX8_perform_74 : decode cX8_perform 74 = .ok (.iload_n 2, 1) := by decide +kernel
theorem dX8_perform_75 : decode cX8_perform 75 = .ok (.iconst 1, 1) := by decide +kernel
theorem dX8_perform_76 : decode cX8_perform 76 = .ok (.invokevirtual 72, 3) := by decide +kernel
theorem dX8_perform_79 : decode cX8_perform 79 = .ok (.ireturn, 1) := by decide +kernel
theorem dX8_perform_80 : decode cX8_perform 80 = .ok (.aload_n 0, 1) := by decide +kernel
theorem dX8_perform_81 : decode cX8_perform 81 = .ok (.getfield 12, 3) := by decide +kernel
theorem dX8_perform_84 : decode cX8_perform 84 = .ok (.iload_n 2, 1) := by decide +kernel
theorem dX8_perform_85 : decode cX8_perform 85 = .ok (.iload_n 3, 1) := by decide +kernel
theorem dX8_perform_86 : decode cX8_perform 86 = .ok (.invokevirtual 80, 3) := by decide +kernel
theorem dX8_perform_89 : decode cX8_perform 89 = .ok (.ireturn, 1) := by decide +kernel
theorem dX8_perform_90 : decode cX8_perform 90 = .ok (.aload_n 0, 1) := by decide +kernel
theorem dX8_perform_91 : decode cX8_perform 91 = .ok (.getfield 12, 3) := by decide +kernel
theorem dX8_perform_94 : decode cX8_perform 94 = .ok (.iload_n 2, 1) := by decide +kernel
theorem dX8_perform_95 : decode cX8_perform 95 = .ok (.iload_n 3, 1) := by decide +kernel
theorem dX8_perform_96 : decode cX8_perform 96 = .ok (.invokevirtual 168, 3) := by decide +kernel
theorem dX8_perform_99 : decode cX8_perform 99 = .ok (.ireturn, 1) := by decide +kernel
theorem dX8_perform_100 : decode cX8_perform 100 = .ok (.aload_n 0, 1) := by decide +kernel
theorem dX8_perform_101 : decode cX8_perform 101 = .ok (.getfield 39, 3) := by decide +kernel
theorem dX8_perform_104 : decode cX8_perform 104 = .ok (.aload_n 0, 1) := by decide +kernel
theorem dX8_perform_105 : decode cX8_perform 105 = .ok (.getfield 12, 3) := by decide +kernel
theorem dX8_perform_108 : decode cX8_perform 108 = .ok (.iload_n 2, 1) := by decide +kernel
theorem dX8_perform_109 : decode cX8_perform 109 = .ok (.iload_n 3, 1) := by decide +kernel
theorem dX8_perform_110 : decode cX8_perform 110 = .ok (.invokevirtual 171, 3) := by decide +kernel
theorem dX8_perform_113 : decode cX8_perform 113 = .ok (.ireturn, 1) := by decide +kernel
theorem dX8_perform_114 : decode cX8_perform 114 = .ok (.aload_n 0, 1) := by decide +kernel
theorem dX8_perform_115 : decode cX8_perform 115 = .ok (.getfield 12, 3) := by decide +kernel
theorem dX8_perform_118 : decode cX8_perform 118 = .ok (.iload_n 2, 1) := by decide +kernel
theorem dX8_perform_119 : decode cX8_perform 119 = .ok (.invokevirtual 87, 3) := by decide +kernel
theorem dX8_perform_122 : decode cX8_perform 122 = .ok (.ireturn, 1) := by decide +kernel
theorem dX8_perform_123 : decode cX8_perform 123 = .ok (.aload_n 0, 1) := by decide +kernel
theorem dX8_perform_124 : decode cX8_perform 124 = .ok (.getfield 12, 3) := by decide +kernel
theorem dX8_perform_127 : decode cX8_perform 127 = .ok (.iload_n 2, 1) := by decide +kernel
theorem dX8_perform_128 : decode cX8_perform 128 = .ok (.iload_n 3, 1) := by decide +kernel
theorem dX8_perform_129 : decode cX8_perform 129 = .ok (.invokevirtual 178, 3) := by decide +kernel
theorem dX8_perform_132 : decode cX8_perform 132 = .ok (.ireturn, 1) := by decide +kernel
theorem dX8_perform_133 : decode cX8_perform 133 = .ok (.aload_n 0, 1) := by decide +kernel
theorem dX8_perform_134 : decode cX8_perform 134 = .ok (.getfield 12, 3) := by decide +kernel
theorem dX8_perform_137 : decode cX8_perform 137 = .ok (.iload_n 2, 1) := by decide +kernel
theorem dX8_perform_138 : decode cX8_perform 138 = .ok (.invokevirtual 184, 3) := by decide +kernel
theorem dX8_perform_141 : decode cX8_perform 141 = .ok (.ireturn, 1) := by decide +kernel
theorem dX8_perform_142 : decode cX8_perform 142 = .ok (.aload_n 0, 1) := by decide +kernel
theorem dX8_perform_143 : decode cX8_perform 143 = .ok (.getfield 39, 3) := by decide +kernel
theorem dX8_perform_146 : decode cX8_perform 146 = .ok (.aload_n 0, 1) := by decide +kernel
theorem dX8_perform_147 : decode cX8_perform 147 = .ok (.getfield 12, 3) := by decide +kernel
theorem dX8_perform_150 : decode cX8_perform 150 = .ok (.iload_n 2, 1) := by decide +kernel
theorem dX8_perform_151 : decode cX8_perform 151 = .ok (.invokevirtual 220, 3) := by decide +kernel
theorem dX8_perform_154 : decode cX8_perform 154 = .ok (.ireturn, 1) := by decide +kernel
theorem dX8_perform_155 : decode cX8_perform 155 = .ok (.bipush (-14), 2) := by decide +kernel
theorem dX8_perform_157 : decode cX8_perform 157 = .ok (.ireturn, 1) := by decide +kernel
theorem dX9_init_0 : decode cX9_init 0 = .ok (.aload_n 0, 1) := by decide +kernel
theorem dX9_init_1 : decode cX9_init 1 = .ok (.invokespecial 1, 3) := by decide +kernel
theorem dX9_init_4 : decode cX9_init 4 = .ok (.aload_n 0, 1) := by decide +kernel
theorem dX9_init_5 : decode cX9_init 5 = .ok (.bipush 116, 2) := by decide +kernel
theorem dX9_init_7 : decode cX9_init 7 = .ok (.newarray .int, 2) := by decide +kernel
theorem dX9_init_9 : decode cX9_init 9 = .ok (.putfield 7, 3) := by decide +kernel
theorem dX9_init_12 : decode cX9_init 12 = .ok (.aload_n 0, 1) := by decide +kernel
theorem dX9_init_13 : decode cX9_init 13 = .ok (.bipush 116, 2) := by decide +kernel
theorem dX9_init_15 : decode cX9_init 15 = .ok (.newarray .int, 2) := by decide +kernel
theorem dX9_init_17 : decode cX9_init 17 = .ok (.putfield 13, 3) := by decide +kernel
theorem dX9_init_20 : decode cX9_init 20 = .ok (.aload_n 0, 1) := by decide +kernel
theorem dX9_init_21 : decode cX9_init 21 = .ok (.bipush 116, 2) := by decide +kernel
theorem dX9_init_23 : decode cX9_init 23 = .ok (.newarray .int, 2) := by decide +kernel
theorem dX9_init_25 : decode cX9_init 25 = .ok (.putfield 16, 3) := by decide +kernel
theorem dX9_init_28 : decode cX9_init 28 = .ok (.aload_n 0, 1) := by decide +kernel
theorem dX9_init_29 : decode cX9_init 29 = .ok (.sipush 928, 3) := by decide +kernel
theorem dX9_init_32 : decode cX9_init 32 = .ok (.newarray .int, 2) := by decide +kernel
theorem dX9_init_34 : decode cX9_init 34 = .ok (.putfield 19, 3) := by decide +kernel
theorem dX9_init_37 : decode cX9_init 37 = .ok (.aload_n 0, 1) := by decide +kernel
theorem dX9_init_38 : decode cX9_init 38 = .ok (.bipush 116, 2) := by decide +kernel
theorem dX9_init_40 : decode cX9_init 40 = .ok (.newarray .int, 2) := by decide +kernel
theorem dX9_init_42 : decode cX9_init 42 = .ok (.putfield 22, 3) := by decide +kernel
theorem dX9_init_45 : decode cX9_init 45 = .ok (.aload_n 0, 1) := by decide +kernel
theorem dX9_init_46 : decode cX9_init 46 = .ok (.bipush 60, 2) := by decide +kernel
theorem dX9_init_48 : decode cX9_init 48 = .ok (.newarray .int, 2) := by decide +kernel
theorem dX9_init_50 : decode cX9_init 50 = .ok (.putfield 25, 3) := by decide +kernel
theorem dX9_init_53 : decode cX9_init 53 = .ok (.aload_n 0, 1) := by decide +kernel
theorem dX9_init_54 : decode cX9_init 54 = .ok (.sipush 180, 3) := by decide +kernel
theorem dX9_init_57 : decode cX9_init 57 = .ok (.newarray .int, 2) := by decide +kernel
theorem dX9_init_59 : decode cX9_init 59 = .ok (.putfield 28, 3) := by decide +kernel
theorem dX9_init_62 : decode cX9_init 62 = .ok (.aload_n 0, 1) := by decide +kernel
theorem dX9_init_63 : decode cX9_init 63 = .ok (.bipush 40, 2) := by decide +kernel
theorem dX9_init_65 : decode cX9_init 65 = .ok (.newarray .int, 2) := by decide +kernel
theorem dX9_init_67 : decode cX9_init 67 = .ok (.putfield 31, 3) := by decide +kernel
theorem dX9_init_70 : decode cX9_init 70 = .ok (.aload_n 0, 1) := by decide +kernel
theorem dX9_init_71 : decode cX9_init 71 = .ok (.bipush 14, 2) := by decide +kernel
theorem dX9_init_73 : decode cX9_init 73 = .ok (.newarray .int, 2) := by decide +kernel
theorem dX9_init_75 : decode cX9_init 75 = .ok (.putfield 34, 3) := by decide +kernel
theorem dX9_init_78 : decode cX9_init 78 = .ok (.aload_n 0, 1) := by decide +kernel
theorem dX9_init_79 : decode cX9_init 79 = .ok (.bipush 14, 2) := by decide +kernel
theorem dX9_init_81 : decode cX9_init 81 = .ok (.newarray .int, 2) := by decide +kernel
theorem dX9_init_83 : decode cX9_init 83 = .ok (.putfield 37, 3) := by decide +kernel
theorem dX9_init_86 : decode cX9_init 86 = .ok (.aload_n 0, 1) := by decide +kernel
theorem dX9_init_87 : decode cX9_init 87 = .ok (.iconst (-1), 1) := by decide +kernel
theorem dX9_init_88 : decode cX9_init 88 = .ok (.putfield 40, 3) := by decide +kernel
theorem dX9_init_91 : decode cX9_init 91 = .ok (.aload_n 0, 1) := by decide +kernel
theorem dX9_init_92 : decode cX9_init 92 = .ok (.iconst (-1), 1) := by decide +kernel
theorem dX9_init_93 : decode cX9_init 93 = .ok (.putfield 44, 3) := by decide +kernel
theorem dX9_init_96 : decode cX9_init 96 = .ok (.return_, 1) := by decide +kernel
theorem dX9_thrown_0 : decode cX9_thrown 0 = .ok (.aload_n 0, 1) := by decide +kernel
theorem dX9_thrown_1 : decode cX9_thrown 1 = .ok (.getfield 47, 3) := by decide +kernel
theorem dX9_thrown_4 : decode cX9_thrown 4 = .ok (.ireturn, 1) := by decide +kernel
theorem dX9_fails_0 : decode cX9_fails 0 = .ok (.aload_n 0, 1) := by decide +kernel
theorem dX9_fails_1 : decode cX9_fails 1 = .ok (.iload_n 1, 1) := by decide +kernel
theorem dX9_fails_2 : decode cX9_fails 2 = .ok (.putfield 47, 3) := by decide +kernel
theorem dX9_fails_5 : decode cX9_fails 5 = .ok (.iconst 0, 1) := by decide +kernel
theorem dX9_fails_6 : decode cX9_fails 6 = .ok (.ireturn, 1) := by decide +kernel
theorem dX9_in_0 : decode cX9_in 0 = .ok (.iload_n 0, 1) := by decide +kernel
theorem dX9_in_1 : decode cX9_in 1 = .ok (.iload_n 1, 1) := by decide +kernel
theorem dX9_in_2 : decode cX9_in 2 = .ok (.if_icmp .lt 12, 3) := by decide +kernel
theorem dX9_in_5 : decode cX9_in 5 = .ok (.iload_n 0, 1) := by decide +kernel
theorem dX9_in_6 : decode cX9_in 6 = .ok (.iload_n 2, 1) := by decide +kernel
theorem dX9_in_7 : decode cX9_in 7 = .ok (.if_icmp .gt 7, 3) := by decide +kernel
theorem dX9_in_10 : decode cX9_in 10 = .ok (.iconst 1, 1) := by decide +kernel
theorem dX9_in_11 : decode cX9_in 11 = .ok (.goto 4, 3) := by decide +kernel
theorem dX9_in_14 : decode cX9_in 14 = .ok (.iconst 0, 1) := by decide +kernel
theorem dX9_in_15 : decode cX9_in 15 = .ok (.ireturn, 1) := by decide +kernel
theorem dX9_remembers_0 : decode cX9_remembers 0 = .ok (.aload_n 0, 1) := by decide +kernel
theorem dX9_remembers_1 : decode cX9_remembers 1 = .ok (.iconst 0, 1) := by decide +kernel
theorem dX9_remembers_2 : decode cX9_remembers 2 = .ok (.putfield 47, 3) := by decide +kernel
theorem dX9_remembers_5 : decode cX9_remembers 5 = .ok (.iconst 0, 1) := by decide +kernel
theorem dX9_remembers_6 : decode cX9_remembers 6 = .ok (.istore_n 1, 1) := by decide +kernel
theorem dX9_remembers_7 : decode cX9_remembers 7 = .ok (.iload_n 1, 1) := by decide +kernel
theorem dX9_remembers_8 : decode cX9_remembers 8 = .ok (.bipush 116, 2) := by decide +kernel
theorem dX9_remembers_10 : decode cX9_remembers 10 = .ok (.if_icmp .ge 21, 3) := by decide +kernel
theorem dX9_remembers_13 : decode cX9_remembers 13 = .ok (.aload_n 0, 1) := by decide +kernel
theorem dX9_remembers_14 : decode cX9_remembers 14 = .ok (.getfield 13, 3) := by decide +kernel
theorem dX9_remembers_17 : decode cX9_remembers 17 = .ok (.iload_n 1, 1) := by decide +kernel
theorem dX9_remembers_18 : decode cX9_remembers 18 = .ok (.aload_n 0, 1) := by decide +kernel
theorem dX9_remembers_19 : decode cX9_remembers 19 = .ok (.getfield 7, 3) := by decide +kernel
theorem dX9_remembers_22 : decode cX9_remembers 22 = .ok (.iload_n 1, 1) := by decide +kernel
theorem dX9_remembers_23 : decode cX9_remembers 23 = .ok (.iaload, 1) := by decide +kernel
theorem dX9_remembers_24 : decode cX9_remembers 24 = .ok (.iastore, 1) := by decide +kernel
theorem dX9_remembers_25 : decode cX9_remembers 25 = .ok (.iinc 1 1, 3) := by decide +kernel
theorem dX9_remembers_28 : decode cX9_remembers 28 = .ok (.goto (-21), 3) := by decide +kernel
theorem dX9_remembers_31 : decode cX9_remembers 31 = .ok (.return_, 1) := by decide +kernel
theorem dX9_changed_0 : decode cX9_changed 0 = .ok (.aload_n 0, 1) := by decide +kernel
theorem dX9_changed_1 : decode cX9_changed 1 = .ok (.getfield 50, 3) := by decide +kernel
theorem dX9_changed_4 : decode cX9_changed 4 = .ok (.bipush 8, 2) := by decide +kernel
theorem dX9_changed_6 : decode cX9_changed 6 = .ok (.if_icmp .ne 36, 3) := by decide +kernel
theorem dX9_changed_9 : decode cX9_changed 9 = .ok (.iconst 0, 1) := by decide +kernel
theorem dX9_changed_10 : decode cX9_changed 10 = .ok (.istore_n 2, 1) := by decide +kernel
theorem dX9_changed_11 : decode cX9_changed 11 = .ok (.iload_n 2, 1) := by decide +kernel
theorem dX9_changed_12 : decode cX9_changed 12 = .ok (.sipush 812, 3) := by decide +kernel
theorem dX9_changed_15 : decode cX9_changed 15 = .ok (.if_icmp .ge 24, 3) := by decide +kernel
theorem dX9_changed_18 : decode cX9_changed 18 = .ok (.aload_n 0, 1) := by decide +kernel
theorem dX9_changed_19 : decode cX9_changed 19 = .ok (.getfield 19, 3) := by decide +kernel
theorem dX9_changed_22 : decode cX9_changed 22 = .ok (.iload_n 2, 1) := by decide +kernel
theorem dX9_changed_23 : decode cX9_changed 23 = .ok (.aload_n 0, 1) := by decide +kernel
theorem dX9_changed_24 : decode cX9_changed 24 = .ok (.getfield 19, 3) := by decide +kernel
theorem dX9_changed_27 : decode cX9_changed 27 = .ok (.iload_n 2, 1) := by decide +kernel
theorem dX9_changed_28 : decode cX9_changed 28 = .ok (.bipush 116, 2) := by decide +kernel
theorem dX9_changed_30 : decode cX9_changed 30 = .ok (.iadd, 1) := by decide +kernel
theorem dX9_changed_31 : decode cX9_changed 31 = .ok (.iaload, 1) := by decide +kernel
theorem dX9_changed_32 : decode cX9_changed 32 = .ok (.iastore, 1) := by decide +kernel
theorem dX9_changed_33 : decode cX9_changed 33 = .ok (.iinc 2 1, 3) := by decide +kernel
theorem dX9_changed_36 : decode cX9_changed 36 = .ok (.goto (-25), 3) := by decide +kernel
theorem dX9_changed_39 : decode cX9_changed 39 = .ok (.goto 13, 3) := by decide +kernel
theorem dX9_changed_42 : decode cX9_changed 42 = .ok (.aload_n 0, 1) := by decide +kernel
theorem dX9_changed_43 : decode cX9_changed 43 = .ok (.dup, 1) := by decide +kernel
theorem dX9_changed_44 : decode cX9_changed 44 = .ok (.getfield 50, 3) := by decide +kernel
theorem dX9_changed_47 : decode cX9_changed 47 = .ok (.iconst 1, 1) := by decide +kernel
theorem dX9_changed_48 : decode cX9_changed 48 = .ok (.iadd, 1) := by decide +kernel
theorem dX9_changed_49 : decode cX9_changed 49 = .ok (.putfield 50, 3) := by decide +kernel
theorem dX9_changed_52 : decode cX9_changed 52 = .ok (.iconst 0, 1) := by decide +kernel
theorem dX9_changed_53 : decode cX9_changed 53 = .ok (.istore_n 2, 1) := by decide +kernel
theorem dX9_changed_54 : decode cX9_changed 54 = .ok (.iload_n 2, 1) := by decide +kernel
theorem dX9_changed_55 : decode cX9_changed 55 = .ok (.bipush 116, 2) := by decide +kernel
theorem dX9_changed_57 : decode cX9_changed 57 = .ok (.if_icmp .ge 31, 3) := by decide +kernel
theorem dX9_changed_60 : decode cX9_changed 60 = .ok (.aload_n 0, 1) := by decide +kernel
theorem dX9_changed_61 : decode cX9_changed 61 = .ok (.getfield 19, 3) := by decide +kernel
theorem dX9_changed_64 : decode cX9_changed 64 = .ok (.bipush 116, 2) := by decide +kernel
theorem dX9_changed_66 : decode cX9_changed 66 = .ok (.aload_n 0, 1) := by decide +kernel
theorem dX9_changed_67 : decode cX9_changed 67 = .ok (.getfield 50, 3) := by decide +kernel
theorem dX9_changed_70 : decode cX9_changed 70 = .ok (.iconst 1, 1) := by decide +kernel
theorem dX9_changed_71 : decode cX9_changed 71 = .ok (.isub, 1) := by decide +kernel
theorem dX9_changed_72 : decode cX9_changed 72 = .ok (.imul, 1) := by decide +kernel
theorem dX9_changed_73 : decode cX9_changed 73 = .ok (.iload_n 2, 1) := by decide +kernel
theorem dX9_changed_74 : decode cX9_changed 74 = .ok (.iadd, 1) := by decide +kernel
theorem dX9_changed_75 : decode cX9_changed 75 = .ok (.aload_n 0, 1) := by decide +kernel
theorem dX9_changed_76 : decode cX9_changed 76 = .ok (.getfield 13, 3) := by decide +kernel
theorem dX9_changed_79 : decode cX9_changed 79 = .ok (.iload_n 2, 1) := by decide +kernel
theorem dX9_changed_80 : decode cX9_changed 80 = .ok (.iaload, 1) := by decide +kernel
theorem dX9_changed_81 : decode cX9_changed 81 = .ok (.iastore, 1) := by decide +kernel
theorem dX9_changed_82 : decode cX9_changed 82 = .ok (.iinc 2 1, 3) := by decide +kernel
theorem dX9_changed_85 : decode cX9_changed 85 = .ok (.goto (-31), 3) := by decide +kernel
theorem dX9_changed_88 : decode cX9_changed 88 = .ok (.iload_n 1, 1) := by decide +kernel
theorem dX9_changed_89 : decode cX9_changed 89 = .ok (.ireturn, 1) := by decide +kernel
theorem dX9_done_0 : decode cX9_done 0 = .ok (.aload_n 0, 1) := by decide +kernel
theorem dX9_done_1 : decode cX9_done 1 = .ok (.iload_n 1, 1) := by decide +kernel
theorem dX9_done_2 : decode cX9_done 2 = .ok (.putfield 53, 3) := by decide +kernel
theorem dX9_done_5 : decode cX9_done 5 = .ok (.iconst 0, 1) := by decide +kernel
theorem dX9_done_6 : decode cX9_done 6 = .ok (.ireturn, 1) := by decide +kernel
theorem dX9_ends_0 : decode cX9_ends 0 = .ok (.iload_n 1, 1) := by decide +kernel
theorem dX9_ends_1 : decode cX9_ends 1 = .ok (.ifCond .ne 14, 3) := by decide +kernel
theorem dX9_ends_4 : decode cX9_ends 4 = .ok (.aload_n 0, 1) := by decide +kernel
theorem dX9_ends_5 : decode cX9_ends 5 = .ok (.aload_n 0, 1) := by decide +kernel
theorem dX9_ends_6 : decode cX9_ends 6 = .ok (.getfield 53, 3) := by decide +kernel
theorem dX9_ends_9 : decode cX9_ends 9 = .ok (.invokevirtual 56, 3) := by decide +kernel
theorem dX9_ends_12 : decode cX9_ends 12 = .ok (.goto 8, 3) := by decide +kernel
theorem dX9_ends_15 : decode cX9_ends 15 = .ok (.aload_n 0, 1) := by decide +kernel
theorem dX9_ends_16 : decode cX9_ends 16 = .ok (.iload_n 1, 1) := by decide +kernel
theorem dX9_ends_17 : decode cX9_ends 17 = .ok (.invokevirtual 60, 3) := by decide +kernel
theorem dX9_ends_20 : decode cX9_ends 20 = .ok (.ireturn, 1) := by decide +kernel
theorem dX9_isBlock_0 : decode cX9_isBlock 0 = .ok (.iload_n 1, 1) := by decide +kernel
theorem dX9_isBlock_1 : decode cX9_isBlock 1 = .ok (.iconst 0, 1) := by decide +kernel
theorem dX9_isBlock_2 : decode cX9_isBlock 2 = .ok (.aload_n 0, 1) := by decide +kernel
theorem dX9_isBlock_3 : decode cX9_isBlock 3 = .ok (.getfield 7, 3) := by decide +kernel
theorem dX9_isBlock_6 : decode cX9_isBlock 6 = .ok (.iconst 0, 1) := by decide +kernel
theorem dX9_isBlock_7 : decode cX9_isBlock 7 = .ok (.iaload, 1) := by decide +kernel
theorem dX9_isBlock_8 : decode cX9_isBlock 8 = .ok (.iconst 1, 1) := by decide +kernel
theorem dX9_isBlock_9 : decode cX9_isBlock 9 = .ok (.isub, 1) := by decide +kernel
theorem dX9_isBlock_10 : decode cX9_isBlock 10 = .ok (.invokestatic 63, 3) := by decide +kernel
theorem dX9_isBlock_13 : decode cX9_isBlock 13 = .ok (.ireturn, 1) := by decide +kernel
theorem dX9_isTrain_0 : decode cX9_isTrain 0 = .ok (.iload_n 1, 1) := by decide +kernel
theorem dX9_isTrain_1 : decode cX9_isTrain 1 = .ok (.iconst 0, 1) := by decide +kernel
theorem dX9_isTrain_2 : decode cX9_isTrain 2 = .ok (.aload_n 0, 1) := by decide +kernel
theorem dX9_isTrain_3 : decode cX9_isTrain 3 = .ok (.getfield 7, 3) := by decide +kernel
theorem dX9_isTrain_6 : decode cX9_isTrain 6 = .ok (.iconst 1, 1) := by decide +kernel
theorem dX9_isTrain_7 : decode cX9_isTrain 7 = .ok (.iaload, 1) := by decide +kernel
theorem dX9_isTrain_8 : decode cX9_isTrain 8 = .ok (.iconst 1, 1) := by decide +kernel
theorem dX9_isTrain_9 : decode cX9_isTrain 9 = .ok (.isub, 1) := by decide +kernel
theorem dX9_isTrain_10 : decode cX9_isTrain 10 = .ok (.invokestatic 63, 3) := by decide +kernel
theorem dX9_isTrain_13 : decode cX9_isTrain 13 = .ok (.ireturn, 1) := by decide +kernel
theorem dX9_block_0 : decode cX9_block 0 = .ok (.aload_n 0, 1) := by decide +kernel
theorem dX9_block_1 : decode cX9_block 1 = .ok (.getfield 7, 3) := by decide +kernel
theorem dX9_block_4 : decode cX9_block 4 = .ok (.iconst 4, 1) := by decide +kernel
theorem dX9_block_5 : decode cX9_block 5 = .ok (.iconst 4, 1) := by decide +kernel
theorem dX9_block_6 : decode cX9_block 6 = .ok (.iload_n 1, 1) := by decide +kernel
theorem dX9_block_7 : decode cX9_block 7 = .ok (.imul, 1) := by decide +kernel
theorem dX9_block_8 : decode cX9_block 8 = .ok (.iadd, 1) := by decide +kernel
theorem dX9_block_9 : decode cX9_block 9 = .ok (.iload_n 2, 1) := by decide +kernel
theorem dX9_block_10 : decode cX9_block 10 = .ok (.iadd, 1) := by decide +kernel
theorem dX9_block_11 : decode cX9_block 11 = .ok (.iaload, 1) := by decide +kernel
theorem dX9_block_12 : decode cX9_block 12 = .ok (.ireturn, 1) := by decide +kernel
theorem dX9_train_0 : decode cX9_train 0 = .ok (.aload_n 0, 1) := by decide +kernel
theorem dX9_train_1 : decode cX9_train 1 = .ok (.getfield 7, 3) := by decide +kernel
theorem dX9_train_4 : decode cX9_train 4 = .ok (.bipush 74, 2) := by decide +kernel
theorem dX9_train_6 : decode cX9_train 6 = .ok (.bipush 7, 2) := by decide +kernel
theorem dX9_train_8 : decode cX9_train 8 = .ok (.iload_n 1, 1) := by decide +kernel
theorem dX9_train_9 : decode cX9_train 9 = .ok (.imul, 1) := by decide +kernel
theorem dX9_train_10 : decode cX9_train 10 = .ok (.iadd, 1) := by decide +kernel
theorem dX9_train_11 : decode cX9_train 11 = .ok (.iload_n 2, 1) := by decide +kernel
theorem dX9_train_12 : decode cX9_train 12 = .ok (.iadd, 1) := by decide +kernel
theorem dX9_train_13 : decode cX9_train 13 = .ok (.iaload, 1) := by decide +kernel
theorem dX9_train_14 : decode cX9_train 14 = .ok (.ireturn, 1) := by decide +kernel
theorem dX9_sets_0 : decode cX9_sets 0 = .ok (.aload_n 0, 1) := by decide +kernel
theorem dX9_sets_1 : decode cX9_sets 1 = .ok (.getfield 7, 3) := by decide +kernel
theorem dX9_sets_4 : decode cX9_sets 4 = .ok (.bipush 74, 2) := by decide +kernel
theorem dX9_sets_6 : decode cX9_sets 6 = .ok (.bipush 7, 2) := by decide +kernel
theorem dX9_sets_8 : decode cX9_sets 8 = .ok (.iload_n 1, 1) := by decide +kernel
theorem dX9_sets_9 : decode cX9_sets 9 = .ok (.imul, 1) := by decide +kernel
theorem dX9_sets_10 : decode cX9_sets 10 = .ok (.iadd, 1) := by decide +kernel
theorem dX9_sets_11 : decode cX9_sets 11 = .ok (.iload_n 2, 1) := by decide +kernel
theorem dX9_sets_12 : decode cX9_sets 12 = .ok (.iadd, 1) := by decide +kernel
theorem dX9_sets_13 : decode cX9_sets 13 = .ok (.iload_n 3, 1) := by decide +kernel
theorem dX9_sets_14 : decode cX9_sets 14 = .ok (.iastore, 1) := by decide +kernel
theorem dX9_sets_15 : decode cX9_sets 15 = .ok (.return_, 1) := by decide +kernel
theorem dX9_linked_0 : decode cX9_linked 0 = .ok (.aload_n 0, 1) := by decide +kernel
theorem dX9_linked_1 : decode cX9_linked 1 = .ok (.getfield 7, 3) := by decide +kernel
theorem dX9_linked_4 : decode cX9_linked 4 = .ok (.bipush 60, 2) := by decide +kernel
theorem dX9_linked_6 : decode cX9_linked 6 = .ok (.iload_n 1, 1) := by decide +kernel
theorem dX9_linked_7 : decode cX9_linked 7 = .ok (.iadd, 1) := by decide +kernel
theorem dX9_linked_8 : decode cX9_linked 8 = .ok (.iaload, 1) := by decide +kernel
theorem dX9_linked_9 : decode cX9_linked 9 = .ok (.iload_n 2, 1) := by decide +kernel
theorem dX9_linked_10 : decode cX9_linked 10 = .ok (.ishr, 1) := by decide +kernel
theorem dX9_linked_11 : decode cX9_linked 11 = .ok (.iconst 1, 1) := by decide +kernel
theorem dX9_linked_12 : decode cX9_linked 12 = .ok (.iand, 1) := by decide +kernel
theorem dX9_linked_13 : decode cX9_linked 13 = .ok (.iconst 1, 1) := by decide +kernel
theorem dX9_linked_14 : decode cX9_linked 14 = .ok (.if_icmp .ne 7, 3) := by decide +kernel
theorem dX9_linked_17 : decode cX9_linked 17 = .ok (.iconst 1, 1) := by decide +kernel
theorem dX9_linked_18 : decode cX9_linked 18 = .ok (.goto 4, 3) := by decide +kernel
theorem dX9_linked_21 : decode cX9_linked 21 = .ok (.iconst 0, 1) := by decide +kernel
theorem dX9_linked_22 : decode cX9_linked 22 = .ok (.ireturn, 1) := by decide +kernel
theorem dX9_links_0 : decode cX9_links 0 = .ok (.iconst 0, 1) := by decide +kernel
theorem dX9_links_1 : decode cX9_links 1 = .ok (.istore_n 1, 1) := by decide +kernel
theorem dX9_links_2 : decode cX9_links 2 = .ok (.iconst 0, 1) := by decide +kernel
theorem dX9_links_3 : decode cX9_links 3 = .ok (.istore_n 2, 1) := by decide +kernel
theorem dX9_links_4 : decode cX9_links 4 = .ok (.iload_n 2, 1) := by decide +kernel
theorem dX9_links_5 : decode cX9_links 5 = .ok (.aload_n 0, 1) := by decide +kernel
theorem dX9_links_6 : decode cX9_links 6 = .ok (.getfield 7, 3) := by decide +kernel
theorem dX9_links_9 : decode cX9_links 9 = .ok (.iconst 0, 1) := by decide +kernel
theorem dX9_links_10 : decode cX9_links 10 = .ok (.iaload, 1) := by decide +kernel
theorem dX9_links_11 : decode cX9_links 11 = .ok (.if_icmp .ge 39, 3) := by decide +kernel
theorem dX9_links_14 : decode cX9_links 14 = .ok (.iconst 0, 1) := by decide +kernel
theorem dX9_links_15 : decode cX9_links 15 = .ok (.istore_n 3, 1) := by decide +kernel
theorem dX9_links_16 : decode cX9_links 16 = .ok (.iload_n 3, 1) := by decide +kernel
theorem dX9_links_17 : decode cX9_links 17 = .ok (.iload_n 2, 1) := by decide +kernel
theorem dX9_links_18 : decode cX9_links 18 = .ok (.if_icmp .ge 26, 3) := by decide +kernel
theorem dX9_links_21 : decode cX9_links 21 = .ok (.iload_n 1, 1) := by decide +kernel
theorem dX9_links_22 : decode cX9_links 22 = .ok (.aload_n 0, 1) := by decide +kernel
theorem dX9_links_23 : decode cX9_links 23 = .ok (.iload_n 2, 1) := by decide +kernel
theorem dX9_links_24 : decode cX9_links 24 = .ok (.iload_n 3, 1) := by decide +kernel
theorem dX9_links_25 : decode cX9_links 25 = .ok (.invokevirtual 67, 3) := by decide +kernel
theorem dX9_links_28 : decode cX9_links 28 = .ok (.ifCond .eq 7, 3) := by decide +kernel
theorem dX9_links_31 : decode cX9_links 31 = .ok (.iconst 1, 1) := by decide +kernel
theorem dX9_links_32 : decode cX9_links 32 = .ok (.goto 4, 3) := by decide +kernel
theorem dX9_links_35 : decode cX9_links 35 = .ok (.iconst 0, 1) := by decide +kernel
theorem dX9_links_36 : decode cX9_links 36 = .ok (.iadd, 1) := by decide +kernel
theorem dX9_links_37 : decode cX9_links 37 = .ok (.istore_n 1, 1) := by decide +kernel
theorem dX9_links_38 : decode cX9_links 38 = .ok (.iinc 3 1, 3) := by decide +kernel
theorem dX9_links_41 : decode cX9_links 41 = .ok (.goto (-25), 3) := by decide +kernel
theorem dX9_links_44 : decode cX9_links 44 = .ok (.iinc 2 1, 3) := by decide +kernel
theorem dX9_links_47 : decode cX9_links 47 = .ok (.goto (-43), 3) := by decide +kernel
theorem dX9_links_50 : decode cX9_links 50 = .ok (.iload_n 1, 1) := by decide +kernel
theorem dX9_links_51 : decode cX9_links 51 = .ok (.ireturn, 1) := by decide +kernel
theorem dX9_cats_0 : decode cX9_cats 0 = .ok (.iconst 0, 1) := by decide +kernel
theorem dX9_cats_1 : decode cX9_cats 1 = .ok (.istore_n 1, 1) := by decide +kernel
theorem dX9_cats_2 : decode cX9_cats 2 = .ok (.iconst 0, 1) := by decide +kernel
theorem dX9_cats_3 : decode cX9_cats 3 = .ok (.istore_n 2, 1) := by decide +kernel
theorem dX9_cats_4 : decode cX9_cats 4 = .ok (.iload_n 2, 1) := by decide +kernel
theorem dX9_cats_5 : decode cX9_cats 5 = .ok (.aload_n 0, 1) := by decide +kernel
theorem dX9_cats_6 : decode cX9_cats 6 = .ok (.getfield 7, 3) := by decide +kernel
theorem dX9_cats_9 : decode cX9_cats 9 = .ok (.iconst 0, 1) := by decide +kernel
theorem dX9_cats_10 : decode cX9_cats 10 = .ok (.iaload, 1) := by decide +kernel
theorem dX9_cats_11 : decode cX9_cats 11 = .ok (.if_icmp .ge 18, 3) := by decide +kernel
theorem dX9_cats_14 : decode cX9_cats 14 = .ok (.iload_n 1, 1) := by decide +kernel
theorem dX9_cats_15 : decode cX9_cats 15 = .ok (.aload_n 0, 1) := by decide +kernel
theorem dX9_cats_16 : decode cX9_cats 16 = .ok (.iload_n 2, 1) := by decide +kernel
theorem dX9_cats_17 : decode cX9_cats 17 = .ok (.iconst 2, 1) := by decide +kernel
theorem dX9_cats_18 : decode cX9_cats 18 = .ok (.invokevirtual 71, 3) := by decide +kernel
theorem dX9_cats_21 : decode cX9_cats 21 = .ok (.iadd, 1) := by decide +kernel
theorem dX9_cats_22 : decode cX9_cats 22 = .ok (.istore_n 1, 1) := by decide +kernel
theorem dX9_cats_23 : decode cX9_cats 23 = .ok (.iinc 2 1, 3) := by decide +kernel
theorem dX9_cats_26 : decode cX9_cats 26 = .ok (.goto (-22), 3) := by decide +kernel
theorem dX9_cats_29 : decode cX9_cats 29 = .ok (.iload_n 1, 1) := by decide +kernel
theorem dX9_cats_30 : decode cX9_cats 30 = .ok (.ireturn, 1) := by decide +kernel
theorem dX9_inside_0 : decode cX9_inside 0 = .ok (.iconst 0, 1) := by decide +kernel
theorem dX9_inside_1 : decode cX9_inside 1 = .ok (.istore_n 2, 1) := by decide +kernel
theorem dX9_inside_2 : decode cX9_inside 2 = .ok (.iload_n 2, 1) := by decide +kernel
theorem dX9_inside_3 : decode cX9_inside 3 = .ok (.aload_n 0, 1) := by decide +kernel
theorem dX9_inside_4 : decode cX9_inside 4 = .ok (.getfield 7, 3) := by decide +kernel
theorem dX9_inside_7 : decode cX9_inside 7 = .ok (.iconst 1, 1) := by decide +kernel
theorem dX9_inside_8 : decode cX9_inside 8 = .ok (.iaload, 1) := by decide +kernel
theorem dX9_inside_9 : decode cX9_inside 9 = .ok (.if_icmp .ge 21, 3) := by decide +kernel
theorem dX9_inside_12 : decode cX9_inside 12 = .ok (.aload_n 0, 1) := by decide +kernel
theorem dX9_inside_13 : decode cX9_inside 13 = .ok (.iload_n 2, 1) := by decide +kernel
theorem dX9_inside_14 : decode cX9_inside 14 = .ok (.iconst 0, 1) := by decide +kernel
theorem dX9_inside_15 : decode cX9_inside 15 = .ok (.invokevirtual 75, 3) := by decide +kernel
theorem dX9_inside_18 : decode cX9_inside 18 = .ok (.iload_n 1, 1) := by decide +kernel
theorem dX9_inside_19 : decode cX9_inside 19 = .ok (.if_icmp .ne 5, 3) := by decide +kernel
theorem dX9_inside_22 : decode cX9_inside 22 = .ok (.iload_n 2, 1) := by decide +kernel
theorem dX9_inside_23 : decode cX9_inside 23 = .ok (.ireturn, 1) := by decide +kernel
theorem dX9_inside_24 : decode cX9_inside 24 = .ok (.iinc 2 1, 3) := by decide +kernel
theorem dX9_inside_27 : decode cX9_inside 27 = .ok (.goto (-25), 3) := by decide +kernel
theorem dX9_inside_30 : decode cX9_inside 30 = .ok (.iconst (-1), 1) := by decide +kernel
theorem dX9_inside_31 : decode cX9_inside 31 = .ok (.ireturn, 1) := by decide +kernel
theorem dX9_holder_0 : decode cX9_holder 0 = .ok (.aload_n 0, 1) := by decide +kernel
theorem dX9_holder_1 : decode cX9_holder 1 = .ok (.iload_n 1, 1) := by decide +kernel
theorem dX9_holder_2 : decode cX9_holder 2 = .ok (.iconst 3, 1) := by decide +kernel
theorem dX9_holder_3 : decode cX9_holder 3 = .ok (.invokevirtual 71, 3) := by decide +kernel
theorem dX9_holder_6 : decode cX9_holder 6 = .ok (.iconst 1, 1) := by decide +kernel
theorem dX9_holder_7 : decode cX9_holder 7 = .ok (.isub, 1) := by decide +kernel
theorem dX9_holder_8 : decode cX9_holder 8 = .ok (.ireturn, 1) := by decide +kernel
theorem dX9_held_0 : decode cX9_held 0 = .ok (.iconst 0, 1) := by decide +kernel
theorem dX9_held_1 : decode cX9_held 1 = .ok (.istore_n 2, 1) := by decide +kernel
theorem dX9_held_2 : decode cX9_held 2 = .ok (.iload_n 2, 1) := by decide +kernel
theorem dX9_held_3 : decode cX9_held 3 = .ok (.aload_n 0, 1) := by decide +kernel
theorem dX9_held_4 : decode cX9_held 4 = .ok (.getfield 7, 3) := by decide +kernel
theorem dX9_held_7 : decode cX9_held 7 = .ok (.iconst 0, 1) := by decide +kernel
theorem dX9_held_8 : decode cX9_held 8 = .ok (.iaload, 1) := by decide +kernel
theorem dX9_held_9 : decode cX9_held 9 = .ok (.if_icmp .ge 20, 3) := by decide +kernel
theorem dX9_held_12 : decode cX9_held 12 = .ok (.aload_n 0, 1) := by decide +kernel
theorem dX9_held_13 : decode cX9_held 13 = .ok (.iload_n 2, 1) := by decide +kernel
theorem dX9_held_14 : decode cX9_held 14 = .ok (.invokevirtual 78, 3) := by decide +kernel
theorem dX9_held_17 : decode cX9_held 17 = .ok (.iload_n 1, 1) := by decide +kernel
theorem dX9_held_18 : decode cX9_held 18 = .ok (.if_icmp .ne 5, 3) := by decide +kernel
theorem dX9_held_21 : decode cX9_held 21 = .ok (.iload_n 2, 1) := by decide +kernel
theorem dX9_held_22 : decode cX9_held 22 = .ok (.ireturn, 1) := by decide +kernel
theorem dX9_held_23 : decode cX9_held 23 = .ok (.iinc 2 1, 3) := by decide +kernel
theorem dX9_held_26 : decode cX9_held 26 = .ok (.goto (-24), 3) := by decide +kernel
theorem dX9_held_29 : decode cX9_held 29 = .ok (.iconst (-1), 1) := by decide +kernel
theorem dX9_held_30 : decode cX9_held 30 = .ok (.ireturn, 1) := by decide +kernel
theorem dX9_goalOf_0 : decode cX9_goalOf 0 = .ok (.aload_n 0, 1) := by decide +kernel
theorem dX9_goalOf_1 : decode cX9_goalOf 1 = .ok (.iload_n 1, 1) := by decide +kernel
theorem dX9_goalOf_2 : decode cX9_goalOf 2 = .ok (.iconst 3, 1) := by decide +kernel
theorem dX9_goalOf_3 : decode cX9_goalOf 3 = .ok (.invokevirtual 75, 3) := by decide +kernel
theorem dX9_goalOf_6 : decode cX9_goalOf 6 = .ok (.iconst 1, 1) := by decide +kernel
theorem dX9_goalOf_7 : decode cX9_goalOf 7 = .ok (.isub, 1) := by decide +kernel
theorem dX9_goalOf_8 : decode cX9_goalOf 8 = .ok (.ireturn, 1) := by decide +kernel
theorem dX9_ways_0 : decode cX9_ways 0 = .ok (.iconst 0, 1) := by decide +kernel
theorem dX9_ways_1 : decode cX9_ways 1 = .ok (.istore_n 2, 1) := by decide +kernel
theorem dX9_ways_2 : decode cX9_ways 2 = .ok (.iload_n 2, 1) := by decide +kernel
theorem dX9_ways_3 : decode cX9_ways 3 = .ok (.bipush 14, 2) := by decide +kernel
theorem dX9_ways_5 : decode cX9_ways 5 = .ok (.if_icmp .ge 18, 3) := by decide +kernel
theorem dX9_ways_8 : decode cX9_ways 8 = .ok (.aload_n 0, 1) := by decide +kernel
theorem dX9_ways_9 : decode cX9_ways 9 = .ok (.getfield 34, 3) := by decide +kernel
theorem dX9_ways_12 : decode cX9_ways 12 = .ok (.iload_n 2, 1) := by decide +kernel
theorem dX9_ways_13 : decode cX9_ways 13 = .ok (.sipush 9999, 3) := by decide +kernel
theorem dX9_ways_16 : decode cX9_ways 16 = .ok (.iastore, 1) := by decide +kernel
theorem dX9_ways_17 : decode cX9_ways 17 = .ok (.iinc 2 1, 3) := by decide +kernel
theorem dX9_ways_20 : decode cX9_ways 20 = .ok (.goto (-18), 3) := by decide +kernel
theorem dX9_ways_23 : decode cX9_ways 23 = .ok (.aload_n 0, 1) := by decide +kernel
theorem dX9_ways_24 : decode cX9_ways 24 = .ok (.getfield 34, 3) := by decide +kernel
theorem dX9_ways_27 : decode cX9_ways 27 = .ok (.iload_n 1, 1) := by decide +kernel
theorem dX9_ways_28 : decode cX9_ways 28 = .ok (.iconst 0, 1) := by decide +kernel
theorem dX9_ways_29 : decode cX9_ways 29 = .ok (.iastore, 1) := by decide +kernel
theorem dX9_ways_30 : decode cX9_ways 30 = .ok (.iconst 1, 1) := by decide +kernel
theorem dX9_ways_31 : decode cX9_ways 31 = .ok (.istore_n 2, 1) := by decide +kernel
theorem dX9_ways_32 : decode cX9_ways 32 = .ok (.iload_n 2, 1) := by decide +kernel
theorem dX9_ways_33 : decode cX9_ways 33 = .ok (.ifCond .eq 106, 3) := by decide +kernel
theorem dX9_ways_36 : decode cX9_ways 36 = .ok (.iconst 0, 1) := by decide +kernel
theorem dX9_ways_37 : decode cX9_ways 37 = .ok (.istore_n 2, 1) := by decide +kernel
theorem dX9_ways_38 : decode cX9_ways 38 = .ok (.iconst 0, 1) := by decide +kernel
theorem dX9_ways_39 : decode cX9_ways 39 = .ok (.istore_n 3, 1) := by decide +kernel
theorem dX9_ways_40 : decode cX9_ways 40 = .ok (.iload_n 3, 1) := by decide +kernel
theorem dX9_ways_41 : decode cX9_ways 41 = .ok (.aload_n 0, 1) := by decide +kernel
theorem dX9_ways_42 : decode cX9_ways 42 = .ok (.getfield 7, 3) := by decide +kernel
theorem dX9_ways_45 : decode cX9_ways 45 = .ok (.iconst 0, 1) := by decide +kernel
theorem dX9_ways_46 : decode cX9_ways 46 = .ok (.iaload, 1) := by decide +kernel
theorem dX9_ways_47 : decode cX9_ways 47 = .ok (.if_icmp .ge 89, 3) := by decide +kernel
theorem dX9_ways_50 : decode cX9_ways 50 = .ok (.iconst 0, 1) := by decide +kernel
theorem dX9_ways_51 : decode cX9_ways 51 = .ok (.istore 4, 2) := by decide +kernel
theorem dX9_ways_53 : decode cX9_ways 53 = .ok (.iload 4, 2) := by decide +kernel
theorem dX9_ways_55 : decode cX9_ways 55 = .ok (.aload_n 0, 1) := by decide +kernel
theorem dX9_ways_56 : decode cX9_ways 56 = .ok (.getfield 7, 3) := by decide +kernel
theorem dX9_ways_59 : decode cX9_ways 59 = .ok (.iconst 0, 1) := by decide +kernel
theorem dX9_ways_60 : decode cX9_ways 60 = .ok (.iaload, 1) := by decide +kernel
theorem dX9_ways_61 : decode cX9_ways 61 = .ok (.if_icmp .ge 69, 3) := by decide +kernel
theorem dX9_ways_64 : decode cX9_ways 64 = .ok (.aload_n 0, 1) := by decide +kernel
theorem dX9_ways_65 : decode cX9_ways 65 = .ok (.iload_n 3, 1) := by decide +kernel
theorem dX9_ways_66 : decode cX9_ways 66 = .ok (.iload 4, 2) := by decide +kernel
theorem dX9_ways_68 : decode cX9_ways 68 = .ok (.invokevirtual 67, 3) := by decide +kernel
theorem dX9_ways_71 : decode cX9_ways 71 = .ok (.ifCond .eq 53, 3) := by decide +kernel
theorem dX9_ways_74 : decode cX9_ways 74 = .ok (.aload_n 0, 1) := by decide +kernel
theorem dX9_ways_75 : decode cX9_ways 75 = .ok (.getfield 34, 3) := by decide +kernel
theorem dX9_ways_78 : decode cX9_ways 78 = .ok (.iload 4, 2) := by decide +kernel
theorem dX9_ways_80 : decode cX9_ways 80 = .ok (.iaload, 1) := by decide +kernel
theorem dX9_ways_81 : decode cX9_ways 81 = .ok (.aload_n 0, 1) := by decide +kernel
theorem dX9_ways_82 : decode cX9_ways 82 = .ok (.iload 4, 2) := by decide +kernel
theorem dX9_ways_84 : decode cX9_ways 84 = .ok (.iconst 0, 1) := by decide +kernel
theorem dX9_ways_85 : decode cX9_ways 85 = .ok (.invokevirtual 71, 3) := by decide +kernel
theorem dX9_ways_88 : decode cX9_ways 88 = .ok (.iadd, 1) := by decide +kernel
theorem dX9_ways_89 : decode cX9_ways 89 = .ok (.aload_n 0, 1) := by decide +kernel
theorem dX9_ways_90 : decode cX9_ways 90 = .ok (.getfield 34, 3) := by decide +kernel
theorem dX9_ways_93 : decode cX9_ways 93 = .ok (.iload_n 3, 1) := by decide +kernel
theorem dX9_ways_94 : decode cX9_ways 94 = .ok (.iaload, 1) := by decide +kernel
theorem dX9_ways_95 : decode cX9_ways 95 = .ok (.if_icmp .lt 6, 3) := by decide +kernel
theorem dX9_ways_98 : decode cX9_ways 98 = .ok (.goto 26, 3) := by decide +kernel
theorem dX9_ways_101 : decode cX9_ways 101 = .ok (.aload_n 0, 1) := by decide +kernel
theorem dX9_ways_102 : decode cX9_ways 102 = .ok (.getfield 34, 3) := by decide +kernel
theorem dX9_ways_105 : decode cX9_ways 105 = .ok (.iload_n 3, 1) := by decide +kernel
theorem dX9_ways_106 : decode cX9_ways 106 = .ok (.aload_n 0, 1) := by decide +kernel
theorem dX9_ways_107 : decode cX9_ways 107 = .ok (.getfield 34, 3) := by decide +kernel
theorem dX9_ways_110 : decode cX9_ways 110 = .ok (.iload 4, 2) := by decide +kernel
theorem dX9_ways_112 : decode cX9_ways 112 = .ok (.iaload, 1) := by decide +kernel
theorem dX9_ways_113 : decode cX9_ways 113 = .ok (.aload_n 0, 1) := by decide +kernel
theorem dX9_ways_114 : decode cX9_ways 114 = .ok (.iload 4, 2) := by decide +kernel
theorem dX9_ways_116 : decode cX9_ways 116 = .ok (.iconst 0, 1) := by decide +kernel
theorem dX9_ways_117 : decode cX9_ways 117 = .ok (.invokevirtual 71, 3) := by decide +kernel
theorem dX9_ways_120 : decode cX9_ways 120 = .ok (.iadd, 1) := by decide +kernel
theorem dX9_ways_121 : decode cX9_ways 121 = .ok (.iastore, 1) := by decide +kernel
theorem dX9_ways_122 : decode cX9_ways 122 = .ok (.iconst 1, 1) := by decide +kernel
theorem dX9_ways_123 : decode cX9_ways 123 = .ok (.istore_n 2, 1) := by decide +kernel
theorem dX9_ways_124 : decode cX9_ways 124 = .ok (.iinc 4 1, 3) := by decide +kernel
theorem dX9_ways_127 : decode cX9_ways 127 = .ok (.goto (-74), 3) := by decide +kernel
theorem dX9_ways_130 : decode cX9_ways 130 = .ok (.iinc 3 1, 3) := by decide +kernel
theorem dX9_ways_133 : decode cX9_ways 133 = .ok (.goto (-93), 3) := by decide +kernel
theorem dX9_ways_136 : decode cX9_ways 136 = .ok (.goto (-104), 3) := by decide +kernel
theorem dX9_ways_139 : decode cX9_ways 139 = .ok (.return_, 1) := by decide +kernel
theorem dX9_next_0 : decode cX9_next 0 = .ok (.aload_n 0, 1) := by decide +kernel
theorem dX9_next_1 : decode cX9_next 1 = .ok (.iload_n 1, 1) := by decide +kernel
theorem dX9_next_2 : decode cX9_next 2 = .ok (.invokevirtual 81, 3) := by decide +kernel
theorem dX9_next_5 : decode cX9_next 5 = .ok (.istore_n 2, 1) := by decide +kernel
theorem dX9_next_6 : decode cX9_next 6 = .ok (.aload_n 0, 1) := by decide +kernel
theorem dX9_next_7 : decode cX9_next 7 = .ok (.iload_n 1, 1) := by decide +kernel
theorem dX9_next_8 : decode cX9_next 8 = .ok (.iconst 0, 1) := by decide +kernel
theorem dX9_next_9 : decode cX9_next 9 = .ok (.invokevirtual 75, 3) := by decide +kernel
theorem dX9_next_12 : decode cX9_next 12 = .ok (.istore_n 3, 1) := by decide +kernel
theorem dX9_next_13 : decode cX9_next 13 = .ok (.iload_n 2, 1) := by decide +kernel
theorem dX9_next_14 : decode cX9_next 14 = .ok (.iconst (-1), 1) := by decide +kernel
theorem dX9_next_15 : decode cX9_next 15 = .ok (.if_icmp .eq 8, 3) := by decide +kernel
theorem dX9_next_18 : decode cX9_next 18 = .ok (.iload_n 2, 1) := by decide +kernel
theorem dX9_next_19 : decode cX9_next 19 = .ok (.iload_n 3, 1) := by decide +kernel
theorem dX9_next_20 : decode cX9_next 20 = .ok (.if_icmp .ne 5, 3) := by decide +kernel
theorem dX9_next_23 : decode cX9_next 23 = .ok (.iconst (-1), 1) := by decide +kernel
theorem dX9_next_24 : decode cX9_next 24 = .ok (.ireturn, 1) := by decide +kernel
theorem dX9_next_25 : decode cX9_next 25 = .ok (.aload_n 0, 1) := by decide +kernel
theorem dX9_next_26 : decode cX9_next 26 = .ok (.iload_n 2, 1) := by decide +kernel
theorem dX9_next_27 : decode cX9_next 27 = .ok (.invokevirtual 84, 3) := by decide +kernel
theorem dX9_next_30 : decode cX9_next 30 = .ok (.aload_n 0, 1) := by decide +kernel
theorem dX9_next_31 : decode cX9_next 31 = .ok (.getfield 34, 3) := by decide +kernel
theorem dX9_next_34 : decode cX9_next 34 = .ok (.iload_n 3, 1) := by decide +kernel
theorem dX9_next_35 : decode cX9_next 35 = .ok (.iaload, 1) := by decide +kernel
theorem dX9_next_36 : decode cX9_next 36 = .ok (.sipush 9999, 3) := by decide +kernel
theorem dX9_next_39 : decode cX9_next 39 = .ok (.if_icmp .lt 5, 3) := by decide +kernel
theorem dX9_next_42 : decode cX9_next 42 = .ok (.iconst (-1), 1) := by decide +kernel
theorem dX9_next_43 : decode cX9_next 43 = .ok (.ireturn, 1) := by decide +kernel
theorem dX9_next_44 : decode cX9_next 44 = .ok (.iconst 0, 1) := by decide +kernel
theorem dX9_next_45 : decode cX9_next 45 = .ok (.istore 4, 2) := by decide +kernel
theorem dX9_next_47 : decode cX9_next 47 = .ok (.iload 4, 2) := by decide +kernel
theorem dX9_next_49 : decode cX9_next 49 = .ok (.aload_n 0, 1) := by decide +kernel
theorem dX9_next_50 : decode cX9_next 50 = .ok (.getfield 7, 3) := by decide +kernel
theorem dX9_next_53 : decode cX9_next 53 = .ok (.iconst 0, 1) := by decide +kernel
theorem dX9_next_54 : decode cX9_next 54 = .ok (.iaload, 1) := by decide +kernel
theorem dX9_next_55 : decode cX9_next 55 = .ok (.if_icmp .ge 46, 3) := by decide +kernel
theorem dX9_next_58 : decode cX9_next 58 = .ok (.aload_n 0, 1) := by decide +kernel
theorem dX9_next_59 : decode cX9_next 59 = .ok (.iload_n 3, 1) := by decide +kernel
theorem dX9_next_60 : decode cX9_next 60 = .ok (.iload 4, 2) := by decide +kernel
theorem dX9_next_62 : decode cX9_next 62 = .ok (.invokevirtual 67, 3) := by decide +kernel
theorem dX9_next_65 : decode cX9_next 65 = .ok (.ifCond .eq 30, 3) := by decide +kernel
theorem dX9_next_68 : decode cX9_next 68 = .ok (.aload_n 0, 1) := by decide +kernel
theorem dX9_next_69 : decode cX9_next 69 = .ok (.getfield 34, 3) := by decide +kernel
theorem dX9_next_72 : decode cX9_next 72 = .ok (.iload 4, 2) := by decide +kernel
theorem dX9_next_74 : decode cX9_next 74 = .ok (.iaload, 1) := by decide +kernel
theorem dX9_next_75 : decode cX9_next 75 = .ok (.aload_n 0, 1) := by decide +kernel
theorem dX9_next_76 : decode cX9_next 76 = .ok (.iload 4, 2) := by decide +kernel
theorem dX9_next_78 : decode cX9_next 78 = .ok (.iconst 0, 1) := by decide +kernel
theorem dX9_next_79 : decode cX9_next 79 = .ok (.invokevirtual 71, 3) := by decide +kernel
theorem dX9_next_82 : decode cX9_next 82 = .ok (.iadd, 1) := by decide +kernel
theorem dX9_next_83 : decode cX9_next 83 = .ok (.aload_n 0, 1) := by decide +kernel
theorem dX9_next_84 : decode cX9_next 84 = .ok (.getfield 34, 3) := by decide +kernel
theorem dX9_next_87 : decode cX9_next 87 = .ok (.iload_n 3, 1) := by decide +kernel
theorem dX9_next_88 : decode cX9_next 88 = .ok (.iaload, 1) := by decide +kernel
theorem dX9_next_89 : decode cX9_next 89 = .ok (.if_icmp .ne 6, 3) := by decide +kernel
theorem dX9_next_92 : decode cX9_next 92 = .ok (.iload 4, 2) := by decide +kernel
theorem dX9_next_94 : decode cX9_next 94 = .ok (.ireturn, 1) := by decide +kernel
theorem dX9_next_95 : decode cX9_next 95 = .ok (.iinc 4 1, 3) := by decide +kernel
theorem dX9_next_98 : decode cX9_next 98 = .ok (.goto (-51), 3) := by decide +kernel
theorem dX9_next_101 : decode cX9_next 101 = .ok (.iconst (-1), 1) := by decide +kernel
theorem dX9_next_102 : decode cX9_next 102 = .ok (.ireturn, 1) := by decide +kernel
theorem dX9_adds_0 : decode cX9_adds 0 = .ok (.iload_n 1, 1) := by decide +kernel
theorem dX9_adds_1 : decode cX9_adds 1 = .ok (.iconst 1, 1) := by decide +kernel
theorem dX9_adds_2 : decode cX9_adds 2 = .ok (.bipush 9, 2) := by decide +kernel
theorem dX9_adds_4 : decode cX9_adds 4 = .ok (.invokestatic 63, 3) := by decide +kernel
theorem dX9_adds_7 : decode cX9_adds 7 = .ok (.ifCond .ne 5, 3) := by decide +kernel
theorem dX9_adds_10 : decode cX9_adds 10 = .ok (.iconst 1, 1) := by decide +kernel
theorem dX9_adds_11 : decode cX9_adds 11 = .ok (.ireturn, 1) := by decide +kernel
theorem dX9_adds_12 : decode cX9_adds 12 = .ok (.aload_n 0, 1) := by decide +kernel
theorem dX9_adds_13 : decode cX9_adds 13 = .ok (.getfield 7, 3) := by decide +kernel
theorem dX9_adds_16 : decode cX9_adds 16 = .ok (.iconst 0, 1) := by decide +kernel
theorem dX9_adds_17 : decode cX9_adds 17 = .ok (.iaload, 1) := by decide +kernel
theorem dX9_adds_18 : decode cX9_adds 18 = .ok (.istore_n 3, 1) := by decide +kernel
theorem dX9_adds_19 : decode cX9_adds 19 = .ok (.iload_n 3, 1) := by decide +kernel
theorem dX9_adds_20 : decode cX9_adds 20 = .ok (.bipush 14, 2) := by decide +kernel
theorem dX9_adds_22 : decode cX9_adds 22 = .ok (.if_icmp .ne 5, 3) := by decide +kernel
theorem dX9_adds_25 : decode cX9_adds 25 = .ok (.iconst 2, 1) := by decide +kernel
theorem dX9_adds_26 : decode cX9_adds 26 = .ok (.ireturn, 1) := by decide +kernel
theorem dX9_adds_27 : decode cX9_adds 27 = .ok (.aload_n 0, 1) := by decide +kernel
theorem dX9_adds_28 : decode cX9_adds 28 = .ok (.getfield 7, 3) := by decide +kernel
theorem dX9_adds_31 : decode cX9_adds 31 = .ok (.iconst 4, 1) := by decide +kernel
theorem dX9_adds_32 : decode cX9_adds 32 = .ok (.iconst 4, 1) := by decide +kernel
theorem dX9_adds_33 : decode cX9_adds 33 = .ok (.iload_n 3, 1) := by decide +kernel
theorem dX9_adds_34 : decode cX9_adds 34 = .ok (.imul, 1) := by decide +kernel
theorem dX9_adds_35 : decode cX9_adds 35 = .ok (.iadd, 1) := by decide +kernel
theorem dX9_adds_36 : decode cX9_adds 36 = .ok (.iconst 0, 1) := by decide +kernel
theorem dX9_adds_37 : decode cX9_adds 37 = .ok (.iadd, 1) := by decide +kernel
theorem dX9_adds_38 : decode cX9_adds 38 = .ok (.iload_n 1, 1) := by decide +kernel
theorem dX9_adds_39 : decode cX9_adds 39 = .ok (.iastore, 1) := by decide +kernel
theorem dX9_adds_40 : decode cX9_adds 40 = .ok (.aload_n 0, 1) := by decide +kernel
theorem dX9_adds_41 : decode cX9_adds 41 = .ok (.getfield 7, 3) := by decide +kernel
theorem dX9_adds_44 : decode cX9_adds 44 = .ok (.iconst 4, 1) := by decide +kernel
theorem dX9_adds_45 : decode cX9_adds 45 = .ok (.iconst 4, 1) := by decide +kernel
theorem dX9_adds_46 : decode cX9_adds 46 = .ok (.iload_n 3, 1) := by decide +kernel
theorem dX9_adds_47 : decode cX9_adds 47 = .ok (.imul, 1) := by decide +kernel
theorem dX9_adds_48 : decode cX9_adds 48 = .ok (.iadd, 1) := by decide +kernel
theorem dX9_adds_49 : decode cX9_adds 49 = .ok (.iconst 1, 1) := by decide +kernel
theorem dX9_adds_50 : decode cX9_adds 50 = .ok (.iadd, 1) := by decide +kernel
theorem dX9_adds_51 : decode cX9_adds 51 = .ok (.iload_n 2, 1) := by decide +kernel
theorem dX9_adds_52 : decode cX9_adds 52 = .ok (.iastore, 1) := by decide +kernel
theorem dX9_adds_53 : decode cX9_adds 53 = .ok (.aload_n 0, 1) := by decide +kernel
theorem dX9_adds_54 : decode cX9_adds 54 = .ok (.getfield 7, 3) := by decide +kernel
theorem dX9_adds_57 : decode cX9_adds 57 = .ok (.iconst 4, 1) := by decide +kernel
theorem dX9_adds_58 : decode cX9_adds 58 = .ok (.iconst 4, 1) := by decide +kernel
theorem dX9_adds_59 : decode cX9_adds 59 = .ok (.iload_n 3, 1) := by decide +kernel
theorem dX9_adds_60 : decode cX9_adds 60 = .ok (.imul, 1) := by decide +kernel
theorem dX9_adds_61 : decode cX9_adds 61 = .ok (.iadd, 1) := by decide +kernel
theorem dX9_adds_62 : decode cX9_adds 62 = .ok (.iconst 2, 1) := by decide +kernel
theorem dX9_adds_63 : decode cX9_adds 63 = .ok (.iadd, 1) := by decide +kernel
theorem dX9_adds_64 : decode cX9_adds 64 = .ok (.iconst 0, 1) := by decide +kernel
theorem dX9_adds_65 : decode cX9_adds 65 = .ok (.iastore, 1) := by decide +kernel
theorem dX9_adds_66 : decode cX9_adds 66 = .ok (.aload_n 0, 1) := by decide +kernel
theorem dX9_adds_67 : decode cX9_adds 67 = .ok (.getfield 7, 3) := by decide +kernel
theorem dX9_adds_70 : decode cX9_adds 70 = .ok (.iconst 4, 1) := by decide +kernel
theorem dX9_adds_71 : decode cX9_adds 71 = .ok (.iconst 4, 1) := by decide +kernel
theorem dX9_adds_72 : decode cX9_adds 72 = .ok (.iload_n 3, 1) := by decide +kernel
theorem dX9_adds_73 : decode cX9_adds 73 = .ok (.imul, 1) := by decide +kernel
theorem dX9_adds_74 : decode cX9_adds 74 = .ok (.iadd, 1) := by decide +kernel
theorem dX9_adds_75 : decode cX9_adds 75 = .ok (.iconst 3, 1) := by decide +kernel
theorem dX9_adds_76 : decode cX9_adds 76 = .ok (.iadd, 1) := by decide +kernel
theorem dX9_adds_77 : decode cX9_adds 77 = .ok (.iconst 0, 1) := by decide +kernel
theorem dX9_adds_78 : decode cX9_adds 78 = .ok (.iastore, 1) := by decide +kernel
theorem dX9_adds_79 : decode cX9_adds 79 = .ok (.aload_n 0, 1) := by decide +kernel
theorem dX9_adds_80 : decode cX9_adds 80 = .ok (.getfield 7, 3) := by decide +kernel
theorem dX9_adds_83 : decode cX9_adds 83 = .ok (.bipush 60, 2) := by decide +kernel
theorem dX9_adds_85 : decode cX9_adds 85 = .ok (.iload_n 3, 1) := by decide +kernel
theorem dX9_adds_86 : decode cX9_adds 86 = .ok (.iadd, 1) := by decide +kernel
theorem dX9_adds_87 : decode cX9_adds 87 = .ok (.iconst 0, 1) := by decide +kernel
theorem dX9_adds_88 : decode cX9_adds 88 = .ok (.iastore, 1) := by decide +kernel
theorem dX9_adds_89 : decode cX9_adds 89 = .ok (.aload_n 0, 1) := by decide +kernel
theorem dX9_adds_90 : decode cX9_adds 90 = .ok (.getfield 7, 3) := by decide +kernel
theorem dX9_adds_93 : decode cX9_adds 93 = .ok (.iconst 0, 1) := by decide +kernel
theorem dX9_adds_94 : decode cX9_adds 94 = .ok (.iload_n 3, 1) := by decide +kernel
theorem dX9_adds_95 : decode cX9_adds 95 = .ok (.iconst 1, 1) := by decide +kernel
theorem dX9_adds_96 : decode cX9_adds 96 = .ok (.iadd, 1) := by decide +kernel
theorem dX9_adds_97 : decode cX9_adds 97 = .ok (.iastore, 1) := by decide +kernel
theorem dX9_adds_98 : decode cX9_adds 98 = .ok (.aload_n 0, 1) := by decide +kernel
theorem dX9_adds_99 : decode cX9_adds 99 = .ok (.iload_n 3, 1) := by decide +kernel
theorem dX9_adds_100 : decode cX9_adds 100 = .ok (.invokevirtual 88, 3) := by decide +kernel
theorem dX9_adds_103 : decode cX9_adds 103 = .ok (.ireturn, 1) := by decide +kernel
theorem dX9_joins_0 : decode cX9_joins 0 = .ok (.aload_n 0, 1) := by decide +kernel
theorem dX9_joins_1 : decode cX9_joins 1 = .ok (.iload_n 1, 1) := by decide +kernel
theorem dX9_joins_2 : decode cX9_joins 2 = .ok (.invokevirtual 91, 3) := by decide +kernel
theorem dX9_joins_5 : decode cX9_joins 5 = .ok (.ifCond .eq 11, 3) := by decide +kernel
theorem dX9_joins_8 : decode cX9_joins 8 = .ok (.aload_n 0, 1) := by decide +kernel
theorem dX9_joins_9 : decode cX9_joins 9 = .ok (.iload_n 2, 1) := by decide +kernel
theorem dX9_joins_10 : decode cX9_joins 10 = .ok (.invokevirtual 91, 3) := by decide +kernel
theorem dX9_joins_13 : decode cX9_joins 13 = .ok (.ifCond .ne 5, 3) := by decide +kernel
theorem dX9_joins_16 : decode cX9_joins 16 = .ok (.iconst 1, 1) := by decide +kernel
theorem dX9_joins_17 : decode cX9_joins 17 = .ok (.ireturn, 1) := by decide +kernel
theorem dX9_joins_18 : decode cX9_joins 18 = .ok (.iload_n 1, 1) := by decide +kernel
theorem dX9_joins_19 : decode cX9_joins 19 = .ok (.iload_n 2, 1) := by decide +kernel
theorem dX9_joins_20 : decode cX9_joins 20 = .ok (.if_icmp .ne 5, 3) := by decide +kernel
theorem dX9_joins_23 : decode cX9_joins 23 = .ok (.iconst 2, 1) := by decide +kernel
theorem dX9_joins_24 : decode cX9_joins 24 = .ok (.ireturn, 1) := by decide +kernel
theorem dX9_joins_25 : decode cX9_joins 25 = .ok (.aload_n 0, 1) := by decide +kernel
theorem dX9_joins_26 : decode cX9_joins 26 = .ok (.iload_n 1, 1) := by decide +kernel
theorem dX9_joins_27 : decode cX9_joins 27 = .ok (.iload_n 2, 1) := by decide +kernel
theorem dX9_joins_28 : decode cX9_joins 28 = .ok (.invokevirtual 67, 3) := by decide +kernel
theorem dX9_joins_31 : decode cX9_joins 31 = .ok (.ifCond .eq 5, 3) := by decide +kernel
theorem dX9_joins_34 : decode cX9_joins 34 = .ok (.iconst 3, 1) := by decide +kernel
theorem dX9_joins_35 : decode cX9_joins 35 = .ok (.ireturn, 1) := by decide +kernel
theorem dX9_joins_36 : decode cX9_joins 36 = .ok (.aload_n 0, 1) := by decide +kernel
theorem dX9_joins_37 : decode cX9_joins 37 = .ok (.getfield 7, 3) := by decide +kernel
theorem dX9_joins_40 : decode cX9_joins 40 = .ok (.bipush 60, 2) := by decide +kernel
theorem dX9_joins_42 : decode cX9_joins 42 = .ok (.iload_n 1, 1) := by decide +kernel
theorem dX9_joins_43 : decode cX9_joins 43 = .ok (.iadd, 1) := by decide +kernel
theorem dX9_joins_44 : decode cX9_joins 44 = .ok (.dup2, 1) := by decide +kernel
theorem dX9_joins_45 : decode cX9_joins 45 = .ok (.iaload, 1) := by decide +kernel
theorem dX9_joins_46 : decode cX9_joins 46 = .ok (.iconst 1, 1) := by decide +kernel
theorem dX9_joins_47 : decode cX9_joins 47 = .ok (.iload_n 2, 1) := by decide +kernel
theorem dX9_joins_48 : decode cX9_joins 48 = .ok (.ishl, 1) := by decide +kernel
theorem dX9_joins_49 : decode cX9_joins 49 = .ok (.ior, 1) := by decide +kernel
theorem dX9_joins_50 : decode cX9_joins 50 = .ok (.iastore, 1) := by decide +kernel
theorem dX9_joins_51 : decode cX9_joins 51 = .ok (.aload_n 0, 1) := by decide +kernel
theorem dX9_joins_52 : decode cX9_joins 52 = .ok (.getfield 7, 3) := by decide +kernel
theorem dX9_joins_55 : decode cX9_joins 55 = .ok (.bipush 60, 2) := by decide +kernel
theorem dX9_joins_57 : decode cX9_joins 57 = .ok (.iload_n 2, 1) := by decide +kernel
theorem dX9_joins_58 : decode cX9_joins 58 = .ok (.iadd, 1) := by decide +kernel
theorem dX9_joins_59 : decode cX9_joins 59 = .ok (.dup2, 1) := by decide +kernel
theorem dX9_joins_60 : decode cX9_joins 60 = .ok (.iaload, 1) := by decide +kernel
theorem dX9_joins_61 : decode cX9_joins 61 = .ok (.iconst 1, 1) := by decide +kernel
theorem dX9_joins_62 : decode cX9_joins 62 = .ok (.iload_n 1, 1) := by decide +kernel
theorem dX9_joins_63 : decode cX9_joins 63 = .ok (.ishl, 1) := by decide +kernel
theorem dX9_joins_64 : decode cX9_joins 64 = .ok (.ior, 1) := by decide +kernel
theorem dX9_joins_65 : decode cX9_joins 65 = .ok (.iastore, 1) := by decide +kernel
theorem dX9_joins_66 : decode cX9_joins 66 = .ok (.aload_n 0, 1) := by decide +kernel
theorem dX9_joins_67 : decode cX9_joins 67 = .ok (.aload_n 0, 1) := by decide +kernel
theorem dX9_joins_68 : decode cX9_joins 68 = .ok (.invokevirtual 95, 3) := by decide +kernel
theorem dX9_joins_71 : decode cX9_joins 71 = .ok (.invokevirtual 88, 3) := by decide +kernel
theorem dX9_joins_74 : decode cX9_joins 74 = .ok (.ireturn, 1) := by decide +kernel
theorem dX9_parts_0 : decode cX9_parts 0 = .ok (.aload_n 0, 1) := by decide +kernel
theorem dX9_parts_1 : decode cX9_parts 1 = .ok (.iload_n 1, 1) := by decide +kernel
theorem dX9_parts_2 : decode cX9_parts 2 = .ok (.invokevirtual 91, 3) := by decide +kernel
theorem dX9_parts_5 : decode cX9_parts 5 = .ok (.ifCond .eq 11, 3) := by decide +kernel
theorem dX9_parts_8 : decode cX9_parts 8 = .ok (.aload_n 0, 1) := by decide +kernel
theorem dX9_parts_9 : decode cX9_parts 9 = .ok (.iload_n 2, 1) := by decide +kernel
theorem dX9_parts_10 : decode cX9_parts 10 = .ok (.invokevirtual 91, 3) := by decide +kernel
theorem dX9_parts_13 : decode cX9_parts 13 = .ok (.ifCond .ne 5, 3) := by decide +kernel
theorem dX9_parts_16 : decode cX9_parts 16 = .ok (.iconst 1, 1) := by decide +kernel
theorem dX9_parts_17 : decode cX9_parts 17 = .ok (.ireturn, 1) := by decide +kernel
theorem dX9_parts_18 : decode cX9_parts 18 = .ok (.aload_n 0, 1) := by decide +kernel
theorem dX9_parts_19 : decode cX9_parts 19 = .ok (.iload_n 1, 1) := by decide +kernel
theorem dX9_parts_20 : decode cX9_parts 20 = .ok (.iload_n 2, 1) := by decide +kernel
theorem dX9_parts_21 : decode cX9_parts 21 = .ok (.invokevirtual 67, 3) := by decide +kernel
theorem dX9_parts_24 : decode cX9_parts 24 = .ok (.ifCond .ne 5, 3) := by decide +kernel
theorem dX9_parts_27 : decode cX9_parts 27 = .ok (.iconst 2, 1) := by decide +kernel
theorem dX9_parts_28 : decode cX9_parts 28 = .ok (.ireturn, 1) := by decide +kernel
theorem dX9_parts_29 : decode cX9_parts 29 = .ok (.aload_n 0, 1) := by decide +kernel
theorem dX9_parts_30 : decode cX9_parts 30 = .ok (.getfield 7, 3) := by decide +kernel
theorem dX9_parts_33 : decode cX9_parts 33 = .ok (.bipush 60, 2) := by decide +kernel
theorem dX9_parts_35 : decode cX9_parts 35 = .ok (.iload_n 1, 1) := by decide +kernel
theorem dX9_parts_36 : decode cX9_parts 36 = .ok (.iadd, 1) := by decide +kernel
theorem dX9_parts_37 : decode cX9_parts 37 = .ok (.dup2, 1) := by decide +kernel
theorem dX9_parts_38 : decode cX9_parts 38 = .ok (.iaload, 1) := by decide +kernel
theorem dX9_parts_39 : decode cX9_parts 39 = .ok (.iconst 1, 1) := by decide +kernel
theorem dX9_parts_40 : decode cX9_parts 40 = .ok (.iload_n 2, 1) := by decide +kernel
theorem dX9_parts_41 : decode cX9_parts 41 = .ok (.ishl, 1) := by decide +kernel
theorem dX9_parts_42 : decode cX9_parts 42 = .ok (.iconst (-1), 1) := by decide +kernel
theorem dX9_parts_43 : decode cX9_parts 43 = .ok (.ixor, 1) := by decide +kernel
theorem dX9_parts_44 : decode cX9_parts 44 = .ok (.iand, 1) := by decide +kernel
theorem dX9_parts_45 : decode cX9_parts 45 = .ok (.iastore, 1) := by decide +kernel
theorem dX9_parts_46 : decode cX9_parts 46 = .ok (.aload_n 0, 1) := by decide +kernel
theorem dX9_parts_47 : decode cX9_parts 47 = .ok (.getfield 7, 3) := by decide +kernel
theorem dX9_parts_50 : decode cX9_parts 50 = .ok (.bipush 60, 2) := by decide +kernel
theorem dX9_parts_52 : decode cX9_parts 52 = .ok (.iload_n 2, 1) := by decide +kernel
theorem dX9_parts_53 : decode cX9_parts 53 = .ok (.iadd, 1) := by decide +kernel
theorem dX9_parts_54 : decode cX9_parts 54 = .ok (.dup2, 1) := by decide +kernel
theorem dX9_parts_55 : decode cX9_parts 55 = .ok (.iaload, 1) := by decide +kernel
theorem dX9_parts_56 : decode cX9_parts 56 = .ok (.iconst 1, 1) := by decide +kernel
theorem dX9_parts_57 : decode cX9_parts 57 = .ok (.iload_n 1, 1) := by decide +kernel
theorem dX9_parts_58 : decode cX9_parts 58 = .ok (.ishl, 1) := by decide +kernel
theorem dX9_parts_59 : decode cX9_parts 59 = .ok (.iconst (-1), 1) := by decide +kernel
theorem dX9_parts_60 : decode cX9_parts 60 = .ok (.ixor, 1) := by decide +kernel
theorem dX9_parts_61 : decode cX9_parts 61 = .ok (.iand, 1) := by decide +kernel
theorem dX9_parts_62 : decode cX9_parts 62 = .ok (.iastore, 1) := by decide +kernel
theorem dX9_parts_63 : decode cX9_parts 63 = .ok (.aload_n 0, 1) := by decide +kernel
theorem dX9_parts_64 : decode cX9_parts 64 = .ok (.aload_n 0, 1) := by decide +kernel
theorem dX9_parts_65 : decode cX9_parts 65 = .ok (.invokevirtual 95, 3) := by decide +kernel
theorem dX9_parts_68 : decode cX9_parts 68 = .ok (.invokevirtual 88, 3) := by decide +kernel
theorem dX9_parts_71 : decode cX9_parts 71 = .ok (.ireturn, 1) := by decide +kernel
theorem dX9_seats_0 : decode cX9_seats 0 = .ok (.aload_n 0, 1) := by decide +kernel
theorem dX9_seats_1 : decode cX9_seats 1 = .ok (.iload_n 1, 1) := by decide +kernel
theorem dX9_seats_2 : decode cX9_seats 2 = .ok (.invokevirtual 91, 3) := by decide +kernel
theorem dX9_seats_5 : decode cX9_seats 5 = .ok (.ifCond .ne 5, 3) := by decide +kernel
theorem dX9_seats_8 : decode cX9_seats 8 = .ok (.iconst 1, 1) := by decide +kernel
theorem dX9_seats_9 : decode cX9_seats 9 = .ok (.ireturn, 1) := by decide +kernel
theorem dX9_seats_10 : decode cX9_seats 10 = .ok (.aload_n 0, 1) := by decide +kernel
theorem dX9_seats_11 : decode cX9_seats 11 = .ok (.iload_n 1, 1) := by decide +kernel
theorem dX9_seats_12 : decode cX9_seats 12 = .ok (.iconst 2, 1) := by decide +kernel
theorem dX9_seats_13 : decode cX9_seats 13 = .ok (.invokevirtual 71, 3) := by decide +kernel
theorem dX9_seats_16 : decode cX9_seats 16 = .ok (.iconst 1, 1) := by decide +kernel
theorem dX9_seats_17 : decode cX9_seats 17 = .ok (.if_icmp .ne 5, 3) := by decide +kernel
theorem dX9_seats_20 : decode cX9_seats 20 = .ok (.iconst 2, 1) := by decide +kernel
theorem dX9_seats_21 : decode cX9_seats 21 = .ok (.ireturn, 1) := by decide +kernel
theorem dX9_seats_22 : decode cX9_seats 22 = .ok (.aload_n 0, 1) := by decide +kernel
theorem dX9_seats_23 : decode cX9_seats 23 = .ok (.iload_n 1, 1) := by decide +kernel
theorem dX9_seats_24 : decode cX9_seats 24 = .ok (.invokevirtual 99, 3) := by decide +kernel
theorem dX9_seats_27 : decode cX9_seats 27 = .ok (.iconst (-1), 1) := by decide +kernel
theorem dX9_seats_28 : decode cX9_seats 28 = .ok (.if_icmp .eq 5, 3) := by decide +kernel
theorem dX9_seats_31 : decode cX9_seats 31 = .ok (.iconst 3, 1) := by decide +kernel
theorem dX9_seats_32 : decode cX9_seats 32 = .ok (.ireturn, 1) := by decide +kernel
theorem dX9_seats_33 : decode cX9_seats 33 = .ok (.aload_n 0, 1) := by decide +kernel
theorem dX9_seats_34 : decode cX9_seats 34 = .ok (.getfield 7, 3) := by decide +kernel
theorem dX9_seats_37 : decode cX9_seats 37 = .ok (.iconst 4, 1) := by decide +kernel
theorem dX9_seats_38 : decode cX9_seats 38 = .ok (.iconst 4, 1) := by decide +kernel
theorem dX9_seats_39 : decode cX9_seats 39 = .ok (.iload_n 1, 1) := by decide +kernel
theorem dX9_seats_40 : decode cX9_seats 40 = .ok (.imul, 1) := by decide +kernel
theorem dX9_seats_41 : decode cX9_seats 41 = .ok (.iadd, 1) := by decide +kernel
theorem dX9_seats_42 : decode cX9_seats 42 = .ok (.iconst 2, 1) := by decide +kernel
theorem dX9_seats_43 : decode cX9_seats 43 = .ok (.iadd, 1) := by decide +kernel
theorem dX9_seats_44 : decode cX9_seats 44 = .ok (.iconst 1, 1) := by decide +kernel
theorem dX9_seats_45 : decode cX9_seats 45 = .ok (.iastore, 1) := by decide +kernel
theorem dX9_seats_46 : decode cX9_seats 46 = .ok (.aload_n 0, 1) := by decide +kernel
theorem dX9_seats_47 : decode cX9_seats 47 = .ok (.aload_n 0, 1) := by decide +kernel
theorem dX9_seats_48 : decode cX9_seats 48 = .ok (.invokevirtual 102, 3) := by decide +kernel
theorem dX9_seats_51 : decode cX9_seats 51 = .ok (.invokevirtual 88, 3) := by decide +kernel
theorem dX9_seats_54 : decode cX9_seats 54 = .ok (.ireturn, 1) := by decide +kernel
theorem dX9_shoos_0 : decode cX9_shoos 0 = .ok (.aload_n 0, 1) := by decide +kernel
theorem dX9_shoos_1 : decode cX9_shoos 1 = .ok (.iload_n 1, 1) := by decide +kernel
theorem dX9_shoos_2 : decode cX9_shoos 2 = .ok (.invokevirtual 91, 3) := by decide +kernel
theorem dX9_shoos_5 : decode cX9_shoos 5 = .ok (.ifCond .ne 5, 3) := by decide +kernel
theorem dX9_shoos_8 : decode cX9_shoos 8 = .ok (.iconst 1, 1) := by decide +kernel
theorem dX9_shoos_9 : decode cX9_shoos 9 = .ok (.ireturn, 1) := by decide +kernel
theorem dX9_shoos_10 : decode cX9_shoos 10 = .ok (.aload_n 0, 1) := by decide +kernel
theorem dX9_shoos_11 : decode cX9_shoos 11 = .ok (.iload_n 1, 1) := by decide +kernel
theorem dX9_shoos_12 : decode cX9_shoos 12 = .ok (.iconst 2, 1) := by decide +kernel
theorem dX9_shoos_13 : decode cX9_shoos 13 = .ok (.invokevirtual 71, 3) := by decide +kernel
theorem dX9_shoos_16 : decode cX9_shoos 16 = .ok (.ifCond .ne 5, 3) := by decide +kernel
theorem dX9_shoos_19 : decode cX9_shoos 19 = .ok (.iconst 2, 1) := by decide +kernel
theorem dX9_shoos_20 : decode cX9_shoos 20 = .ok (.ireturn, 1) := by decide +kernel
theorem dX9_shoos_21 : decode cX9_shoos 21 = .ok (.aload_n 0, 1) := by decide +kernel
theorem dX9_shoos_22 : decode cX9_shoos 22 = .ok (.getfield 7, 3) := by decide +kernel
theorem dX9_shoos_25 : decode cX9_shoos 25 = .ok (.iconst 4, 1) := by decide +kernel
theorem dX9_shoos_26 : decode cX9_shoos 26 = .ok (.iconst 4, 1) := by decide +kernel
theorem dX9_shoos_27 : decode cX9_shoos 27 = .ok (.iload_n 1, 1) := by decide +kernel
theorem dX9_shoos_28 : decode cX9_shoos 28 = .ok (.imul, 1) := by decide +kernel
theorem dX9_shoos_29 : decode cX9_shoos 29 = .ok (.iadd, 1) := by decide +kernel
theorem dX9_shoos_30 : decode cX9_shoos 30 = .ok (.iconst 2, 1) := by decide +kernel
theorem dX9_shoos_31 : decode cX9_shoos 31 = .ok (.iadd, 1) := by decide +kernel
theorem dX9_shoos_32 : decode cX9_shoos 32 = .ok (.iconst 0, 1) := by decide +kernel
theorem dX9_shoos_33 : decode cX9_shoos 33 = .ok (.iastore, 1) := by decide +kernel
theorem dX9_shoos_34 : decode cX9_shoos 34 = .ok (.aload_n 0, 1) := by decide +kernel
theorem dX9_shoos_35 : decode cX9_shoos 35 = .ok (.aload_n 0, 1) := by decide +kernel
theorem dX9_shoos_36 : decode cX9_shoos 36 = .ok (.invokevirtual 102, 3) := by decide +kernel
theorem dX9_shoos_39 : decode cX9_shoos 39 = .ok (.invokevirtual 88, 3) := by decide +kernel
theorem dX9_shoos_42 : decode cX9_shoos 42 = .ok (.ireturn, 1) := by decide +kernel
theorem dX9_starts_0 : decode cX9_starts 0 = .ok (.aload_n 0, 1) := by decide +kernel
theorem dX9_starts_1 : decode cX9_starts 1 = .ok (.iload_n 1, 1) := by decide +kernel
theorem dX9_starts_2 : decode cX9_starts 2 = .ok (.invokevirtual 91, 3) := by decide +kernel
theorem dX9_starts_5 : decode cX9_starts 5 = .ok (.ifCond .ne 5, 3) := by decide +kernel
theorem dX9_starts_8 : decode cX9_starts 8 = .ok (.iconst 1, 1) := by decide +kernel
theorem dX9_starts_9 : decode cX9_starts 9 = .ok (.ireturn, 1) := by decide +kernel
theorem dX9_starts_10 : decode cX9_starts 10 = .ok (.iload_n 2, 1) := by decide +kernel
theorem dX9_starts_11 : decode cX9_starts 11 = .ok (.iconst 1, 1) := by decide +kernel
theorem dX9_starts_12 : decode cX9_starts 12 = .ok (.bipush 9, 2) := by decide +kernel
theorem dX9_starts_14 : decode cX9_starts 14 = .ok (.invokestatic 63, 3) := by decide +kernel
theorem dX9_starts_17 : decode cX9_starts 17 = .ok (.ifCond .ne 5, 3) := by decide +kernel
theorem dX9_starts_20 : decode cX9_starts 20 = .ok (.iconst 2, 1) := by decide +kernel
theorem dX9_starts_21 : decode cX9_starts 21 = .ok (.ireturn, 1) := by decide +kernel
theorem dX9_starts_22 : decode cX9_starts 22 = .ok (.aload_n 0, 1) := by decide +kernel
theorem dX9_starts_23 : decode cX9_starts 23 = .ok (.getfield 7, 3) := by decide +kernel
theorem dX9_starts_26 : decode cX9_starts 26 = .ok (.iconst 1, 1) := by decide +kernel
theorem dX9_starts_27 : decode cX9_starts 27 = .ok (.iaload, 1) := by decide +kernel
theorem dX9_starts_28 : decode cX9_starts 28 = .ok (.istore_n 3, 1) := by decide +kernel
theorem dX9_starts_29 : decode cX9_starts 29 = .ok (.iload_n 3, 1) := by decide +kernel
theorem dX9_starts_30 : decode cX9_starts 30 = .ok (.bipush 6, 2) := by decide +kernel
theorem dX9_starts_32 : decode cX9_starts 32 = .ok (.if_icmp .ne 5, 3) := by decide +kernel
theorem dX9_starts_35 : decode cX9_starts 35 = .ok (.iconst 3, 1) := by decide +kernel
theorem dX9_starts_36 : decode cX9_starts 36 = .ok (.ireturn, 1) := by decide +kernel
theorem dX9_starts_37 : decode cX9_starts 37 = .ok (.aload_n 0, 1) := by decide +kernel
theorem dX9_starts_38 : decode cX9_starts 38 = .ok (.iload_n 1, 1) := by decide +kernel
theorem dX9_starts_39 : decode cX9_starts 39 = .ok (.invokevirtual 99, 3) := by decide +kernel
theorem dX9_starts_42 : decode cX9_starts 42 = .ok (.iconst (-1), 1) := by decide +kernel
theorem dX9_starts_43 : decode cX9_starts 43 = .ok (.if_icmp .ne 22, 3) := by decide +kernel
theorem dX9_starts_46 : decode cX9_starts 46 = .ok (.aload_n 0, 1) := by decide +kernel
theorem dX9_starts_47 : decode cX9_starts 47 = .ok (.iload_n 1, 1) := by decide +kernel
theorem dX9_starts_48 : decode cX9_starts 48 = .ok (.iconst 2, 1) := by decide +kernel
theorem dX9_starts_49 : decode cX9_starts 49 = .ok (.invokevirtual 71, 3) := by decide +kernel
theorem dX9_starts_52 : decode cX9_starts 52 = .ok (.iconst 1, 1) := by decide +kernel
theorem dX9_starts_53 : decode cX9_starts 53 = .ok (.if_icmp .eq 12, 3) := by decide +kernel
theorem dX9_starts_56 : decode cX9_starts 56 = .ok (.aload_n 0, 1) := by decide +kernel
theorem dX9_starts_57 : decode cX9_starts 57 = .ok (.iload_n 1, 1) := by decide +kernel
theorem dX9_starts_58 : decode cX9_starts 58 = .ok (.invokevirtual 78, 3) := by decide +kernel
theorem dX9_starts_61 : decode cX9_starts 61 = .ok (.iconst (-1), 1) := by decide +kernel
theorem dX9_starts_62 : decode cX9_starts 62 = .ok (.if_icmp .eq 5, 3) := by decide +kernel
theorem dX9_starts_65 : decode cX9_starts 65 = .ok (.iconst 4, 1) := by decide +kernel
theorem dX9_starts_66 : decode cX9_starts 66 = .ok (.ireturn, 1) := by decide +kernel
theorem dX9_starts_67 : decode cX9_starts 67 = .ok (.iconst 0, 1) := by decide +kernel
theorem dX9_starts_68 : decode cX9_starts 68 = .ok (.istore 4, 2) := by decide +kernel
theorem dX9_starts_70 : decode cX9_starts 70 = .ok (.iload 4, 2) := by decide +kernel
theorem dX9_starts_72 : decode cX9_starts 72 = .ok (.bipush 7, 2) := by decide +kernel
theorem dX9_starts_74 : decode cX9_starts 74 = .ok (.if_icmp .ge 17, 3) := by decide +kernel
theorem dX9_starts_77 : decode cX9_starts 77 = .ok (.aload_n 0, 1) := by decide +kernel
theorem dX9_starts_78 : decode cX9_starts 78 = .ok (.iload_n 3, 1) := by decide +kernel
theorem dX9_starts_79 : decode cX9_starts 79 = .ok (.iload 4, 2) := by decide +kernel
theorem dX9_starts_81 : decode cX9_starts 81 = .ok (.iconst 0, 1) := by decide +kernel
theorem dX9_starts_82 : decode cX9_starts 82 = .ok (.invokevirtual 105, 3) := by decide +kernel
theorem dX9_starts_85 : decode cX9_starts 85 = .ok (.iinc 4 1, 3) := by decide +kernel
theorem dX9_starts_88 : decode cX9_starts 88 = .ok (.goto (-18), 3) := by decide +kernel
theorem dX9_starts_91 : decode cX9_starts 91 = .ok (.aload_n 0, 1) := by decide +kernel
theorem dX9_starts_92 : decode cX9_starts 92 = .ok (.iload_n 3, 1) := by decide +kernel
theorem dX9_starts_93 : decode cX9_starts 93 = .ok (.iconst 0, 1) := by decide +kernel
theorem dX9_starts_94 : decode cX9_starts 94 = .ok (.iload_n 1, 1) := by decide +kernel
theorem dX9_starts_95 : decode cX9_starts 95 = .ok (.invokevirtual 105, 3) := by decide +kernel
theorem dX9_starts_98 : decode cX9_starts 98 = .ok (.aload_n 0, 1) := by decide +kernel
theorem dX9_starts_99 : decode cX9_starts 99 = .ok (.iload_n 3, 1) := by decide +kernel
theorem dX9_starts_100 : decode cX9_starts 100 = .ok (.iconst 1, 1) := by decide +kernel
theorem dX9_starts_101 : decode cX9_starts 101 = .ok (.iload_n 2, 1) := by decide +kernel
theorem dX9_starts_102 : decode cX9_starts 102 = .ok (.invokevirtual 105, 3) := by decide +kernel
theorem dX9_starts_105 : decode cX9_starts 105 = .ok (.aload_n 0, 1) := by decide +kernel
theorem dX9_starts_106 : decode cX9_starts 106 = .ok (.getfield 7, 3) := by decide +kernel
theorem dX9_starts_109 : decode cX9_starts 109 = .ok (.iconst 1, 1) := by decide +kernel
theorem dX9_starts_110 : decode cX9_starts 110 = .ok (.iload_n 3, 1) := by decide +kernel
theorem dX9_starts_111 : decode cX9_starts 111 = .ok (.iconst 1, 1) := by decide +kernel
theorem dX9_starts_112 : decode cX9_starts 112 = .ok (.iadd, 1) := by decide +kernel
theorem dX9_starts_113 : decode cX9_starts 113 = .ok (.iastore, 1) := by decide +kernel
theorem dX9_starts_114 : decode cX9_starts 114 = .ok (.aload_n 0, 1) := by decide +kernel
theorem dX9_starts_115 : decode cX9_starts 115 = .ok (.iload_n 3, 1) := by decide +kernel
theorem dX9_starts_116 : decode cX9_starts 116 = .ok (.invokevirtual 88, 3) := by decide +kernel
theorem dX9_starts_119 : decode cX9_starts 119 = .ok (.ireturn, 1) := by decide +kernel
theorem dX9_aims_0 : decode cX9_aims 0 = .ok (.aload_n 0, 1) := by decide +kernel
theorem dX9_aims_1 : decode cX9_aims 1 = .ok (.iload_n 1, 1) := by decide +kernel
theorem dX9_aims_2 : decode cX9_aims 2 = .ok (.invokevirtual 109, 3) := by decide +kernel
theorem dX9_aims_5 : decode cX9_aims 5 = .ok (.ifCond .eq 11, 3) := by decide +kernel
theorem dX9_aims_8 : decode cX9_aims 8 = .ok (.aload_n 0, 1) := by decide +kernel
theorem dX9_aims_9 : decode cX9_aims 9 = .ok (.iload_n 2, 1) := by decide +kernel
theorem dX9_aims_10 : decode cX9_aims 10 = .ok (.invokevirtual 91, 3) := by decide +kernel
theorem dX9_aims_13 : decode cX9_aims 13 = .ok (.ifCond .ne 5, 3) := by decide +kernel
theorem dX9_aims_16 : decode cX9_aims 16 = .ok (.iconst 1, 1) := by decide +kernel
theorem dX9_aims_17 : decode cX9_aims 17 = .ok (.ireturn, 1) := by decide +kernel
theorem dX9_aims_18 : decode cX9_aims 18 = .ok (.aload_n 0, 1) := by decide +kernel
theorem dX9_aims_19 : decode cX9_aims 19 = .ok (.iload_n 2, 1) := by decide +kernel
theorem dX9_aims_20 : decode cX9_aims 20 = .ok (.iconst 1, 1) := by decide +kernel
theorem dX9_aims_21 : decode cX9_aims 21 = .ok (.invokevirtual 71, 3) := by decide +kernel
theorem dX9_aims_24 : decode cX9_aims 24 = .ok (.ifCond .ne 5, 3) := by decide +kernel
theorem dX9_aims_27 : decode cX9_aims 27 = .ok (.iconst 2, 1) := by decide +kernel
theorem dX9_aims_28 : decode cX9_aims 28 = .ok (.ireturn, 1) := by decide +kernel
theorem dX9_aims_29 : decode cX9_aims 29 = .ok (.aload_n 0, 1) := by decide +kernel
theorem dX9_aims_30 : decode cX9_aims 30 = .ok (.iload_n 1, 1) := by decide +kernel
theorem dX9_aims_31 : decode cX9_aims 31 = .ok (.iconst 0, 1) := by decide +kernel
theorem dX9_aims_32 : decode cX9_aims 32 = .ok (.invokevirtual 75, 3) := by decide +kernel
theorem dX9_aims_35 : decode cX9_aims 35 = .ok (.iload_n 2, 1) := by decide +kernel
theorem dX9_aims_36 : decode cX9_aims 36 = .ok (.if_icmp .ne 5, 3) := by decide +kernel
theorem dX9_aims_39 : decode cX9_aims 39 = .ok (.iconst 3, 1) := by decide +kernel
theorem dX9_aims_40 : decode cX9_aims 40 = .ok (.ireturn, 1) := by decide +kernel
theorem dX9_aims_41 : decode cX9_aims 41 = .ok (.aload_n 0, 1) := by decide +kernel
theorem dX9_aims_42 : decode cX9_aims 42 = .ok (.iload_n 2, 1) := by decide +kernel
theorem dX9_aims_43 : decode cX9_aims 43 = .ok (.invokevirtual 84, 3) := by decide +kernel
theorem dX9_aims_46 : decode cX9_aims 46 = .ok (.aload_n 0, 1) := by decide +kernel
theorem dX9_aims_47 : decode cX9_aims 47 = .ok (.getfield 34, 3) := by decide +kernel
theorem dX9_aims_50 : decode cX9_aims 50 = .ok (.aload_n 0, 1) := by decide +kernel
theorem dX9_aims_51 : decode cX9_aims 51 = .ok (.iload_n 1, 1) := by decide +kernel
theorem dX9_aims_52 : decode cX9_aims 52 = .ok (.iconst 0, 1) := by decide +kernel
theorem dX9_aims_53 : decode cX9_aims 53 = .ok (.invokevirtual 75, 3) := by decide +kernel
theorem dX9_aims_56 : decode cX9_aims 56 = .ok (.iaload, 1) := by decide +kernel
theorem dX9_aims_57 : decode cX9_aims 57 = .ok (.sipush 9999, 3) := by decide +kernel
theorem dX9_aims_60 : decode cX9_aims 60 = .ok (.if_icmp .lt 5, 3) := by decide +kernel
theorem dX9_aims_63 : decode cX9_aims 63 = .ok (.iconst 4, 1) := by decide +kernel
theorem dX9_aims_64 : decode cX9_aims 64 = .ok (.ireturn, 1) := by decide +kernel
theorem dX9_aims_65 : decode cX9_aims 65 = .ok (.aload_n 0, 1) := by decide +kernel
theorem dX9_aims_66 : decode cX9_aims 66 = .ok (.iload_n 1, 1) := by decide +kernel
theorem dX9_aims_67 : decode cX9_aims 67 = .ok (.iconst 3, 1) := by decide +kernel
theorem dX9_aims_68 : decode cX9_aims 68 = .ok (.iload_n 2, 1) := by decide +kernel
theorem dX9_aims_69 : decode cX9_aims 69 = .ok (.iconst 1, 1) := by decide +kernel
theorem dX9_aims_70 : decode cX9_aims 70 = .ok (.iadd, 1) := by decide +kernel
theorem dX9_aims_71 : decode cX9_aims 71 = .ok (.invokevirtual 105, 3) := by decide +kernel
theorem dX9_aims_74 : decode cX9_aims 74 = .ok (.aload_n 0, 1) := by decide +kernel
theorem dX9_aims_75 : decode cX9_aims 75 = .ok (.aload_n 0, 1) := by decide +kernel
theorem dX9_aims_76 : decode cX9_aims 76 = .ok (.getfield 34, 3) := by decide +kernel
theorem dX9_aims_79 : decode cX9_aims 79 = .ok (.aload_n 0, 1) := by decide +kernel
theorem dX9_aims_80 : decode cX9_aims 80 = .ok (.iload_n 1, 1) := by decide +kernel
theorem dX9_aims_81 : decode cX9_aims 81 = .ok (.iconst 0, 1) := by decide +kernel
theorem dX9_aims_82 : decode cX9_aims 82 = .ok (.invokevirtual 75, 3) := by decide +kernel
theorem dX9_aims_85 : decode cX9_aims 85 = .ok (.iaload, 1) := by decide +kernel
theorem dX9_aims_86 : decode cX9_aims 86 = .ok (.invokevirtual 88, 3) := by decide +kernel
theorem dX9_aims_89 : decode cX9_aims 89 = .ok (.ireturn, 1) := by decide +kernel
theorem dX9_forgets_0 : decode cX9_forgets 0 = .ok (.aload_n 0, 1) := by decide +kernel
theorem dX9_forgets_1 : decode cX9_forgets 1 = .ok (.iload_n 1, 1) := by decide +kernel
theorem dX9_forgets_2 : decode cX9_forgets 2 = .ok (.invokevirtual 109, 3) := by decide +kernel
theorem dX9_forgets_5 : decode cX9_forgets 5 = .ok (.ifCond .ne 5, 3) := by decide +kernel
theorem dX9_forgets_8 : decode cX9_forgets 8 = .ok (.iconst 1, 1) := by decide +kernel
theorem dX9_forgets_9 : decode cX9_forgets 9 = .ok (.ireturn, 1) := by decide +kernel
theorem dX9_forgets_10 : decode cX9_forgets 10 = .ok (.aload_n 0, 1) := by decide +kernel
theorem dX9_forgets_11 : decode cX9_forgets 11 = .ok (.iload_n 1, 1) := by decide +kernel
theorem dX9_forgets_12 : decode cX9_forgets 12 = .ok (.invokevirtual 81, 3) := by decide +kernel
theorem dX9_forgets_15 : decode cX9_forgets 15 = .ok (.istore_n 2, 1) := by decide +kernel
theorem dX9_forgets_16 : decode cX9_forgets 16 = .ok (.iload_n 2, 1) := by decide +kernel
theorem dX9_forgets_17 : decode cX9_forgets 17 = .ok (.iconst (-1), 1) := by decide +kernel
theorem dX9_forgets_18 : decode cX9_forgets 18 = .ok (.if_icmp .ne 5, 3) := by decide +kernel
theorem dX9_forgets_21 : decode cX9_forgets 21 = .ok (.iconst 2, 1) := by decide +kernel
theorem dX9_forgets_22 : decode cX9_forgets 22 = .ok (.ireturn, 1) := by decide +kernel
theorem dX9_forgets_23 : decode cX9_forgets 23 = .ok (.aload_n 0, 1) := by decide +kernel
theorem dX9_forgets_24 : decode cX9_forgets 24 = .ok (.iload_n 1, 1) := by decide +kernel
theorem dX9_forgets_25 : decode cX9_forgets 25 = .ok (.iconst 3, 1) := by decide +kernel
theorem dX9_forgets_26 : decode cX9_forgets 26 = .ok (.iconst 0, 1) := by decide +kernel
theorem dX9_forgets_27 : decode cX9_forgets 27 = .ok (.invokevirtual 105, 3) := by decide +kernel
theorem dX9_forgets_30 : decode cX9_forgets 30 = .ok (.aload_n 0, 1) := by decide +kernel
theorem dX9_forgets_31 : decode cX9_forgets 31 = .ok (.iload_n 2, 1) := by decide +kernel
theorem dX9_forgets_32 : decode cX9_forgets 32 = .ok (.invokevirtual 88, 3) := by decide +kernel
theorem dX9_forgets_35 : decode cX9_forgets 35 = .ok (.ireturn, 1) := by decide +kernel
theorem dX9_holds_0 : decode cX9_holds 0 = .ok (.aload_n 0, 1) := by decide +kernel
theorem dX9_holds_1 : decode cX9_holds 1 = .ok (.iload_n 1, 1) := by decide +kernel
theorem dX9_holds_2 : decode cX9_holds 2 = .ok (.invokevirtual 109, 3) := by decide +kernel
theorem dX9_holds_5 : decode cX9_holds 5 = .ok (.ifCond .eq 11, 3) := by decide +kernel
theorem dX9_holds_8 : decode cX9_holds 8 = .ok (.aload_n 0, 1) := by decide +kernel
theorem dX9_holds_9 : decode cX9_holds 9 = .ok (.iload_n 2, 1) := by decide +kernel
theorem dX9_holds_10 : decode cX9_holds 10 = .ok (.invokevirtual 91, 3) := by decide +kernel
theorem dX9_holds_13 : decode cX9_holds 13 = .ok (.ifCond .ne 5, 3) := by decide +kernel
theorem dX9_holds_16 : decode cX9_holds 16 = .ok (.iconst 1, 1) := by decide +kernel
theorem dX9_holds_17 : decode cX9_holds 17 = .ok (.ireturn, 1) := by decide +kernel
theorem dX9_holds_18 : decode cX9_holds 18 = .ok (.aload_n 0, 1) := by decide +kernel
theorem dX9_holds_19 : decode cX9_holds 19 = .ok (.aload_n 0, 1) := by decide +kernel
theorem dX9_holds_20 : decode cX9_holds 20 = .ok (.iload_n 1, 1) := by decide +kernel
theorem dX9_holds_21 : decode cX9_holds 21 = .ok (.iconst 0, 1) := by decide +kernel
theorem dX9_holds_22 : decode cX9_holds 22 = .ok (.invokevirtual 75, 3) := by decide +kernel
theorem dX9_holds_25 : decode cX9_holds 25 = .ok (.iload_n 2, 1) := by decide +kernel
theorem dX9_holds_26 : decode cX9_holds 26 = .ok (.invokevirtual 67, 3) := by decide +kernel
theorem dX9_holds_29 : decode cX9_holds 29 = .ok (.ifCond .ne 5, 3) := by decide +kernel
theorem dX9_holds_32 : decode cX9_holds 32 = .ok (.iconst 2, 1) := by decide +kernel
theorem dX9_holds_33 : decode cX9_holds 33 = .ok (.ireturn, 1) := by decide +kernel
theorem dX9_holds_34 : decode cX9_holds 34 = .ok (.aload_n 0, 1) := by decide +kernel
theorem dX9_holds_35 : decode cX9_holds 35 = .ok (.iload_n 1, 1) := by decide +kernel
theorem dX9_holds_36 : decode cX9_holds 36 = .ok (.invokevirtual 112, 3) := by decide +kernel
theorem dX9_holds_39 : decode cX9_holds 39 = .ok (.iconst (-1), 1) := by decide +kernel
theorem dX9_holds_40 : decode cX9_holds 40 = .ok (.if_icmp .eq 5, 3) := by decide +kernel
theorem dX9_holds_43 : decode cX9_holds 43 = .ok (.iconst 3, 1) := by decide +kernel
theorem dX9_holds_44 : decode cX9_holds 44 = .ok (.ireturn, 1) := by decide +kernel
theorem dX9_holds_45 : decode cX9_holds 45 = .ok (.aload_n 0, 1) := by decide +kernel
theorem dX9_holds_46 : decode cX9_holds 46 = .ok (.iload_n 2, 1) := by decide +kernel
theorem dX9_holds_47 : decode cX9_holds 47 = .ok (.invokevirtual 99, 3) := by decide +kernel
theorem dX9_holds_50 : decode cX9_holds 50 = .ok (.iconst (-1), 1) := by decide +kernel
theorem dX9_holds_51 : decode cX9_holds 51 = .ok (.if_icmp .ne 12, 3) := by decide +kernel
theorem dX9_holds_54 : decode cX9_holds 54 = .ok (.aload_n 0, 1) := by decide +kernel
theorem dX9_holds_55 : decode cX9_holds 55 = .ok (.iload_n 2, 1) := by decide +kernel
theorem dX9_holds_56 : decode cX9_holds 56 = .ok (.invokevirtual 78, 3) := by decide +kernel
theorem dX9_holds_59 : decode cX9_holds 59 = .ok (.iconst (-1), 1) := by decide +kernel
theorem dX9_holds_60 : decode cX9_holds 60 = .ok (.if_icmp .eq 5, 3) := by decide +kernel
theorem dX9_holds_63 : decode cX9_holds 63 = .ok (.iconst 4, 1) := by decide +kernel
theorem dX9_holds_64 : decode cX9_holds 64 = .ok (.ireturn, 1) := by decide +kernel
theorem dX9_holds_65 : decode cX9_holds 65 = .ok (.aload_n 0, 1) := by decide +kernel
theorem dX9_holds_66 : decode cX9_holds 66 = .ok (.getfield 7, 3) := by decide +kernel
theorem dX9_holds_69 : decode cX9_holds 69 = .ok (.iconst 4, 1) := by decide +kernel
theorem dX9_holds_70 : decode cX9_holds 70 = .ok (.iconst 4, 1) := by decide +kernel
theorem dX9_holds_71 : decode cX9_holds 71 = .ok (.iload_n 2, 1) := by decide +kernel
theorem dX9_holds_72 : decode cX9_holds 72 = .ok (.imul, 1) := by decide +kernel
theorem dX9_holds_73 : decode cX9_holds 73 = .ok (.iadd, 1) := by decide +kernel
theorem dX9_holds_74 : decode cX9_holds 74 = .ok (.iconst 3, 1) := by decide +kernel
theorem dX9_holds_75 : decode cX9_holds 75 = .ok (.iadd, 1) := by decide +kernel
theorem dX9_holds_76 : decode cX9_holds 76 = .ok (.iload_n 1, 1) := by decide +kernel
theorem dX9_holds_77 : decode cX9_holds 77 = .ok (.iconst 1, 1) := by decide +kernel
theorem dX9_holds_78 : decode cX9_holds 78 = .ok (.iadd, 1) := by decide +kernel
theorem dX9_holds_79 : decode cX9_holds 79 = .ok (.iastore, 1) := by decide +kernel
theorem dX9_holds_80 : decode cX9_holds 80 = .ok (.iconst 0, 1) := by decide +kernel
theorem dX9_holds_81 : decode cX9_holds 81 = .ok (.istore_n 3, 1) := by decide +kernel
theorem dX9_holds_82 : decode cX9_holds 82 = .ok (.iconst 0, 1) := by decide +kernel
theorem dX9_holds_83 : decode cX9_holds 83 = .ok (.istore 4, 2) := by decide +kernel
theorem dX9_holds_85 : decode cX9_holds 85 = .ok (.iload 4, 2) := by decide +kernel
theorem dX9_holds_87 : decode cX9_holds 87 = .ok (.aload_n 0, 1) := by decide +kernel
theorem dX9_holds_88 : decode cX9_holds 88 = .ok (.getfield 7, 3) := by decide +kernel
theorem dX9_holds_91 : decode cX9_holds 91 = .ok (.iconst 0, 1) := by decide +kernel
theorem dX9_holds_92 : decode cX9_holds 92 = .ok (.iaload, 1) := by decide +kernel
theorem dX9_holds_93 : decode cX9_holds 93 = .ok (.if_icmp .ge 27, 3) := by decide +kernel
theorem dX9_holds_96 : decode cX9_holds 96 = .ok (.iload_n 3, 1) := by decide +kernel
theorem dX9_holds_97 : decode cX9_holds 97 = .ok (.aload_n 0, 1) := by decide +kernel
theorem dX9_holds_98 : decode cX9_holds 98 = .ok (.iload 4, 2) := by decide +kernel
theorem dX9_holds_100 : decode cX9_holds 100 = .ok (.invokevirtual 78, 3) := by decide +kernel
theorem dX9_holds_103 : decode cX9_holds 103 = .ok (.iconst (-1), 1) := by decide +kernel
theorem dX9_holds_104 : decode cX9_holds 104 = .ok (.if_icmp .ne 7, 3) := by decide +kernel
theorem dX9_holds_107 : decode cX9_holds 107 = .ok (.iconst 0, 1) := by decide +kernel
theorem dX9_holds_108 : decode cX9_holds 108 = .ok (.goto 4, 3) := by decide +kernel
theorem dX9_holds_111 : decode cX9_holds 111 = .ok (.iconst 1, 1) := by decide +kernel
theorem dX9_holds_112 : decode cX9_holds 112 = .ok (.iadd, 1) := by decide +kernel
theorem dX9_holds_113 : decode cX9_holds 113 = .ok (.istore_n 3, 1) := by decide +kernel
theorem dX9_holds_114 : decode cX9_holds 114 = .ok (.iinc 4 1, 3) := by decide +kernel
theorem dX9_holds_117 : decode cX9_holds 117 = .ok (.goto (-32), 3) := by decide +kernel
theorem dX9_holds_120 : decode cX9_holds 120 = .ok (.aload_n 0, 1) := by decide +kernel
theorem dX9_holds_121 : decode cX9_holds 121 = .ok (.iload_n 3, 1) := by decide +kernel
theorem dX9_holds_122 : decode cX9_holds 122 = .ok (.invokevirtual 88, 3) := by decide +kernel
theorem dX9_holds_125 : decode cX9_holds 125 = .ok (.ireturn, 1) := by decide +kernel
theorem dX9_frees_0 : decode cX9_frees 0 = .ok (.aload_n 0, 1) := by decide +kernel
theorem dX9_frees_1 : decode cX9_frees 1 = .ok (.iload_n 1, 1) := by decide +kernel
theorem dX9_frees_2 : decode cX9_frees 2 = .ok (.invokevirtual 109, 3) := by decide +kernel
theorem dX9_frees_5 : decode cX9_frees 5 = .ok (.ifCond .ne 5, 3) := by decide +kernel
theorem dX9_frees_8 : decode cX9_frees 8 = .ok (.iconst 1, 1) := by decide +kernel
theorem dX9_frees_9 : decode cX9_frees 9 = .ok (.ireturn, 1) := by decide +kernel
theorem dX9_frees_10 : decode cX9_frees 10 = .ok (.aload_n 0, 1) := by decide +kernel
theorem dX9_frees_11 : decode cX9_frees 11 = .ok (.iload_n 1, 1) := by decide +kernel
theorem dX9_frees_12 : decode cX9_frees 12 = .ok (.invokevirtual 112, 3) := by decide +kernel
theorem dX9_frees_15 : decode cX9_frees 15 = .ok (.istore_n 2, 1) := by decide +kernel
theorem dX9_frees_16 : decode cX9_frees 16 = .ok (.iload_n 2, 1) := by decide +kernel
theorem dX9_frees_17 : decode cX9_frees 17 = .ok (.iconst (-1), 1) := by decide +kernel
theorem dX9_frees_18 : decode cX9_frees 18 = .ok (.if_icmp .ne 5, 3) := by decide +kernel
theorem dX9_frees_21 : decode cX9_frees 21 = .ok (.iconst 2, 1) := by decide +kernel
theorem dX9_frees_22 : decode cX9_frees 22 = .ok (.ireturn, 1) := by decide +kernel
theorem dX9_frees_23 : decode cX9_frees 23 = .ok (.aload_n 0, 1) := by decide +kernel
theorem dX9_frees_24 : decode cX9_frees 24 = .ok (.getfield 7, 3) := by decide +kernel
theorem dX9_frees_27 : decode cX9_frees 27 = .ok (.iconst 4, 1) := by decide +kernel
theorem dX9_frees_28 : decode cX9_frees 28 = .ok (.iconst 4, 1) := by decide +kernel
theorem dX9_frees_29 : decode cX9_frees 29 = .ok (.iload_n 2, 1) := by decide +kernel
theorem dX9_frees_30 : decode cX9_frees 30 = .ok (.imul, 1) := by decide +kernel
theorem dX9_frees_31 : decode cX9_frees 31 = .ok (.iadd, 1) := by decide +kernel
theorem dX9_frees_32 : decode cX9_frees 32 = .ok (.iconst 3, 1) := by decide +kernel
theorem dX9_frees_33 : decode cX9_frees 33 = .ok (.iadd, 1) := by decide +kernel
theorem dX9_frees_34 : decode cX9_frees 34 = .ok (.iconst 0, 1) := by decide +kernel
theorem dX9_frees_35 : decode cX9_frees 35 = .ok (.iastore, 1) := by decide +kernel
theorem dX9_frees_36 : decode cX9_frees 36 = .ok (.aload_n 0, 1) := by decide +kernel
theorem dX9_frees_37 : decode cX9_frees 37 = .ok (.iload_n 2, 1) := by decide +kernel
theorem dX9_frees_38 : decode cX9_frees 38 = .ok (.invokevirtual 88, 3) := by decide +kernel
theorem dX9_frees_41 : decode cX9_frees 41 = .ok (.ireturn, 1) := by decide +kernel
theorem dX9_rescues_0 : decode cX9_rescues 0 = .ok (.aload_n 0, 1) := by decide +kernel
theorem dX9_rescues_1 : decode cX9_rescues 1 = .ok (.iload_n 1, 1) := by decide +kernel
theorem dX9_rescues_2 : decode cX9_rescues 2 = .ok (.invokevirtual 109, 3) := by decide +kernel
theorem dX9_rescues_5 : decode cX9_rescues 5 = .ok (.ifCond .ne 5, 3) := by decide +kernel
theorem dX9_rescues_8 : decode cX9_rescues 8 = .ok (.iconst 1, 1) := by decide +kernel
theorem dX9_rescues_9 : decode cX9_rescues 9 = .ok (.ireturn, 1) := by decide +kernel
theorem dX9_rescues_10 : decode cX9_rescues 10 = .ok (.aload_n 0, 1) := by decide +kernel
theorem dX9_rescues_11 : decode cX9_rescues 11 = .ok (.iload_n 1, 1) := by decide +kernel
theorem dX9_rescues_12 : decode cX9_rescues 12 = .ok (.iconst 4, 1) := by decide +kernel
theorem dX9_rescues_13 : decode cX9_rescues 13 = .ok (.invokevirtual 75, 3) := by decide +kernel
theorem dX9_rescues_16 : decode cX9_rescues 16 = .ok (.ifCond .ne 5, 3) := by decide +kernel
theorem dX9_rescues_19 : decode cX9_rescues 19 = .ok (.iconst 2, 1) := by decide +kernel
theorem dX9_rescues_20 : decode cX9_rescues 20 = .ok (.ireturn, 1) := by decide +kernel
theorem dX9_rescues_21 : decode cX9_rescues 21 = .ok (.aload_n 0, 1) := by decide +kernel
theorem dX9_rescues_22 : decode cX9_rescues 22 = .ok (.iload_n 1, 1) := by decide +kernel
theorem dX9_rescues_23 : decode cX9_rescues 23 = .ok (.iconst 4, 1) := by decide +kernel
theorem dX9_rescues_24 : decode cX9_rescues 24 = .ok (.iconst 0, 1) := by decide +kernel
theorem dX9_rescues_25 : decode cX9_rescues 25 = .ok (.invokevirtual 105, 3) := by decide +kernel
theorem dX9_rescues_28 : decode cX9_rescues 28 = .ok (.iconst 0, 1) := by decide +kernel
theorem dX9_rescues_29 : decode cX9_rescues 29 = .ok (.istore_n 2, 1) := by decide +kernel
theorem dX9_rescues_30 : decode cX9_rescues 30 = .ok (.iconst 0, 1) := by decide +kernel
theorem dX9_rescues_31 : decode cX9_rescues 31 = .ok (.istore_n 3, 1) := by decide +kernel
theorem dX9_rescues_32 : decode cX9_rescues 32 = .ok (.iload_n 3, 1) := by decide +kernel
theorem dX9_rescues_33 : decode cX9_rescues 33 = .ok (.aload_n 0, 1) := by decide +kernel
theorem dX9_rescues_34 : decode cX9_rescues 34 = .ok (.getfield 7, 3) := by decide +kernel
theorem dX9_rescues_37 : decode cX9_rescues 37 = .ok (.iconst 1, 1) := by decide +kernel
theorem dX9_rescues_38 : decode cX9_rescues 38 = .ok (.iaload, 1) := by decide +kernel
theorem dX9_rescues_39 : decode cX9_rescues 39 = .ok (.if_icmp .ge 18, 3) := by decide +kernel
theorem dX9_rescues_42 : decode cX9_rescues 42 = .ok (.iload_n 2, 1) := by decide +kernel
theorem dX9_rescues_43 : decode cX9_rescues 43 = .ok (.aload_n 0, 1) := by decide +kernel
theorem dX9_rescues_44 : decode cX9_rescues 44 = .ok (.iload_n 3, 1) := by decide +kernel
theorem dX9_rescues_45 : decode cX9_rescues 45 = .ok (.iconst 4, 1) := by decide +kernel
theorem dX9_rescues_46 : decode cX9_rescues 46 = .ok (.invokevirtual 75, 3) := by decide +kernel
theorem dX9_rescues_49 : decode cX9_rescues 49 = .ok (.iadd, 1) := by decide +kernel
theorem dX9_rescues_50 : decode cX9_rescues 50 = .ok (.istore_n 2, 1) := by decide +kernel
theorem dX9_rescues_51 : decode cX9_rescues 51 = .ok (.iinc 3 1, 3) := by decide +kernel
theorem dX9_rescues_54 : decode cX9_rescues 54 = .ok (.goto (-22), 3) := by decide +kernel
theorem dX9_rescues_57 : decode cX9_rescues 57 = .ok (.aload_n 0, 1) := by decide +kernel
theorem dX9_rescues_58 : decode cX9_rescues 58 = .ok (.iload_n 2, 1) := by decide +kernel
theorem dX9_rescues_59 : decode cX9_rescues 59 = .ok (.invokevirtual 88, 3) := by decide +kernel
theorem dX9_rescues_62 : decode cX9_rescues 62 = .ok (.ireturn, 1) := by decide +kernel
theorem dX9_ranked_0 : decode cX9_ranked 0 = .ok (.iconst 0, 1) := by decide +kernel
theorem dX9_ranked_1 : decode cX9_ranked 1 = .ok (.istore_n 2, 1) := by decide +kernel
theorem dX9_ranked_2 : decode cX9_ranked 2 = .ok (.iload_n 2, 1) := by decide +kernel
theorem dX9_ranked_3 : decode cX9_ranked 3 = .ok (.aload_n 0, 1) := by decide +kernel
theorem dX9_ranked_4 : decode cX9_ranked 4 = .ok (.getfield 7, 3) := by decide +kernel
theorem dX9_ranked_7 : decode cX9_ranked 7 = .ok (.iconst 1, 1) := by decide +kernel
theorem dX9_ranked_8 : decode cX9_ranked 8 = .ok (.iaload, 1) := by decide +kernel
theorem dX9_ranked_9 : decode cX9_ranked 9 = .ok (.if_icmp .ge 84, 3) := by decide +kernel
theorem dX9_ranked_12 : decode cX9_ranked 12 = .ok (.iconst 0, 1) := by decide +kernel
theorem dX9_ranked_13 : decode cX9_ranked 13 = .ok (.istore_n 3, 1) := by decide +kernel
theorem dX9_ranked_14 : decode cX9_ranked 14 = .ok (.iconst 0, 1) := by decide +kernel
theorem dX9_ranked_15 : decode cX9_ranked 15 = .ok (.istore 4, 2) := by decide +kernel
theorem dX9_ranked_17 : decode cX9_ranked 17 = .ok (.iload 4, 2) := by decide +kernel
theorem dX9_ranked_19 : decode cX9_ranked 19 = .ok (.aload_n 0, 1) := by decide +kernel
theorem dX9_ranked_20 : decode cX9_ranked 20 = .ok (.getfield 7, 3) := by decide +kernel
theorem dX9_ranked_23 : decode cX9_ranked 23 = .ok (.iconst 1, 1) := by decide +kernel
theorem dX9_ranked_24 : decode cX9_ranked 24 = .ok (.iaload, 1) := by decide +kernel
theorem dX9_ranked_25 : decode cX9_ranked 25 = .ok (.if_icmp .ge 55, 3) := by decide +kernel
theorem dX9_ranked_28 : decode cX9_ranked 28 = .ok (.iload_n 3, 1) := by decide +kernel
theorem dX9_ranked_29 : decode cX9_ranked 29 = .ok (.aload_n 0, 1) := by decide +kernel
theorem dX9_ranked_30 : decode cX9_ranked 30 = .ok (.iload 4, 2) := by decide +kernel
theorem dX9_ranked_32 : decode cX9_ranked 32 = .ok (.iconst 1, 1) := by decide +kernel
theorem dX9_ranked_33 : decode cX9_ranked 33 = .ok (.invokevirtual 75, 3) := by decide +kernel
theorem dX9_ranked_36 : decode cX9_ranked 36 = .ok (.aload_n 0, 1) := by decide +kernel
theorem dX9_ranked_37 : decode cX9_ranked 37 = .ok (.iload_n 2, 1) := by decide +kernel
theorem dX9_ranked_38 : decode cX9_ranked 38 = .ok (.iconst 1, 1) := by decide +kernel
theorem dX9_ranked_39 : decode cX9_ranked 39 = .ok (.invokevirtual 75, 3) := by decide +kernel
theorem dX9_ranked_42 : decode cX9_ranked 42 = .ok (.if_icmp .gt 25, 3) := by decide +kernel
theorem dX9_ranked_45 : decode cX9_ranked 45 = .ok (.aload_n 0, 1) := by decide +kernel
theorem dX9_ranked_46 : decode cX9_ranked 46 = .ok (.iload 4, 2) := by decide +kernel
theorem dX9_ranked_48 : decode cX9_ranked 48 = .ok (.iconst 1, 1) := by decide +kernel
theorem dX9_ranked_49 : decode cX9_ranked 49 = .ok (.invokevirtual 75, 3) := by decide +kernel
theorem dX9_ranked_52 : decode cX9_ranked 52 = .ok (.aload_n 0, 1) := by decide +kernel
theorem dX9_ranked_53 : decode cX9_ranked 53 = .ok (.iload_n 2, 1) := by decide +kernel
theorem dX9_ranked_54 : decode cX9_ranked 54 = .ok (.iconst 1, 1) := by decide +kernel
theorem dX9_ranked_55 : decode cX9_ranked 55 = .ok (.invokevirtual 75, 3) := by decide +kernel
theorem dX9_ranked_58 : decode cX9_ranked 58 = .ok (.if_icmp .ne 13, 3) := by decide +kernel
theorem dX9_ranked_61 : decode cX9_ranked 61 = .ok (.iload 4, 2) := by decide +kernel
theorem dX9_ranked_63 : decode cX9_ranked 63 = .ok (.iload_n 2, 1) := by decide +kernel
theorem dX9_ranked_64 : decode cX9_ranked 64 = .ok (.if_icmp .ge 7, 3) := by decide +kernel
theorem dX9_ranked_67 : decode cX9_ranked 67 = .ok (.iconst 1, 1) := by decide +kernel
theorem dX9_ranked_68 : decode cX9_ranked 68 = .ok (.goto 4, 3) := by decide +kernel
theorem dX9_ranked_71 : decode cX9_ranked 71 = .ok (.iconst 0, 1) := by decide +kernel
theorem dX9_ranked_72 : decode cX9_ranked 72 = .ok (.iadd, 1) := by decide +kernel
theorem dX9_ranked_73 : decode cX9_ranked 73 = .ok (.istore_n 3, 1) := by decide +kernel
theorem dX9_ranked_74 : decode cX9_ranked 74 = .ok (.iinc 4 1, 3) := by decide +kernel
theorem dX9_ranked_77 : decode cX9_ranked 77 = .ok (.goto (-60), 3) := by decide +kernel
theorem dX9_ranked_80 : decode cX9_ranked 80 = .ok (.iload_n 3, 1) := by decide +kernel
theorem dX9_ranked_81 : decode cX9_ranked 81 = .ok (.iload_n 1, 1) := by decide +kernel
theorem dX9_ranked_82 : decode cX9_ranked 82 = .ok (.if_icmp .ne 5, 3) := by decide +kernel
theorem dX9_ranked_85 : decode cX9_ranked 85 = .ok (.iload_n 2, 1) := by decide +kernel
theorem dX9_ranked_86 : decode cX9_ranked 86 = .ok (.ireturn, 1) := by decide +kernel
theorem dX9_ranked_87 : decode cX9_ranked 87 = .ok (.iinc 2 1, 3) := by decide +kernel
theorem dX9_ranked_90 : decode cX9_ranked 90 = .ok (.goto (-88), 3) := by decide +kernel
theorem dX9_ranked_93 : decode cX9_ranked 93 = .ok (.iconst (-1), 1) := by decide +kernel
theorem dX9_ranked_94 : decode cX9_ranked 94 = .ok (.ireturn, 1) := by decide +kernel
theorem dX9_acts_0 : decode cX9_acts 0 = .ok (.aload_n 0, 1) := by decide +kernel
theorem dX9_acts_1 : decode cX9_acts 1 = .ok (.iload_n 1, 1) := by decide +kernel
theorem dX9_acts_2 : decode cX9_acts 2 = .ok (.iconst 4, 1) := by decide +kernel
theorem dX9_acts_3 : decode cX9_acts 3 = .ok (.invokevirtual 75, 3) := by decide +kernel
theorem dX9_acts_6 : decode cX9_acts 6 = .ok (.iconst 1, 1) := by decide +kernel
theorem dX9_acts_7 : decode cX9_acts 7 = .ok (.if_icmp .ne 5, 3) := by decide +kernel
theorem dX9_acts_10 : decode cX9_acts 10 = .ok (.iconst 0, 1) := by decide +kernel
theorem dX9_acts_11 : decode cX9_acts 11 = .ok (.ireturn, 1) := by decide +kernel
theorem dX9_acts_12 : decode cX9_acts 12 = .ok (.aload_n 0, 1) := by decide +kernel
theorem dX9_acts_13 : decode cX9_acts 13 = .ok (.iload_n 1, 1) := by decide +kernel
theorem dX9_acts_14 : decode cX9_acts 14 = .ok (.iconst 2, 1) := by decide +kernel
theorem dX9_acts_15 : decode cX9_acts 15 = .ok (.invokevirtual 75, 3) := by decide +kernel
theorem dX9_acts_18 : decode cX9_acts 18 = .ok (.ifCond .le 19, 3) := by decide +kernel
theorem dX9_acts_21 : decode cX9_acts 21 = .ok (.aload_n 0, 1) := by decide +kernel
theorem dX9_acts_22 : decode cX9_acts 22 = .ok (.iload_n 1, 1) := by decide +kernel
theorem dX9_acts_23 : decode cX9_acts 23 = .ok (.iconst 2, 1) := by decide +kernel
theorem dX9_acts_24 : decode cX9_acts 24 = .ok (.aload_n 0, 1) := by decide +kernel
theorem dX9_acts_25 : decode cX9_acts 25 = .ok (.iload_n 1, 1) := by decide +kernel
theorem dX9_acts_26 : decode cX9_acts 26 = .ok (.iconst 2, 1) := by decide +kernel
theorem dX9_acts_27 : decode cX9_acts 27 = .ok (.invokevirtual 75, 3) := by decide +kernel
theorem dX9_acts_30 : decode cX9_acts 30 = .ok (.iconst 1, 1) := by decide +kernel
theorem dX9_acts_31 : decode cX9_acts 31 = .ok (.isub, 1) := by decide +kernel
theorem dX9_acts_32 : decode cX9_acts 32 = .ok (.invokevirtual 105, 3) := by decide +kernel
theorem dX9_acts_35 : decode cX9_acts 35 = .ok (.iconst 0, 1) := by decide +kernel
theorem dX9_acts_36 : decode cX9_acts 36 = .ok (.ireturn, 1) := by decide +kernel
theorem dX9_acts_37 : decode cX9_acts 37 = .ok (.aload_n 0, 1) := by decide +kernel
theorem dX9_acts_38 : decode cX9_acts 38 = .ok (.iload_n 1, 1) := by decide +kernel
theorem dX9_acts_39 : decode cX9_acts 39 = .ok (.invokevirtual 115, 3) := by decide +kernel
theorem dX9_acts_42 : decode cX9_acts 42 = .ok (.istore_n 2, 1) := by decide +kernel
theorem dX9_acts_43 : decode cX9_acts 43 = .ok (.iload_n 2, 1) := by decide +kernel
theorem dX9_acts_44 : decode cX9_acts 44 = .ok (.iconst (-1), 1) := by decide +kernel
theorem dX9_acts_45 : decode cX9_acts 45 = .ok (.if_icmp .ne 5, 3) := by decide +kernel
theorem dX9_acts_48 : decode cX9_acts 48 = .ok (.iconst 0, 1) := by decide +kernel
theorem dX9_acts_49 : decode cX9_acts 49 = .ok (.ireturn, 1) := by decide +kernel
theorem dX9_acts_50 : decode cX9_acts 50 = .ok (.aload_n 0, 1) := by decide +kernel
theorem dX9_acts_51 : decode cX9_acts 51 = .ok (.iload_n 2, 1) := by decide +kernel
theorem dX9_acts_52 : decode cX9_acts 52 = .ok (.invokevirtual 99, 3) := by decide +kernel
theorem dX9_acts_55 : decode cX9_acts 55 = .ok (.iconst (-1), 1) := by decide +kernel
theorem dX9_acts_56 : decode cX9_acts 56 = .ok (.if_icmp .ne 21, 3) := by decide +kernel
theorem dX9_acts_59 : decode cX9_acts 59 = .ok (.aload_n 0, 1) := by decide +kernel
theorem dX9_acts_60 : decode cX9_acts 60 = .ok (.iload_n 2, 1) := by decide +kernel
theorem dX9_acts_61 : decode cX9_acts 61 = .ok (.invokevirtual 78, 3) := by decide +kernel
theorem dX9_acts_64 : decode cX9_acts 64 = .ok (.iconst (-1), 1) := by decide +kernel
theorem dX9_acts_65 : decode cX9_acts 65 = .ok (.if_icmp .eq 28, 3) := by decide +kernel
theorem dX9_acts_68 : decode cX9_acts 68 = .ok (.aload_n 0, 1) := by decide +kernel
theorem dX9_acts_69 : decode cX9_acts 69 = .ok (.iload_n 2, 1) := by decide +kernel
theorem dX9_acts_70 : decode cX9_acts 70 = .ok (.invokevirtual 78, 3) := by decide +kernel
theorem dX9_acts_73 : decode cX9_acts 73 = .ok (.iload_n 1, 1) := by decide +kernel
theorem dX9_acts_74 : decode cX9_acts 74 = .ok (.if_icmp .eq 19, 3) := by decide +kernel
theorem dX9_acts_77 : decode cX9_acts 77 = .ok (.aload_n 0, 1) := by decide +kernel
theorem dX9_acts_78 : decode cX9_acts 78 = .ok (.iload_n 1, 1) := by decide +kernel
theorem dX9_acts_79 : decode cX9_acts 79 = .ok (.iconst 5, 1) := by decide +kernel
theorem dX9_acts_80 : decode cX9_acts 80 = .ok (.aload_n 0, 1) := by decide +kernel
theorem dX9_acts_81 : decode cX9_acts 81 = .ok (.iload_n 1, 1) := by decide +kernel
theorem dX9_acts_82 : decode cX9_acts 82 = .ok (.iconst 5, 1) := by decide +kernel
theorem dX9_acts_83 : decode cX9_acts 83 = .ok (.invokevirtual 75, 3) := by decide +kernel
theorem dX9_acts_86 : decode cX9_acts 86 = .ok (.iconst 1, 1) := by decide +kernel
theorem dX9_acts_87 : decode cX9_acts 87 = .ok (.iadd, 1) := by decide +kernel
theorem dX9_acts_88 : decode cX9_acts 88 = .ok (.invokevirtual 105, 3) := by decide +kernel
theorem dX9_acts_91 : decode cX9_acts 91 = .ok (.iconst 0, 1) := by decide +kernel
theorem dX9_acts_92 : decode cX9_acts 92 = .ok (.ireturn, 1) := by decide +kernel
theorem dX9_acts_93 : decode cX9_acts 93 = .ok (.aload_n 0, 1) := by decide +kernel
theorem dX9_acts_94 : decode cX9_acts 94 = .ok (.iload_n 1, 1) := by decide +kernel
theorem dX9_acts_95 : decode cX9_acts 95 = .ok (.invokevirtual 112, 3) := by decide +kernel
theorem dX9_acts_98 : decode cX9_acts 98 = .ok (.istore_n 3, 1) := by decide +kernel
theorem dX9_acts_99 : decode cX9_acts 99 = .ok (.iload_n 3, 1) := by decide +kernel
theorem dX9_acts_100 : decode cX9_acts 100 = .ok (.iconst (-1), 1) := by decide +kernel
theorem dX9_acts_101 : decode cX9_acts 101 = .ok (.if_icmp .eq 16, 3) := by decide +kernel
theorem dX9_acts_104 : decode cX9_acts 104 = .ok (.aload_n 0, 1) := by decide +kernel
theorem dX9_acts_105 : decode cX9_acts 105 = .ok (.getfield 7, 3) := by decide +kernel
theorem dX9_acts_108 : decode cX9_acts 108 = .ok (.iconst 4, 1) := by decide +kernel
theorem dX9_acts_109 : decode cX9_acts 109 = .ok (.iconst 4, 1) := by decide +kernel
theorem dX9_acts_110 : decode cX9_acts 110 = .ok (.iload_n 3, 1) := by decide +kernel
theorem dX9_acts_111 : decode cX9_acts 111 = .ok (.imul, 1) := by decide +kernel
theorem dX9_acts_112 : decode cX9_acts 112 = .ok (.iadd, 1) := by decide +kernel
theorem dX9_acts_113 : decode cX9_acts 113 = .ok (.iconst 3, 1) := by decide +kernel
theorem dX9_acts_114 : decode cX9_acts 114 = .ok (.iadd, 1) := by decide +kernel
theorem dX9_acts_115 : decode cX9_acts 115 = .ok (.iconst 0, 1) := by decide +kernel
theorem dX9_acts_116 : decode cX9_acts 116 = .ok (.iastore, 1) := by decide +kernel
theorem dX9_acts_117 : decode cX9_acts 117 = .ok (.aload_n 0, 1) := by decide +kernel
theorem dX9_acts_118 : decode cX9_acts 118 = .ok (.iload_n 1, 1) := by decide +kernel
theorem dX9_acts_119 : decode cX9_acts 119 = .ok (.iconst 0, 1) := by decide +kernel
theorem dX9_acts_120 : decode cX9_acts 120 = .ok (.iload_n 2, 1) := by decide +kernel
theorem dX9_acts_121 : decode cX9_acts 121 = .ok (.invokevirtual 105, 3) := by decide +kernel
theorem dX9_acts_124 : decode cX9_acts 124 = .ok (.aload_n 0, 1) := by decide +kernel
theorem dX9_acts_125 : decode cX9_acts 125 = .ok (.iload_n 1, 1) := by decide +kernel
theorem dX9_acts_126 : decode cX9_acts 126 = .ok (.iconst 2, 1) := by decide +kernel
theorem dX9_acts_127 : decode cX9_acts 127 = .ok (.aload_n 0, 1) := by decide +kernel
theorem dX9_acts_128 : decode cX9_acts 128 = .ok (.iload_n 2, 1) := by decide +kernel
theorem dX9_acts_129 : decode cX9_acts 129 = .ok (.iconst 0, 1) := by decide +kernel
theorem dX9_acts_130 : decode cX9_acts 130 = .ok (.invokevirtual 71, 3) := by decide +kernel
theorem dX9_acts_133 : decode cX9_acts 133 = .ok (.invokevirtual 105, 3) := by decide +kernel
theorem dX9_acts_136 : decode cX9_acts 136 = .ok (.aload_n 0, 1) := by decide +kernel
theorem dX9_acts_137 : decode cX9_acts 137 = .ok (.iload_n 2, 1) := by decide +kernel
theorem dX9_acts_138 : decode cX9_acts 138 = .ok (.iconst 2, 1) := by decide +kernel
theorem dX9_acts_139 : decode cX9_acts 139 = .ok (.invokevirtual 71, 3) := by decide +kernel
theorem dX9_acts_142 : decode cX9_acts 142 = .ok (.iconst 1, 1) := by decide +kernel
theorem dX9_acts_143 : decode cX9_acts 143 = .ok (.if_icmp .ne 23, 3) := by decide +kernel
theorem dX9_acts_146 : decode cX9_acts 146 = .ok (.aload_n 0, 1) := by decide +kernel
theorem dX9_acts_147 : decode cX9_acts 147 = .ok (.iload_n 1, 1) := by decide +kernel
theorem dX9_acts_148 : decode cX9_acts 148 = .ok (.iconst 4, 1) := by decide +kernel
theorem dX9_acts_149 : decode cX9_acts 149 = .ok (.iconst 1, 1) := by decide +kernel
theorem dX9_acts_150 : decode cX9_acts 150 = .ok (.invokevirtual 105, 3) := by decide +kernel
theorem dX9_acts_153 : decode cX9_acts 153 = .ok (.aload_n 0, 1) := by decide +kernel
theorem dX9_acts_154 : decode cX9_acts 154 = .ok (.getfield 7, 3) := by decide +kernel
theorem dX9_acts_157 : decode cX9_acts 157 = .ok (.iconst 4, 1) := by decide +kernel
theorem dX9_acts_158 : decode cX9_acts 158 = .ok (.iconst 4, 1) := by decide +kernel
theorem dX9_acts_159 : decode cX9_acts 159 = .ok (.iload_n 2, 1) := by decide +kernel
theorem dX9_acts_160 : decode cX9_acts 160 = .ok (.imul, 1) := by decide +kernel
theorem dX9_acts_161 : decode cX9_acts 161 = .ok (.iadd, 1) := by decide +kernel
theorem dX9_acts_162 : decode cX9_acts 162 = .ok (.iconst 2, 1) := by decide +kernel
theorem dX9_acts_163 : decode cX9_acts 163 = .ok (.iadd, 1) := by decide +kernel
theorem dX9_acts_164 : decode cX9_acts 164 = .ok (.iconst 0, 1) := by decide +kernel
theorem dX9_acts_165 : decode cX9_acts 165 = .ok (.iastore, 1) := by decide +kernel
theorem dX9_acts_166 : decode cX9_acts 166 = .ok (.aload_n 0, 1) := by decide +kernel
theorem dX9_acts_167 : decode cX9_acts 167 = .ok (.iload_n 1, 1) := by decide +kernel
theorem dX9_acts_168 : decode cX9_acts 168 = .ok (.invokevirtual 81, 3) := by decide +kernel
theorem dX9_acts_171 : decode cX9_acts 171 = .ok (.iload_n 2, 1) := by decide +kernel
theorem dX9_acts_172 : decode cX9_acts 172 = .ok (.if_icmp .eq 5, 3) := by decide +kernel
theorem dX9_acts_175 : decode cX9_acts 175 = .ok (.iconst 0, 1) := by decide +kernel
theorem dX9_acts_176 : decode cX9_acts 176 = .ok (.ireturn, 1) := by decide +kernel
theorem dX9_acts_177 : decode cX9_acts 177 = .ok (.aload_n 0, 1) := by decide +kernel
theorem dX9_acts_178 : decode cX9_acts 178 = .ok (.iload_n 1, 1) := by decide +kernel
theorem dX9_acts_179 : decode cX9_acts 179 = .ok (.iconst 3, 1) := by decide +kernel
theorem dX9_acts_180 : decode cX9_acts 180 = .ok (.iconst 0, 1) := by decide +kernel
theorem dX9_acts_181 : decode cX9_acts 181 = .ok (.invokevirtual 105, 3) := by decide +kernel
theorem dX9_acts_184 : decode cX9_acts 184 = .ok (.aload_n 0, 1) := by decide +kernel
theorem dX9_acts_185 : decode cX9_acts 185 = .ok (.getfield 7, 3) := by decide +kernel
theorem dX9_acts_188 : decode cX9_acts 188 = .ok (.iconst 3, 1) := by decide +kernel
theorem dX9_acts_189 : decode cX9_acts 189 = .ok (.dup2, 1) := by decide +kernel
theorem dX9_acts_190 : decode cX9_acts 190 = .ok (.iaload, 1) := by decide +kernel
theorem dX9_acts_191 : decode cX9_acts 191 = .ok (.iconst 1, 1) := by decide +kernel
theorem dX9_acts_192 : decode cX9_acts 192 = .ok (.iadd, 1) := by decide +kernel
theorem dX9_acts_193 : decode cX9_acts 193 = .ok (.iastore, 1) := by decide +kernel
theorem dX9_acts_194 : decode cX9_acts 194 = .ok (.iconst 1, 1) := by decide +kernel
theorem dX9_acts_195 : decode cX9_acts 195 = .ok (.ireturn, 1) := by decide +kernel
theorem dX9_oneTick_0 : decode cX9_oneTick 0 = .ok (.iconst 0, 1) := by decide +kernel
theorem dX9_oneTick_1 : decode cX9_oneTick 1 = .ok (.istore_n 1, 1) := by decide +kernel
theorem dX9_oneTick_2 : decode cX9_oneTick 2 = .ok (.iconst 0, 1) := by decide +kernel
theorem dX9_oneTick_3 : decode cX9_oneTick 3 = .ok (.istore_n 2, 1) := by decide +kernel
theorem dX9_oneTick_4 : decode cX9_oneTick 4 = .ok (.iload_n 2, 1) := by decide +kernel
theorem dX9_oneTick_5 : decode cX9_oneTick 5 = .ok (.aload_n 0, 1) := by decide +kernel
theorem dX9_oneTick_6 : decode cX9_oneTick 6 = .ok (.getfield 7, 3) := by decide +kernel
theorem dX9_oneTick_9 : decode cX9_oneTick 9 = .ok (.iconst 1, 1) := by decide +kernel
theorem dX9_oneTick_10 : decode cX9_oneTick 10 = .ok (.iaload, 1) := by decide +kernel
theorem dX9_oneTick_11 : decode cX9_oneTick 11 = .ok (.if_icmp .ge 29, 3) := by decide +kernel
theorem dX9_oneTick_14 : decode cX9_oneTick 14 = .ok (.aload_n 0, 1) := by decide +kernel
theorem dX9_oneTick_15 : decode cX9_oneTick 15 = .ok (.iload_n 2, 1) := by decide +kernel
theorem dX9_oneTick_16 : decode cX9_oneTick 16 = .ok (.invokevirtual 118, 3) := by decide +kernel
theorem dX9_oneTick_19 : decode cX9_oneTick 19 = .ok (.istore_n 3, 1) := by decide +kernel
theorem dX9_oneTick_20 : decode cX9_oneTick 20 = .ok (.aload_n 0, 1) := by decide +kernel
theorem dX9_oneTick_21 : decode cX9_oneTick 21 = .ok (.iload_n 3, 1) := by decide +kernel
theorem dX9_oneTick_22 : decode cX9_oneTick 22 = .ok (.invokevirtual 121, 3) := by decide +kernel
theorem dX9_oneTick_25 : decode cX9_oneTick 25 = .ok (.ifCond .eq 9, 3) := by decide +kernel
theorem dX9_oneTick_28 : decode cX9_oneTick 28 = .ok (.iload_n 1, 1) := by decide +kernel
theorem dX9_oneTick_29 : decode cX9_oneTick 29 = .ok (.iconst 1, 1) := by decide +kernel
theorem dX9_oneTick_30 : decode cX9_oneTick 30 = .ok (.iload_n 3, 1) := by decide +kernel
theorem dX9_oneTick_31 : decode cX9_oneTick 31 = .ok (.ishl, 1) := by decide +kernel
theorem dX9_oneTick_32 : decode cX9_oneTick 32 = .ok (.ior, 1) := by decide +kernel
theorem dX9_oneTick_33 : decode cX9_oneTick 33 = .ok (.istore_n 1, 1) := by decide +kernel
theorem dX9_oneTick_34 : decode cX9_oneTick 34 = .ok (.iinc 2 1, 3) := by decide +kernel
theorem dX9_oneTick_37 : decode cX9_oneTick 37 = .ok (.goto (-33), 3) := by decide +kernel
theorem dX9_oneTick_40 : decode cX9_oneTick 40 = .ok (.aload_n 0, 1) := by decide +kernel
theorem dX9_oneTick_41 : decode cX9_oneTick 41 = .ok (.getfield 7, 3) := by decide +kernel
theorem dX9_oneTick_44 : decode cX9_oneTick 44 = .ok (.iconst 2, 1) := by decide +kernel
theorem dX9_oneTick_45 : decode cX9_oneTick 45 = .ok (.dup2, 1) := by decide +kernel
theorem dX9_oneTick_46 : decode cX9_oneTick 46 = .ok (.iaload, 1) := by decide +kernel
theorem dX9_oneTick_47 : decode cX9_oneTick 47 = .ok (.iconst 1, 1) := by decide +kernel
theorem dX9_oneTick_48 : decode cX9_oneTick 48 = .ok (.iadd, 1) := by decide +kernel
theorem dX9_oneTick_49 : decode cX9_oneTick 49 = .ok (.iastore, 1) := by decide +kernel
theorem dX9_oneTick_50 : decode cX9_oneTick 50 = .ok (.iload_n 1, 1) := by decide +kernel
theorem dX9_oneTick_51 : decode cX9_oneTick 51 = .ok (.ireturn, 1) := by decide +kernel
theorem dX9_passes_0 : decode cX9_passes 0 = .ok (.iload_n 1, 1) := by decide +kernel
theorem dX9_passes_1 : decode cX9_passes 1 = .ok (.iconst 1, 1) := by decide +kernel
theorem dX9_passes_2 : decode cX9_passes 2 = .ok (.bipush 50, 2) := by decide +kernel
theorem dX9_passes_4 : decode cX9_passes 4 = .ok (.invokestatic 63, 3) := by decide +kernel
theorem dX9_passes_7 : decode cX9_passes 7 = .ok (.ifCond .ne 5, 3) := by decide +kernel
theorem dX9_passes_10 : decode cX9_passes 10 = .ok (.iconst 1, 1) := by decide +kernel
theorem dX9_passes_11 : decode cX9_passes 11 = .ok (.ireturn, 1) := by decide +kernel
theorem dX9_passes_12 : decode cX9_passes 12 = .ok (.aload_n 0, 1) := by decide +kernel
theorem dX9_passes_13 : decode cX9_passes 13 = .ok (.getfield 7, 3) := by decide +kernel
theorem dX9_passes_16 : decode cX9_passes 16 = .ok (.iconst 3, 1) := by decide +kernel
theorem dX9_passes_17 : decode cX9_passes 17 = .ok (.iaload, 1) := by decide +kernel
theorem dX9_passes_18 : decode cX9_passes 18 = .ok (.istore_n 2, 1) := by decide +kernel
theorem dX9_passes_19 : decode cX9_passes 19 = .ok (.iconst 0, 1) := by decide +kernel
theorem dX9_passes_20 : decode cX9_passes 20 = .ok (.istore_n 3, 1) := by decide +kernel
theorem dX9_passes_21 : decode cX9_passes 21 = .ok (.iconst 0, 1) := by decide +kernel
theorem dX9_passes_22 : decode cX9_passes 22 = .ok (.istore 4, 2) := by decide +kernel
theorem dX9_passes_24 : decode cX9_passes 24 = .ok (.iload 4, 2) := by decide +kernel
theorem dX9_passes_26 : decode cX9_passes 26 = .ok (.iload_n 1, 1) := by decide +kernel
theorem dX9_passes_27 : decode cX9_passes 27 = .ok (.if_icmp .ge 14, 3) := by decide +kernel
theorem dX9_passes_30 : decode cX9_passes 30 = .ok (.aload_n 0, 1) := by decide +kernel
theorem dX9_passes_31 : decode cX9_passes 31 = .ok (.invokevirtual 124, 3) := by decide +kernel
theorem dX9_passes_34 : decode cX9_passes 34 = .ok (.istore_n 3, 1) := by decide +kernel
theorem dX9_passes_35 : decode cX9_passes 35 = .ok (.iinc 4 1, 3) := by decide +kernel
theorem dX9_passes_38 : decode cX9_passes 38 = .ok (.goto (-14), 3) := by decide +kernel
theorem dX9_passes_41 : decode cX9_passes 41 = .ok (.aload_n 0, 1) := by decide +kernel
theorem dX9_passes_42 : decode cX9_passes 42 = .ok (.aload_n 0, 1) := by decide +kernel
theorem dX9_passes_43 : decode cX9_passes 43 = .ok (.getfield 7, 3) := by decide +kernel
theorem dX9_passes_46 : decode cX9_passes 46 = .ok (.iconst 3, 1) := by decide +kernel
theorem dX9_passes_47 : decode cX9_passes 47 = .ok (.iaload, 1) := by decide +kernel
theorem dX9_passes_48 : decode cX9_passes 48 = .ok (.iload_n 2, 1) := by decide +kernel
theorem dX9_passes_49 : decode cX9_passes 49 = .ok (.isub, 1) := by decide +kernel
theorem dX9_passes_50 : decode cX9_passes 50 = .ok (.invokevirtual 88, 3) := by decide +kernel
theorem dX9_passes_53 : decode cX9_passes 53 = .ok (.ireturn, 1) := by decide +kernel
theorem dX9_addBlock_0 : decode cX9_addBlock 0 = .ok (.aload_n 0, 1) := by decide +kernel
theorem dX9_addBlock_1 : decode cX9_addBlock 1 = .ok (.invokevirtual 127, 3) := by decide +kernel
theorem dX9_addBlock_4 : decode cX9_addBlock 4 = .ok (.aload_n 0, 1) := by decide +kernel
theorem dX9_addBlock_5 : decode cX9_addBlock 5 = .ok (.aload_n 0, 1) := by decide +kernel
theorem dX9_addBlock_6 : decode cX9_addBlock 6 = .ok (.iload_n 1, 1) := by decide +kernel
theorem dX9_addBlock_7 : decode cX9_addBlock 7 = .ok (.iconst 0, 1) := by decide +kernel
theorem dX9_addBlock_8 : decode cX9_addBlock 8 = .ok (.invokevirtual 130, 3) := by decide +kernel
theorem dX9_addBlock_11 : decode cX9_addBlock 11 = .ok (.invokevirtual 133, 3) := by decide +kernel
theorem dX9_addBlock_14 : decode cX9_addBlock 14 = .ok (.ireturn, 1) := by decide +kernel
theorem dX9_addCushion_0 : decode cX9_addCushion 0 = .ok (.aload_n 0, 1) := by decide +kernel
theorem dX9_addCushion_1 : decode cX9_addCushion 1 = .ok (.invokevirtual 127, 3) := by decide +kernel
theorem dX9_addCushion_4 : decode cX9_addCushion 4 = .ok (.aload_n 0, 1) := by decide +kernel
theorem dX9_addCushion_5 : decode cX9_addCushion 5 = .ok (.aload_n 0, 1) := by decide +kernel
theorem dX9_addCushion_6 : decode cX9_addCushion 6 = .ok (.iload_n 1, 1) := by decide +kernel
theorem dX9_addCushion_7 : decode cX9_addCushion 7 = .ok (.iconst 1, 1) := by decide +kernel
theorem dX9_addCushion_8 : decode cX9_addCushion 8 = .ok (.invokevirtual 130, 3) := by decide +kernel
theorem dX9_addCushion_11 : decode cX9_addCushion 11 = .ok (.invokevirtual 133, 3) := by decide +kernel
theorem dX9_addCushion_14 : decode cX9_addCushion 14 = .ok (.ireturn, 1) := by decide +kernel
theorem dX9_link_0 : decode cX9_link 0 = .ok (.aload_n 0, 1) := by decide +kernel
theorem dX9_link_1 : decode cX9_link 1 = .ok (.invokevirtual 127, 3) := by decide +kernel
theorem dX9_link_4 : decode cX9_link 4 = .ok (.aload_n 0, 1) := by decide +kernel
theorem dX9_link_5 : decode cX9_link 5 = .ok (.aload_n 0, 1) := by decide +kernel
theorem dX9_link_6 : decode cX9_link 6 = .ok (.iload_n 1, 1) := by decide +kernel
theorem dX9_link_7 : decode cX9_link 7 = .ok (.iload_n 2, 1) := by decide +kernel
theorem dX9_link_8 : decode cX9_link 8 = .ok (.invokevirtual 136, 3) := by decide +kernel
theorem dX9_link_11 : decode cX9_link 11 = .ok (.invokevirtual 133, 3) := by decide +kernel
theorem dX9_link_14 : decode cX9_link 14 = .ok (.ireturn, 1) := by decide +kernel
theorem dX9_unlink_0 : decode cX9_unlink 0 = .ok (.aload_n 0, 1) := by decide +kernel
theorem dX9_unlink_1 : decode cX9_unlink 1 = .ok (.invokevirtual 127, 3) := by decide +kernel
theorem dX9_unlink_4 : decode cX9_unlink 4 = .ok (.aload_n 0, 1) := by decide +kernel
theorem dX9_unlink_5 : decode cX9_unlink 5 = .ok (.aload_n 0, 1) := by decide +kernel
theorem dX9_unlink_6 : decode cX9_unlink 6 = .ok (.iload_n 1, 1) := by decide +kernel
theorem dX9_unlink_7 : decode cX9_unlink 7 = .ok (.iload_n 2, 1) := by decide +kernel
theorem dX9_unlink_8 : decode cX9_unlink 8 = .ok (.invokevirtual 139, 3) := by decide +kernel
theorem dX9_unlink_11 : decode cX9_unlink 11 = .ok (.invokevirtual 133, 3) := by decide +kernel
theorem dX9_unlink_14 : decode cX9_unlink 14 = .ok (.ireturn, 1) := by decide +kernel
theorem dX9_putCat_0 : decode cX9_putCat 0 = .ok (.aload_n 0, 1) := by decide +kernel
theorem dX9_putCat_1 : decode cX9_putCat 1 = .ok (.invokevirtual 127, 3) := by decide +kernel
theorem dX9_putCat_4 : decode cX9_putCat 4 = .ok (.aload_n 0, 1) := by decide +kernel
theorem dX9_putCat_5 : decode cX9_putCat 5 = .ok (.aload_n 0, 1) := by decide +kernel
theorem dX9_putCat_6 : decode cX9_putCat 6 = .ok (.iload_n 1, 1) := by decide +kernel
theorem dX9_putCat_7 : decode cX9_putCat 7 = .ok (.invokevirtual 142, 3) := by decide +kernel
theorem dX9_putCat_10 : decode cX9_putCat 10 = .ok (.invokevirtual 133, 3) := by decide +kernel
theorem dX9_putCat_13 : decode cX9_putCat 13 = .ok (.ireturn, 1) := by decide +kernel
theorem dX9_removeCat_0 : decode cX9_removeCat 0 = .ok (.aload_n 0, 1) := by decide +kernel
theorem dX9_removeCat_1 : decode cX9_removeCat 1 = .ok (.invokevirtual 127, 3) := by decide +kernel
theorem dX9_removeCat_4 : decode cX9_removeCat 4 = .ok (.aload_n 0, 1) := by decide +kernel
theorem dX9_removeCat_5 : decode cX9_removeCat 5 = .ok (.aload_n 0, 1) := by decide +kernel
theorem dX9_removeCat_6 : decode cX9_removeCat 6 = .ok (.iload_n 1, 1) := by decide +kernel
theorem dX9_removeCat_7 : decode cX9_removeCat 7 = .ok (.invokevirtual 145, 3) := by decide +kernel
theorem dX9_removeCat_10 : decode cX9_removeCat 10 = .ok (.invokevirtual 133, 3) := by decide +kernel
theorem dX9_removeCat_13 : decode cX9_removeCat 13 = .ok (.ireturn, 1) := by decide +kernel
theorem dX9_blockCount_0 : decode cX9_blockCount 0 = .ok (.aload_n 0, 1) := by decide +kernel
theorem dX9_blockCount_1 : decode cX9_blockCount 1 = .ok (.iconst 0, 1) := by decide +kernel
theorem dX9_blockCount_2 : decode cX9_blockCount 2 = .ok (.putfield 47, 3) := by decide +kernel
theorem dX9_blockCount_5 : decode cX9_blockCount 5 = .ok (.aload_n 0, 1) := by decide +kernel
theorem dX9_blockCount_6 : decode cX9_blockCount 6 = .ok (.getfield 7, 3) := by decide +kernel
theorem dX9_blockCount_9 : decode cX9_blockCount 9 = .ok (.iconst 0, 1) := by decide +kernel
theorem dX9_blockCount_10 : decode cX9_blockCount 10 = .ok (.iaload, 1) := by decide +kernel
theorem dX9_blockCount_11 : decode cX9_blockCount 11 = .ok (.ireturn, 1) := by decide +kernel
theorem dX9_askedBlock_0 : decode cX9_askedBlock 0 = .ok (.aload_n 0, 1) := by decide +kernel
theorem dX9_askedBlock_1 : decode cX9_askedBlock 1 = .ok (.aload_n 0, 1) := by decide +kernel
theorem dX9_askedBlock_2 : decode cX9_askedBlock 2 = .ok (.iload_n 1, 1) := by decide +kernel
theorem dX9_askedBlock_3 : decode cX9_askedBlock 3 = .ok (.invokevirtual 91, 3) := by decide +kernel
theorem dX9_askedBlock_6 : decode cX9_askedBlock 6 = .ok (.ifCond .eq 7, 3) := by decide +kernel
theorem dX9_askedBlock_9 : decode cX9_askedBlock 9 = .ok (.iconst 0, 1) := by decide +kernel
theorem dX9_askedBlock_10 : decode cX9_askedBlock 10 = .ok (.goto 4, 3) := by decide +kernel
theorem dX9_askedBlock_13 : decode cX9_askedBlock 13 = .ok (.iconst 1, 1) := by decide +kernel
theorem dX9_askedBlock_14 : decode cX9_askedBlock 14 = .ok (.putfield 47, 3) := by decide +kernel
theorem dX9_askedBlock_17 : decode cX9_askedBlock 17 = .ok (.aload_n 0, 1) := by decide +kernel
theorem dX9_askedBlock_18 : decode cX9_askedBlock 18 = .ok (.getfield 47, 3) := by decide +kernel
theorem dX9_askedBlock_21 : decode cX9_askedBlock 21 = .ok (.ifCond .le 7, 3) := by decide +kernel
theorem dX9_askedBlock_24 : decode cX9_askedBlock 24 = .ok (.iconst 0, 1) := by decide +kernel
theorem dX9_askedBlock_25 : decode cX9_askedBlock 25 = .ok (.goto 9, 3) := by decide +kernel
theorem dX9_askedBlock_28 : decode cX9_askedBlock 28 = .ok (.aload_n 0, 1) := by decide +kernel
theorem dX9_askedBlock_29 : decode cX9_askedBlock 29 = .ok (.iload_n 1, 1) := by decide +kernel
theorem dX9_askedBlock_30 : decode cX9_askedBlock 30 = .ok (.iload_n 2, 1) := by decide +kernel
theorem dX9_askedBlock_31 : decode cX9_askedBlock 31 = .ok (.invokevirtual 71, 3) := by decide +kernel
theorem dX9_askedBlock_34 : decode cX9_askedBlock 34 = .ok (.ireturn, 1) := by decide +kernel
theorem dX9_length_0 : decode cX9_length 0 = .ok (.aload_n 0, 1) := by decide +kernel
theorem dX9_length_1 : decode cX9_length 1 = .ok (.iload_n 1, 1) := by decide +kernel
theorem dX9_length_2 : decode cX9_length 2 = .ok (.iconst 0, 1) := by decide +kernel
theorem dX9_length_3 : decode cX9_length 3 = .ok (.invokevirtual 148, 3) := by decide +kernel
theorem dX9_length_6 : decode cX9_length 6 = .ok (.ireturn, 1) := by decide +kernel
theorem dX9_isCushion_0 : decode cX9_isCushion 0 = .ok (.aload_n 0, 1) := by decide +kernel
theorem dX9_isCushion_1 : decode cX9_isCushion 1 = .ok (.iload_n 1, 1) := by decide +kernel
theorem dX9_isCushion_2 : decode cX9_isCushion 2 = .ok (.iconst 1, 1) := by decide +kernel
theorem dX9_isCushion_3 : decode cX9_isCushion 3 = .ok (.invokevirtual 148, 3) := by decide +kernel
theorem dX9_isCushion_6 : decode cX9_isCushion 6 = .ok (.iconst 1, 1) := by decide +kernel
theorem dX9_isCushion_7 : decode cX9_isCushion 7 = .ok (.if_icmp .ne 7, 3) := by decide +kernel
theorem dX9_isCushion_10 : decode cX9_isCushion 10 = .ok (.iconst 1, 1) := by decide +kernel
theorem dX9_isCushion_11 : decode cX9_isCushion 11 = .ok (.goto 4, 3) := by decide +kernel
theorem dX9_isCushion_14 : decode cX9_isCushion 14 = .ok (.iconst 0, 1) := by decide +kernel
theorem dX9_isCushion_15 : decode cX9_isCushion 15 = .ok (.ireturn, 1) := by decide +kernel
theorem dX9_hasCat_0 : decode cX9_hasCat 0 = .ok (.aload_n 0, 1) := by decide +kernel
theorem dX9_hasCat_1 : decode cX9_hasCat 1 = .ok (.iload_n 1, 1) := by decide +kernel
theorem dX9_hasCat_2 : decode cX9_hasCat 2 = .ok (.iconst 2, 1) := by decide +kernel
theorem dX9_hasCat_3 : decode cX9_hasCat 3 = .ok (.invokevirtual 148, 3) := by decide +kernel
theorem dX9_hasCat_6 : decode cX9_hasCat 6 = .ok (.iconst 1, 1) := by decide +kernel
theorem dX9_hasCat_7 : decode cX9_hasCat 7 = .ok (.if_icmp .ne 7, 3) := by decide +kernel
theorem dX9_hasCat_10 : decode cX9_hasCat 10 = .ok (.iconst 1, 1) := by decide +kernel
theorem dX9_hasCat_11 : decode cX9_hasCat 11 = .ok (.goto 4, 3) := by decide +kernel
theorem dX9_hasCat_14 : decode cX9_hasCat 14 = .ok (.iconst 0, 1) := by decide +kernel
theorem dX9_hasCat_15 : decode cX9_hasCat 15 = .ok (.ireturn, 1) := by decide +kernel
theorem dX9_areLinked_0 : decode cX9_areLinked 0 = .ok (.aload_n 0, 1) := by decide +kernel
theorem dX9_areLinked_1 : decode cX9_areLinked 1 = .ok (.aload_n 0, 1) := by decide +kernel
theorem dX9_areLinked_2 : decode cX9_areLinked 2 = .ok (.iload_n 1, 1) := by decide +kernel
theorem dX9_areLinked_3 : decode cX9_areLinked 3 = .ok (.invokevirtual 91, 3) := by decide +kernel
theorem dX9_areLinked_6 : decode cX9_areLinked 6 = .ok (.ifCond .eq 15, 3) := by decide +kernel
theorem dX9_areLinked_9 : decode cX9_areLinked 9 = .ok (.aload_n 0, 1) := by decide +kernel
theorem dX9_areLinked_10 : decode cX9_areLinked 10 = .ok (.iload_n 2, 1) := by decide +kernel
theorem dX9_areLinked_11 : decode cX9_areLinked 11 = .ok (.invokevirtual 91, 3) := by decide +kernel
theorem dX9_areLinked_14 : decode cX9_areLinked 14 = .ok (.ifCond .eq 7, 3) := by decide +kernel
theorem dX9_areLinked_17 : decode cX9_areLinked 17 = .ok (.iconst 0, 1) := by decide +kernel
theorem dX9_areLinked_18 : decode cX9_areLinked 18 = .ok (.goto 4, 3) := by decide +kernel
theorem dX9_areLinked_21 : decode cX9_areLinked 21 = .ok (.iconst 1, 1) := by decide +kernel
theorem dX9_areLinked_22 : decode cX9_areLinked 22 = .ok (.putfield 47, 3) := by decide +kernel
theorem dX9_areLinked_25 : decode cX9_areLinked 25 = .ok (.aload_n 0, 1) := by decide +kernel
theorem dX9_areLinked_26 : decode cX9_areLinked 26 = .ok (.getfield 47, 3) := by decide +kernel
theorem dX9_areLinked_29 : decode cX9_areLinked 29 = .ok (.ifCond .ne 16, 3) := by decide +kernel
theorem dX9_areLinked_32 : decode cX9_areLinked 32 = .ok (.aload_n 0, 1) := by decide +kernel
theorem dX9_areLinked_33 : decode cX9_areLinked 33 = .ok (.iload_n 1, 1) := by decide +kernel
theorem dX9_areLinked_34 : decode cX9_areLinked 34 = .ok (.iload_n 2, 1) := by decide +kernel
theorem dX9_areLinked_35 : decode cX9_areLinked 35 = .ok (.invokevirtual 67, 3) := by decide +kernel
theorem dX9_areLinked_38 : decode cX9_areLinked 38 = .ok (.ifCond .eq 7, 3) := by decide +kernel
theorem dX9_areLinked_41 : decode cX9_areLinked 41 = .ok (.iconst 1, 1) := by decide +kernel
theorem dX9_areLinked_42 : decode cX9_areLinked 42 = .ok (.goto 4, 3) := by decide +kernel
theorem dX9_areLinked_45 : decode cX9_areLinked 45 = .ok (.iconst 0, 1) := by decide +kernel
theorem dX9_areLinked_46 : decode cX9_areLinked 46 = .ok (.ireturn, 1) := by decide +kernel
theorem dX9_degree_0 : decode cX9_degree 0 = .ok (.aload_n 0, 1) := by decide +kernel
theorem dX9_degree_1 : decode cX9_degree 1 = .ok (.aload_n 0, 1) := by decide +kernel
theorem dX9_degree_2 : decode cX9_degree 2 = .ok (.iload_n 1, 1) := by decide +kernel
theorem dX9_degree_3 : decode cX9_degree 3 = .ok (.invokevirtual 91, 3) := by decide +kernel
theorem dX9_degree_6 : decode cX9_degree 6 = .ok (.ifCond .eq 7, 3) := by decide +kernel
theorem dX9_degree_9 : decode cX9_degree 9 = .ok (.iconst 0, 1) := by decide +kernel
theorem dX9_degree_10 : decode cX9_degree 10 = .ok (.goto 4, 3) := by decide +kernel
theorem dX9_degree_13 : decode cX9_degree 13 = .ok (.iconst 1, 1) := by decide +kernel
theorem dX9_degree_14 : decode cX9_degree 14 = .ok (.putfield 47, 3) := by decide +kernel
theorem dX9_degree_17 : decode cX9_degree 17 = .ok (.iconst 0, 1) := by decide +kernel
theorem dX9_degree_18 : decode cX9_degree 18 = .ok (.istore_n 2, 1) := by decide +kernel
theorem dX9_degree_19 : decode cX9_degree 19 = .ok (.iconst 0, 1) := by decide +kernel
theorem dX9_degree_20 : decode cX9_degree 20 = .ok (.istore_n 3, 1) := by decide +kernel
theorem dX9_degree_21 : decode cX9_degree 21 = .ok (.iload_n 3, 1) := by decide +kernel
theorem dX9_degree_22 : decode cX9_degree 22 = .ok (.aload_n 0, 1) := by decide +kernel
theorem dX9_degree_23 : decode cX9_degree 23 = .ok (.getfield 7, 3) := by decide +kernel
theorem dX9_degree_26 : decode cX9_degree 26 = .ok (.iconst 0, 1) := by decide +kernel
theorem dX9_degree_27 : decode cX9_degree 27 = .ok (.iaload, 1) := by decide +kernel
theorem dX9_degree_28 : decode cX9_degree 28 = .ok (.if_icmp .ge 33, 3) := by decide +kernel
theorem dX9_degree_31 : decode cX9_degree 31 = .ok (.aload_n 0, 1) := by decide +kernel
theorem dX9_degree_32 : decode cX9_degree 32 = .ok (.getfield 47, 3) := by decide +kernel
theorem dX9_degree_35 : decode cX9_degree 35 = .ok (.ifCond .ne 26, 3) := by decide +kernel
theorem dX9_degree_38 : decode cX9_degree 38 = .ok (.iload_n 2, 1) := by decide +kernel
theorem dX9_degree_39 : decode cX9_degree 39 = .ok (.aload_n 0, 1) := by decide +kernel
theorem dX9_degree_40 : decode cX9_degree 40 = .ok (.iload_n 1, 1) := by decide +kernel
theorem dX9_degree_41 : decode cX9_degree 41 = .ok (.iload_n 3, 1) := by decide +kernel
theorem dX9_degree_42 : decode cX9_degree 42 = .ok (.invokevirtual 67, 3) := by decide +kernel
theorem dX9_degree_45 : decode cX9_degree 45 = .ok (.ifCond .eq 7, 3) := by decide +kernel
theorem dX9_degree_48 : decode cX9_degree 48 = .ok (.iconst 1, 1) := by decide +kernel
theorem dX9_degree_49 : decode cX9_degree 49 = .ok (.goto 4, 3) := by decide +kernel
theorem dX9_degree_52 : decode cX9_degree 52 = .ok (.iconst 0, 1) := by decide +kernel
theorem dX9_degree_53 : decode cX9_degree 53 = .ok (.iadd, 1) := by decide +kernel
theorem dX9_degree_54 : decode cX9_degree 54 = .ok (.istore_n 2, 1) := by decide +kernel
theorem dX9_degree_55 : decode cX9_degree 55 = .ok (.iinc 3 1, 3) := by decide +kernel
theorem dX9_degree_58 : decode cX9_degree 58 = .ok (.goto (-37), 3) := by decide +kernel
theorem dX9_degree_61 : decode cX9_degree 61 = .ok (.iload_n 2, 1) := by decide +kernel
theorem dX9_degree_62 : decode cX9_degree 62 = .ok (.ireturn, 1) := by decide +kernel
theorem dX9_trainIn_0 : decode cX9_trainIn 0 = .ok (.aload_n 0, 1) := by decide +kernel
theorem dX9_trainIn_1 : decode cX9_trainIn 1 = .ok (.aload_n 0, 1) := by decide +kernel
theorem dX9_trainIn_2 : decode cX9_trainIn 2 = .ok (.iload_n 1, 1) := by decide +kernel
theorem dX9_trainIn_3 : decode cX9_trainIn 3 = .ok (.invokevirtual 91, 3) := by decide +kernel
theorem dX9_trainIn_6 : decode cX9_trainIn 6 = .ok (.ifCond .ne 7, 3) := by decide +kernel
theorem dX9_trainIn_9 : decode cX9_trainIn 9 = .ok (.iconst 1, 1) := by decide +kernel
theorem dX9_trainIn_10 : decode cX9_trainIn 10 = .ok (.goto 17, 3) := by decide +kernel
theorem dX9_trainIn_13 : decode cX9_trainIn 13 = .ok (.aload_n 0, 1) := by decide +kernel
theorem dX9_trainIn_14 : decode cX9_trainIn 14 = .ok (.iload_n 1, 1) := by decide +kernel
theorem dX9_trainIn_15 : decode cX9_trainIn 15 = .ok (.invokevirtual 99, 3) := by decide +kernel
theorem dX9_trainIn_18 : decode cX9_trainIn 18 = .ok (.iconst (-1), 1) := by decide +kernel
theorem dX9_trainIn_19 : decode cX9_trainIn 19 = .ok (.if_icmp .ne 7, 3) := by decide +kernel
theorem dX9_trainIn_22 : decode cX9_trainIn 22 = .ok (.iconst 2, 1) := by decide +kernel
theorem dX9_trainIn_23 : decode cX9_trainIn 23 = .ok (.goto 4, 3) := by decide +kernel
theorem dX9_trainIn_26 : decode cX9_trainIn 26 = .ok (.iconst 0, 1) := by decide +kernel
theorem dX9_trainIn_27 : decode cX9_trainIn 27 = .ok (.putfield 47, 3) := by decide +kernel
theorem dX9_trainIn_30 : decode cX9_trainIn 30 = .ok (.aload_n 0, 1) := by decide +kernel
theorem dX9_trainIn_31 : decode cX9_trainIn 31 = .ok (.getfield 47, 3) := by decide +kernel
theorem dX9_trainIn_34 : decode cX9_trainIn 34 = .ok (.ifCond .le 7, 3) := by decide +kernel
theorem dX9_trainIn_37 : decode cX9_trainIn 37 = .ok (.iconst 0, 1) := by decide +kernel
theorem dX9_trainIn_38 : decode cX9_trainIn 38 = .ok (.goto 8, 3) := by decide +kernel
theorem dX9_trainIn_41 : decode cX9_trainIn 41 = .ok (.aload_n 0, 1) := by decide +kernel
theorem dX9_trainIn_42 : decode cX9_trainIn 42 = .ok (.iload_n 1, 1) := by decide +kernel
theorem dX9_trainIn_43 : decode cX9_trainIn 43 = .ok (.invokevirtual 99, 3) := by decide +kernel
theorem dX9_trainIn_46 : decode cX9_trainIn 46 = .ok (.ireturn, 1) := by decide +kernel
theorem dX9_reservedBy_0 : decode cX9_reservedBy 0 = .ok (.aload_n 0, 1) := by decide +kernel
theorem dX9_reservedBy_1 : decode cX9_reservedBy 1 = .ok (.aload_n 0, 1) := by decide +kernel
theorem dX9_reservedBy_2 : decode cX9_reservedBy 2 = .ok (.iload_n 1, 1) := by decide +kernel
theorem dX9_reservedBy_3 : decode cX9_reservedBy 3 = .ok (.invokevirtual 91, 3) := by decide +kernel
theorem dX9_reservedBy_6 : decode cX9_reservedBy 6 = .ok (.ifCond .ne 7, 3) := by decide +kernel
theorem dX9_reservedBy_9 : decode cX9_reservedBy 9 = .ok (.iconst 1, 1) := by decide +kernel
theorem dX9_reservedBy_10 : decode cX9_reservedBy 10 = .ok (.goto 17, 3) := by decide +kernel
theorem dX9_reservedBy_13 : decode cX9_reservedBy 13 = .ok (.aload_n 0, 1) := by decide +kernel
theorem dX9_reservedBy_14 : decode cX9_reservedBy 14 = .ok (.iload_n 1, 1) := by decide +kernel
theorem dX9_reservedBy_15 : decode cX9_reservedBy 15 = .ok (.invokevirtual 78, 3) := by decide +kernel
theorem dX9_reservedBy_18 : decode cX9_reservedBy 18 = .ok (.iconst (-1), 1) := by decide +kernel
theorem dX9_reservedBy_19 : decode cX9_reservedBy 19 = .ok (.if_icmp .ne 7, 3) := by decide +kernel
theorem dX9_reservedBy_22 : decode cX9_reservedBy 22 = .ok (.iconst 2, 1) := by decide +kernel
theorem dX9_reservedBy_23 : decode cX9_reservedBy 23 = .ok (.goto 4, 3) := by decide +kernel
theorem dX9_reservedBy_26 : decode cX9_reservedBy 26 = .ok (.iconst 0, 1) := by decide +kernel
theorem dX9_reservedBy_27 : decode cX9_reservedBy 27 = .ok (.putfield 47, 3) := by decide +kernel
theorem dX9_reservedBy_30 : decode cX9_reservedBy 30 = .ok (.aload_n 0, 1) := by decide +kernel
theorem dX9_reservedBy_31 : decode cX9_reservedBy 31 = .ok (.getfield 47, 3) := by decide +kernel
theorem dX9_reservedBy_34 : decode cX9_reservedBy 34 = .ok (.ifCond .le 7, 3) := by decide +kernel
theorem dX9_reservedBy_37 : decode cX9_reservedBy 37 = .ok (.iconst 0, 1) := by decide +kernel
theorem dX9_reservedBy_38 : decode cX9_reservedBy 38 = .ok (.goto 8, 3) := by decide +kernel
theorem dX9_reservedBy_41 : decode cX9_reservedBy 41 = .ok (.aload_n 0, 1) := by decide +kernel
theorem dX9_reservedBy_42 : decode cX9_reservedBy 42 = .ok (.iload_n 1, 1) := by decide +kernel
theorem dX9_reservedBy_43 : decode cX9_reservedBy 43 = .ok (.invokevirtual 78, 3) := by decide +kernel
theorem dX9_reservedBy_46 : decode cX9_reservedBy 46 = .ok (.ireturn, 1) := by decide +kernel
theorem dX9_sign_0 : decode cX9_sign 0 = .ok (.aload_n 0, 1) := by decide +kernel
theorem dX9_sign_1 : decode cX9_sign 1 = .ok (.iload_n 1, 1) := by decide +kernel
theorem dX9_sign_2 : decode cX9_sign 2 = .ok (.iconst 2, 1) := by decide +kernel
theorem dX9_sign_3 : decode cX9_sign 3 = .ok (.invokevirtual 71, 3) := by decide +kernel
theorem dX9_sign_6 : decode cX9_sign 6 = .ok (.iconst 1, 1) := by decide +kernel
theorem dX9_sign_7 : decode cX9_sign 7 = .ok (.if_icmp .ne 8, 3) := by decide +kernel
theorem dX9_sign_10 : decode cX9_sign 10 = .ok (.bipush 99, 2) := by decide +kernel
theorem dX9_sign_12 : decode cX9_sign 12 = .ok (.goto 33, 3) := by decide +kernel
theorem dX9_sign_15 : decode cX9_sign 15 = .ok (.aload_n 0, 1) := by decide +kernel
theorem dX9_sign_16 : decode cX9_sign 16 = .ok (.iload_n 1, 1) := by decide +kernel
theorem dX9_sign_17 : decode cX9_sign 17 = .ok (.invokevirtual 99, 3) := by decide +kernel
theorem dX9_sign_20 : decode cX9_sign 20 = .ok (.iconst (-1), 1) := by decide +kernel
theorem dX9_sign_21 : decode cX9_sign 21 = .ok (.if_icmp .eq 8, 3) := by decide +kernel
theorem dX9_sign_24 : decode cX9_sign 24 = .ok (.bipush 111, 2) := by decide +kernel
theorem dX9_sign_26 : decode cX9_sign 26 = .ok (.goto 19, 3) := by decide +kernel
theorem dX9_sign_29 : decode cX9_sign 29 = .ok (.aload_n 0, 1) := by decide +kernel
theorem dX9_sign_30 : decode cX9_sign 30 = .ok (.iload_n 1, 1) := by decide +kernel
theorem dX9_sign_31 : decode cX9_sign 31 = .ok (.invokevirtual 78, 3) := by decide +kernel
theorem dX9_sign_34 : decode cX9_sign 34 = .ok (.iconst (-1), 1) := by decide +kernel
theorem dX9_sign_35 : decode cX9_sign 35 = .ok (.if_icmp .eq 8, 3) := by decide +kernel
theorem dX9_sign_38 : decode cX9_sign 38 = .ok (.bipush 114, 2) := by decide +kernel
theorem dX9_sign_40 : decode cX9_sign 40 = .ok (.goto 5, 3) := by decide +kernel
theorem dX9_sign_43 : decode cX9_sign 43 = .ok (.bipush 102, 2) := by decide +kernel
theorem dX9_sign_45 : decode cX9_sign 45 = .ok (.ireturn, 1) := by decide +kernel
theorem dX9_signal_0 : decode cX9_signal 0 = .ok (.aload_n 0, 1) := by decide +kernel
theorem dX9_signal_1 : decode cX9_signal 1 = .ok (.aload_n 0, 1) := by decide +kernel
theorem dX9_signal_2 : decode cX9_signal 2 = .ok (.iload_n 1, 1) := by decide +kernel
theorem dX9_signal_3 : decode cX9_signal 3 = .ok (.invokevirtual 91, 3) := by decide +kernel
theorem dX9_signal_6 : decode cX9_signal 6 = .ok (.ifCond .eq 7, 3) := by decide +kernel
theorem dX9_signal_9 : decode cX9_signal 9 = .ok (.iconst 0, 1) := by decide +kernel
theorem dX9_signal_10 : decode cX9_signal 10 = .ok (.goto 4, 3) := by decide +kernel
theorem dX9_signal_13 : decode cX9_signal 13 = .ok (.iconst 1, 1) := by decide +kernel
theorem dX9_signal_14 : decode cX9_signal 14 = .ok (.putfield 47, 3) := by decide +kernel
theorem dX9_signal_17 : decode cX9_signal 17 = .ok (.aload_n 0, 1) := by decide +kernel
theorem dX9_signal_18 : decode cX9_signal 18 = .ok (.getfield 47, 3) := by decide +kernel
theorem dX9_signal_21 : decode cX9_signal 21 = .ok (.ifCond .le 7, 3) := by decide +kernel
theorem dX9_signal_24 : decode cX9_signal 24 = .ok (.iconst 0, 1) := by decide +kernel
theorem dX9_signal_25 : decode cX9_signal 25 = .ok (.goto 9, 3) := by decide +kernel
theorem dX9_signal_28 : decode cX9_signal 28 = .ok (.aload_n 0, 1) := by decide +kernel
theorem dX9_signal_29 : decode cX9_signal 29 = .ok (.iload_n 1, 1) := by decide +kernel
theorem dX9_signal_30 : decode cX9_signal 30 = .ok (.invokevirtual 151, 3) := by decide +kernel
theorem dX9_signal_33 : decode cX9_signal 33 = .ok (.i2c, 1) := by decide +kernel
theorem dX9_signal_34 : decode cX9_signal 34 = .ok (.ireturn, 1) := by decide +kernel
theorem dX9_distance_0 : decode cX9_distance 0 = .ok (.aload_n 0, 1) := by decide +kernel
theorem dX9_distance_1 : decode cX9_distance 1 = .ok (.aload_n 0, 1) := by decide +kernel
theorem dX9_distance_2 : decode cX9_distance 2 = .ok (.iload_n 1, 1) := by decide +kernel
theorem dX9_distance_3 : decode cX9_distance 3 = .ok (.invokevirtual 91, 3) := by decide +kernel
theorem dX9_distance_6 : decode cX9_distance 6 = .ok (.ifCond .eq 15, 3) := by decide +kernel
theorem dX9_distance_9 : decode cX9_distance 9 = .ok (.aload_n 0, 1) := by decide +kernel
theorem dX9_distance_10 : decode cX9_distance 10 = .ok (.iload_n 2, 1) := by decide +kernel
theorem dX9_distance_11 : decode cX9_distance 11 = .ok (.invokevirtual 91, 3) := by decide +kernel
theorem dX9_distance_14 : decode cX9_distance 14 = .ok (.ifCond .eq 7, 3) := by decide +kernel
theorem dX9_distance_17 : decode cX9_distance 17 = .ok (.iconst 0, 1) := by decide +kernel
theorem dX9_distance_18 : decode cX9_distance 18 = .ok (.goto 4, 3) := by decide +kernel
theorem dX9_distance_21 : decode cX9_distance 21 = .ok (.iconst 1, 1) := by decide +kernel
theorem dX9_distance_22 : decode cX9_distance 22 = .ok (.putfield 47, 3) := by decide +kernel
theorem dX9_distance_25 : decode cX9_distance 25 = .ok (.aload_n 0, 1) := by decide +kernel
theorem dX9_distance_26 : decode cX9_distance 26 = .ok (.getfield 47, 3) := by decide +kernel
theorem dX9_distance_29 : decode cX9_distance 29 = .ok (.ifCond .le 5, 3) := by decide +kernel
theorem dX9_distance_32 : decode cX9_distance 32 = .ok (.iconst 0, 1) := by decide +kernel
theorem dX9_distance_33 : decode cX9_distance 33 = .ok (.ireturn, 1) := by decide +kernel
theorem dX9_distance_34 : decode cX9_distance 34 = .ok (.aload_n 0, 1) := by decide +kernel
theorem dX9_distance_35 : decode cX9_distance 35 = .ok (.iload_n 2, 1) := by decide +kernel
theorem dX9_distance_36 : decode cX9_distance 36 = .ok (.invokevirtual 84, 3) := by decide +kernel
theorem dX9_distance_39 : decode cX9_distance 39 = .ok (.aload_n 0, 1) := by decide +kernel
theorem dX9_distance_40 : decode cX9_distance 40 = .ok (.getfield 34, 3) := by decide +kernel
theorem dX9_distance_43 : decode cX9_distance 43 = .ok (.iload_n 1, 1) := by decide +kernel
theorem dX9_distance_44 : decode cX9_distance 44 = .ok (.iaload, 1) := by decide +kernel
theorem dX9_distance_45 : decode cX9_distance 45 = .ok (.sipush 9999, 3) := by decide +kernel
theorem dX9_distance_48 : decode cX9_distance 48 = .ok (.if_icmp .ge 12, 3) := by decide +kernel
theorem dX9_distance_51 : decode cX9_distance 51 = .ok (.aload_n 0, 1) := by decide +kernel
theorem dX9_distance_52 : decode cX9_distance 52 = .ok (.getfield 34, 3) := by decide +kernel
theorem dX9_distance_55 : decode cX9_distance 55 = .ok (.iload_n 1, 1) := by decide +kernel
theorem dX9_distance_56 : decode cX9_distance 56 = .ok (.iaload, 1) := by decide +kernel
theorem dX9_distance_57 : decode cX9_distance 57 = .ok (.goto 8, 3) := by decide +kernel
theorem dX9_distance_60 : decode cX9_distance 60 = .ok (.aload_n 0, 1) := by decide +kernel
theorem dX9_distance_61 : decode cX9_distance 61 = .ok (.iconst 2, 1) := by decide +kernel
theorem dX9_distance_62 : decode cX9_distance 62 = .ok (.invokevirtual 60, 3) := by decide +kernel
theorem dX9_distance_65 : decode cX9_distance 65 = .ok (.ireturn, 1) := by decide +kernel
theorem dX9_distanceByRounds_0 : decode cX9_distanceByRounds 0 = .ok (.aload_n 0, 1) := by decide +kernel
theorem dX9_distanceByRounds_1 : decode cX9_distanceByRounds 1 = .ok (.iload_n 1, 1) := by decide +kernel
theorem dX9_distanceByRounds_2 : decode cX9_distanceByRounds 2 = .ok (.iload_n 2, 1) := by decide +kernel
theorem dX9_distanceByRounds_3 : decode cX9_distanceByRounds 3 = .ok (.invokevirtual 154, 3) := by decide +kernel
theorem dX9_distanceByRounds_6 : decode cX9_distanceByRounds 6 = .ok (.ireturn, 1) := by decide +kernel
theorem dX9_nextBlock_0 : decode cX9_nextBlock 0 = .ok (.aload_n 0, 1) := by decide +kernel
theorem dX9_nextBlock_1 : decode cX9_nextBlock 1 = .ok (.aload_n 0, 1) := by decide +kernel
theorem dX9_nextBlock_2 : decode cX9_nextBlock 2 = .ok (.iload_n 1, 1) := by decide +kernel
theorem dX9_nextBlock_3 : decode cX9_nextBlock 3 = .ok (.invokevirtual 109, 3) := by decide +kernel
theorem dX9_nextBlock_6 : decode cX9_nextBlock 6 = .ok (.ifCond .eq 7, 3) := by decide +kernel
theorem dX9_nextBlock_9 : decode cX9_nextBlock 9 = .ok (.iconst 0, 1) := by decide +kernel
theorem dX9_nextBlock_10 : decode cX9_nextBlock 10 = .ok (.goto 4, 3) := by decide +kernel
theorem dX9_nextBlock_13 : decode cX9_nextBlock 13 = .ok (.iconst 1, 1) := by decide +kernel
theorem dX9_nextBlock_14 : decode cX9_nextBlock 14 = .ok (.putfield 47, 3) := by decide +kernel
theorem dX9_nextBlock_17 : decode cX9_nextBlock 17 = .ok (.aload_n 0, 1) := by decide +kernel
theorem dX9_nextBlock_18 : decode cX9_nextBlock 18 = .ok (.getfield 47, 3) := by decide +kernel
theorem dX9_nextBlock_21 : decode cX9_nextBlock 21 = .ok (.ifCond .le 5, 3) := by decide +kernel
theorem dX9_nextBlock_24 : decode cX9_nextBlock 24 = .ok (.iconst 0, 1) := by decide +kernel
theorem dX9_nextBlock_25 : decode cX9_nextBlock 25 = .ok (.ireturn, 1) := by decide +kernel
theorem dX9_nextBlock_26 : decode cX9_nextBlock 26 = .ok (.aload_n 0, 1) := by decide +kernel
theorem dX9_nextBlock_27 : decode cX9_nextBlock 27 = .ok (.iload_n 1, 1) := by decide +kernel
theorem dX9_nextBlock_28 : decode cX9_nextBlock 28 = .ok (.invokevirtual 115, 3) := by decide +kernel
theorem dX9_nextBlock_31 : decode cX9_nextBlock 31 = .ok (.istore_n 2, 1) := by decide +kernel
theorem dX9_nextBlock_32 : decode cX9_nextBlock 32 = .ok (.iload_n 2, 1) := by decide +kernel
theorem dX9_nextBlock_33 : decode cX9_nextBlock 33 = .ok (.iconst (-1), 1) := by decide +kernel
theorem dX9_nextBlock_34 : decode cX9_nextBlock 34 = .ok (.if_icmp .ne 11, 3) := by decide +kernel
theorem dX9_nextBlock_37 : decode cX9_nextBlock 37 = .ok (.aload_n 0, 1) := by decide +kernel
theorem dX9_nextBlock_38 : decode cX9_nextBlock 38 = .ok (.iconst 2, 1) := by decide +kernel
theorem dX9_nextBlock_39 : decode cX9_nextBlock 39 = .ok (.invokevirtual 60, 3) := by decide +kernel
theorem dX9_nextBlock_42 : decode cX9_nextBlock 42 = .ok (.goto 4, 3) := by decide +kernel
theorem dX9_nextBlock_45 : decode cX9_nextBlock 45 = .ok (.iload_n 2, 1) := by decide +kernel
theorem dX9_nextBlock_46 : decode cX9_nextBlock 46 = .ok (.ireturn, 1) := by decide +kernel
theorem dX9_partCount_0 : decode cX9_partCount 0 = .ok (.aload_n 0, 1) := by decide +kernel
theorem dX9_partCount_1 : decode cX9_partCount 1 = .ok (.iconst 0, 1) := by decide +kernel
theorem dX9_partCount_2 : decode cX9_partCount 2 = .ok (.putfield 47, 3) := by decide +kernel
theorem dX9_partCount_5 : decode cX9_partCount 5 = .ok (.iconst 0, 1) := by decide +kernel
theorem dX9_partCount_6 : decode cX9_partCount 6 = .ok (.istore_n 1, 1) := by decide +kernel
theorem dX9_partCount_7 : decode cX9_partCount 7 = .ok (.iconst 0, 1) := by decide +kernel
theorem dX9_partCount_8 : decode cX9_partCount 8 = .ok (.istore_n 2, 1) := by decide +kernel
theorem dX9_partCount_9 : decode cX9_partCount 9 = .ok (.iload_n 2, 1) := by decide +kernel
theorem dX9_partCount_10 : decode cX9_partCount 10 = .ok (.aload_n 0, 1) := by decide +kernel
theorem dX9_partCount_11 : decode cX9_partCount 11 = .ok (.getfield 7, 3) := by decide +kernel
theorem dX9_partCount_14 : decode cX9_partCount 14 = .ok (.iconst 0, 1) := by decide +kernel
theorem dX9_partCount_15 : decode cX9_partCount 15 = .ok (.iaload, 1) := by decide +kernel
theorem dX9_partCount_16 : decode cX9_partCount 16 = .ok (.if_icmp .ge 65, 3) := by decide +kernel
theorem dX9_partCount_19 : decode cX9_partCount 19 = .ok (.aload_n 0, 1) := by decide +kernel
theorem dX9_partCount_20 : decode cX9_partCount 20 = .ok (.iload_n 2, 1) := by decide +kernel
theorem dX9_partCount_21 : decode cX9_partCount 21 = .ok (.invokevirtual 84, 3) := by decide +kernel
theorem dX9_partCount_24 : decode cX9_partCount 24 = .ok (.iload_n 2, 1) := by decide +kernel
theorem dX9_partCount_25 : decode cX9_partCount 25 = .ok (.istore_n 3, 1) := by decide +kernel
theorem dX9_partCount_26 : decode cX9_partCount 26 = .ok (.iload_n 2, 1) := by decide +kernel
theorem dX9_partCount_27 : decode cX9_partCount 27 = .ok (.iconst 1, 1) := by decide +kernel
theorem dX9_partCount_28 : decode cX9_partCount 28 = .ok (.isub, 1) := by decide +kernel
theorem dX9_partCount_29 : decode cX9_partCount 29 = .ok (.istore 4, 2) := by decide +kernel
theorem dX9_partCount_31 : decode cX9_partCount 31 = .ok (.iload 4, 2) := by decide +kernel
theorem dX9_partCount_33 : decode cX9_partCount 33 = .ok (.ifCond .lt 29, 3) := by decide +kernel
theorem dX9_partCount_36 : decode cX9_partCount 36 = .ok (.aload_n 0, 1) := by decide +kernel
theorem dX9_partCount_37 : decode cX9_partCount 37 = .ok (.getfield 34, 3) := by decide +kernel
theorem dX9_partCount_40 : decode cX9_partCount 40 = .ok (.iload 4, 2) := by decide +kernel
theorem dX9_partCount_42 : decode cX9_partCount 42 = .ok (.iaload, 1) := by decide +kernel
theorem dX9_partCount_43 : decode cX9_partCount 43 = .ok (.sipush 9999, 3) := by decide +kernel
theorem dX9_partCount_46 : decode cX9_partCount 46 = .ok (.if_icmp .ge 8, 3) := by decide +kernel
theorem dX9_partCount_49 : decode cX9_partCount 49 = .ok (.iload 4, 2) := by decide +kernel
theorem dX9_partCount_51 : decode cX9_partCount 51 = .ok (.goto 4, 3) := by decide +kernel
theorem dX9_partCount_54 : decode cX9_partCount 54 = .ok (.iload_n 3, 1) := by decide +kernel
theorem dX9_partCount_55 : decode cX9_partCount 55 = .ok (.istore_n 3, 1) := by decide +kernel
theorem dX9_partCount_56 : decode cX9_partCount 56 = .ok (.iinc 4 (-1), 3) := by decide +kernel
theorem dX9_partCount_59 : decode cX9_partCount 59 = .ok (.goto (-28), 3) := by decide +kernel
theorem dX9_partCount_62 : decode cX9_partCount 62 = .ok (.iload_n 1, 1) := by decide +kernel
theorem dX9_partCount_63 : decode cX9_partCount 63 = .ok (.iload_n 3, 1) := by decide +kernel
theorem dX9_partCount_64 : decode cX9_partCount 64 = .ok (.iload_n 2, 1) := by decide +kernel
theorem dX9_partCount_65 : decode cX9_partCount 65 = .ok (.if_icmp .ne 7, 3) := by decide +kernel
theorem dX9_partCount_68 : decode cX9_partCount 68 = .ok (.iconst 1, 1) := by decide +kernel
theorem dX9_partCount_69 : decode cX9_partCount 69 = .ok (.goto 4, 3) := by decide +kernel
theorem dX9_partCount_72 : decode cX9_partCount 72 = .ok (.iconst 0, 1) := by decide +kernel
theorem dX9_partCount_73 : decode cX9_partCount 73 = .ok (.iadd, 1) := by decide +kernel
theorem dX9_partCount_74 : decode cX9_partCount 74 = .ok (.istore_n 1, 1) := by decide +kernel
theorem dX9_partCount_75 : decode cX9_partCount 75 = .ok (.iinc 2 1, 3) := by decide +kernel
theorem dX9_partCount_78 : decode cX9_partCount 78 = .ok (.goto (-69), 3) := by decide +kernel
theorem dX9_partCount_81 : decode cX9_partCount 81 = .ok (.iload_n 1, 1) := by decide +kernel
theorem dX9_partCount_82 : decode cX9_partCount 82 = .ok (.ireturn, 1) := by decide +kernel
theorem dX9_partCountByUnions_0 : decode cX9_partCountByUnions 0 = .ok (.aload_n 0, 1) := by decide +kernel
theorem dX9_partCountByUnions_1 : decode cX9_partCountByUnions 1 = .ok (.invokevirtual 157, 3) := by decide +kernel
theorem dX9_partCountByUnions_4 : decode cX9_partCountByUnions 4 = .ok (.ireturn, 1) := by decide +kernel
theorem dX9_nearestCushion_0 : decode cX9_nearestCushion 0 = .ok (.aload_n 0, 1) := by decide +kernel
theorem dX9_nearestCushion_1 : decode cX9_nearestCushion 1 = .ok (.aload_n 0, 1) := by decide +kernel
theorem dX9_nearestCushion_2 : decode cX9_nearestCushion 2 = .ok (.iload_n 1, 1) := by decide +kernel
theorem dX9_nearestCushion_3 : decode cX9_nearestCushion 3 = .ok (.invokevirtual 91, 3) := by decide +kernel
theorem dX9_nearestCushion_6 : decode cX9_nearestCushion 6 = .ok (.ifCond .eq 7, 3) := by decide +kernel
theorem dX9_nearestCushion_9 : decode cX9_nearestCushion 9 = .ok (.iconst 0, 1) := by decide +kernel
theorem dX9_nearestCushion_10 : decode cX9_nearestCushion 10 = .ok (.goto 4, 3) := by decide +kernel
theorem dX9_nearestCushion_13 : decode cX9_nearestCushion 13 = .ok (.iconst 1, 1) := by decide +kernel
theorem dX9_nearestCushion_14 : decode cX9_nearestCushion 14 = .ok (.putfield 47, 3) := by decide +kernel
theorem dX9_nearestCushion_17 : decode cX9_nearestCushion 17 = .ok (.aload_n 0, 1) := by decide +kernel
theorem dX9_nearestCushion_18 : decode cX9_nearestCushion 18 = .ok (.getfield 47, 3) := by decide +kernel
theorem dX9_nearestCushion_21 : decode cX9_nearestCushion 21 = .ok (.ifCond .le 5, 3) := by decide +kernel
theorem dX9_nearestCushion_24 : decode cX9_nearestCushion 24 = .ok (.iconst 0, 1) := by decide +kernel
theorem dX9_nearestCushion_25 : decode cX9_nearestCushion 25 = .ok (.ireturn, 1) := by decide +kernel
theorem dX9_nearestCushion_26 : decode cX9_nearestCushion 26 = .ok (.iconst (-1), 1) := by decide +kernel
theorem dX9_nearestCushion_27 : decode cX9_nearestCushion 27 = .ok (.istore_n 2, 1) := by decide +kernel
theorem dX9_nearestCushion_28 : decode cX9_nearestCushion 28 = .ok (.sipush 9999, 3) := by decide +kernel
theorem dX9_nearestCushion_31 : decode cX9_nearestCushion 31 = .ok (.istore_n 3, 1) := by decide +kernel
theorem dX9_nearestCushion_32 : decode cX9_nearestCushion 32 = .ok (.iconst 0, 1) := by decide +kernel
theorem dX9_nearestCushion_33 : decode cX9_nearestCushion 33 = .ok (.istore 4, 2) := by decide +kernel
theorem dX9_nearestCushion_35 : decode cX9_nearestCushion 35 = .ok (.iload 4, 2) := by decide +kernel
theorem dX9_nearestCushion_37 : decode cX9_nearestCushion 37 = .ok (.aload_n 0, 1) := by decide +kernel
theorem dX9_nearestCushion_38 : decode cX9_nearestCushion 38 = .ok (.getfield 7, 3) := by decide +kernel
theorem dX9_nearestCushion_41 : decode cX9_nearestCushion 41 = .ok (.iconst 0, 1) := by decide +kernel
theorem dX9_nearestCushion_42 : decode cX9_nearestCushion 42 = .ok (.iaload, 1) := by decide +kernel
theorem dX9_nearestCushion_43 : decode cX9_nearestCushion 43 = .ok (.if_icmp .ge 51, 3) := by decide +kernel
theorem dX9_nearestCushion_46 : decode cX9_nearestCushion 46 = .ok (.aload_n 0, 1) := by decide +kernel
theorem dX9_nearestCushion_47 : decode cX9_nearestCushion 47 = .ok (.iload 4, 2) := by decide +kernel
theorem dX9_nearestCushion_49 : decode cX9_nearestCushion 49 = .ok (.iconst 1, 1) := by decide +kernel
theorem dX9_nearestCushion_50 : decode cX9_nearestCushion 50 = .ok (.invokevirtual 71, 3) := by decide +kernel
theorem dX9_nearestCushion_53 : decode cX9_nearestCushion 53 = .ok (.ifCond .ne 6, 3) := by decide +kernel
theorem dX9_nearestCushion_56 : decode cX9_nearestCushion 56 = .ok (.goto 32, 3) := by decide +kernel
theorem dX9_nearestCushion_59 : decode cX9_nearestCushion 59 = .ok (.aload_n 0, 1) := by decide +kernel
theorem dX9_nearestCushion_60 : decode cX9_nearestCushion 60 = .ok (.iload 4, 2) := by decide +kernel
theorem dX9_nearestCushion_62 : decode cX9_nearestCushion 62 = .ok (.invokevirtual 84, 3) := by decide +kernel
theorem dX9_nearestCushion_65 : decode cX9_nearestCushion 65 = .ok (.aload_n 0, 1) := by decide +kernel
theorem dX9_nearestCushion_66 : decode cX9_nearestCushion 66 = .ok (.getfield 34, 3) := by decide +kernel
theorem dX9_nearestCushion_69 : decode cX9_nearestCushion 69 = .ok (.iload_n 1, 1) := by decide +kernel
theorem dX9_nearestCushion_70 : decode cX9_nearestCushion 70 = .ok (.iaload, 1) := by decide +kernel
theorem dX9_nearestCushion_71 : decode cX9_nearestCushion 71 = .ok (.iload_n 3, 1) := by decide +kernel
theorem dX9_nearestCushion_72 : decode cX9_nearestCushion 72 = .ok (.if_icmp .lt 6, 3) := by decide +kernel
theorem dX9_nearestCushion_75 : decode cX9_nearestCushion 75 = .ok (.goto 13, 3) := by decide +kernel
theorem dX9_nearestCushion_78 : decode cX9_nearestCushion 78 = .ok (.iload 4, 2) := by decide +kernel
theorem dX9_nearestCushion_80 : decode cX9_nearestCushion 80 = .ok (.istore_n 2, 1) := by decide +kernel
theorem dX9_nearestCushion_81 : decode cX9_nearestCushion 81 = .ok (.aload_n 0, 1) := by decide +kernel
theorem dX9_nearestCushion_82 : decode cX9_nearestCushion 82 = .ok (.getfield 34, 3) := by decide +kernel
theorem dX9_nearestCushion_85 : decode cX9_nearestCushion 85 = .ok (.iload_n 1, 1) := by decide +kernel
theorem dX9_nearestCushion_86 : decode cX9_nearestCushion 86 = .ok (.iaload, 1) := by decide +kernel
theorem dX9_nearestCushion_87 : decode cX9_nearestCushion 87 = .ok (.istore_n 3, 1) := by decide +kernel
theorem dX9_nearestCushion_88 : decode cX9_nearestCushion 88 = .ok (.iinc 4 1, 3) := by decide +kernel
theorem dX9_nearestCushion_91 : decode cX9_nearestCushion 91 = .ok (.goto (-56), 3) := by decide +kernel
theorem dX9_nearestCushion_94 : decode cX9_nearestCushion 94 = .ok (.iload_n 2, 1) := by decide +kernel
theorem dX9_nearestCushion_95 : decode cX9_nearestCushion 95 = .ok (.iconst (-1), 1) := by decide +kernel
theorem dX9_nearestCushion_96 : decode cX9_nearestCushion 96 = .ok (.if_icmp .ne 11, 3) := by decide +kernel
theorem dX9_nearestCushion_99 : decode cX9_nearestCushion 99 = .ok (.aload_n 0, 1) := by decide +kernel
theorem dX9_nearestCushion_100 : decode cX9_nearestCushion 100 = .ok (.iconst 2, 1) := by decide +kernel
theorem dX9_nearestCushion_101 : decode cX9_nearestCushion 101 = .ok (.invokevirtual 60, 3) := by decide +kernel
theorem dX9_nearestCushion_104 : decode cX9_nearestCushion 104 = .ok (.goto 4, 3) := by decide +kernel
theorem dX9_nearestCushion_107 : decode cX9_nearestCushion 107 = .ok (.iload_n 2, 1) := by decide +kernel
theorem dX9_nearestCushion_108 : decode cX9_nearestCushion 108 = .ok (.ireturn, 1) := by decide +kernel
theorem dX9_addTrain_0 : decode cX9_addTrain 0 = .ok (.aload_n 0, 1) := by decide +kernel
theorem dX9_addTrain_1 : decode cX9_addTrain 1 = .ok (.invokevirtual 127, 3) := by decide +kernel
theorem dX9_addTrain_4 : decode cX9_addTrain 4 = .ok (.aload_n 0, 1) := by decide +kernel
theorem dX9_addTrain_5 : decode cX9_addTrain 5 = .ok (.aload_n 0, 1) := by decide +kernel
theorem dX9_addTrain_6 : decode cX9_addTrain 6 = .ok (.iload_n 1, 1) := by decide +kernel
theorem dX9_addTrain_7 : decode cX9_addTrain 7 = .ok (.iload_n 2, 1) := by decide +kernel
theorem dX9_addTrain_8 : decode cX9_addTrain 8 = .ok (.invokevirtual 160, 3) := by decide +kernel
theorem dX9_addTrain_11 : decode cX9_addTrain 11 = .ok (.invokevirtual 133, 3) := by decide +kernel
theorem dX9_addTrain_14 : decode cX9_addTrain 14 = .ok (.ireturn, 1) := by decide +kernel
theorem dX9_setGoal_0 : decode cX9_setGoal 0 = .ok (.aload_n 0, 1) := by decide +kernel
theorem dX9_setGoal_1 : decode cX9_setGoal 1 = .ok (.invokevirtual 127, 3) := by decide +kernel
theorem dX9_setGoal_4 : decode cX9_setGoal 4 = .ok (.aload_n 0, 1) := by decide +kernel
theorem dX9_setGoal_5 : decode cX9_setGoal 5 = .ok (.aload_n 0, 1) := by decide +kernel
theorem dX9_setGoal_6 : decode cX9_setGoal 6 = .ok (.iload_n 1, 1) := by decide +kernel
theorem dX9_setGoal_7 : decode cX9_setGoal 7 = .ok (.iload_n 2, 1) := by decide +kernel
theorem dX9_setGoal_8 : decode cX9_setGoal 8 = .ok (.invokevirtual 163, 3) := by decide +kernel
theorem dX9_setGoal_11 : decode cX9_setGoal 11 = .ok (.invokevirtual 133, 3) := by decide +kernel
theorem dX9_setGoal_14 : decode cX9_setGoal 14 = .ok (.ireturn, 1) := by decide +kernel
theorem dX9_clearGoal_0 : decode cX9_clearGoal 0 = .ok (.aload_n 0, 1) := by decide +kernel
theorem dX9_clearGoal_1 : decode cX9_clearGoal 1 = .ok (.invokevirtual 127, 3) := by decide +kernel
theorem dX9_clearGoal_4 : decode cX9_clearGoal 4 = .ok (.aload_n 0, 1) := by decide +kernel
theorem dX9_clearGoal_5 : decode cX9_clearGoal 5 = .ok (.aload_n 0, 1) := by decide +kernel
theorem dX9_clearGoal_6 : decode cX9_clearGoal 6 = .ok (.iload_n 1, 1) := by decide +kernel
theorem dX9_clearGoal_7 : decode cX9_clearGoal 7 = .ok (.invokevirtual 166, 3) := by decide +kernel
theorem dX9_clearGoal_10 : decode cX9_clearGoal 10 = .ok (.invokevirtual 133, 3) := by decide +kernel
theorem dX9_clearGoal_13 : decode cX9_clearGoal 13 = .ok (.ireturn, 1) := by decide +kernel
theorem dX9_reserve_0 : decode cX9_reserve 0 = .ok (.aload_n 0, 1) := by decide +kernel
theorem dX9_reserve_1 : decode cX9_reserve 1 = .ok (.invokevirtual 127, 3) := by decide +kernel
theorem dX9_reserve_4 : decode cX9_reserve 4 = .ok (.aload_n 0, 1) := by decide +kernel
theorem dX9_reserve_5 : decode cX9_reserve 5 = .ok (.aload_n 0, 1) := by decide +kernel
theorem dX9_reserve_6 : decode cX9_reserve 6 = .ok (.iload_n 1, 1) := by decide +kernel
theorem dX9_reserve_7 : decode cX9_reserve 7 = .ok (.iload_n 2, 1) := by decide +kernel
theorem dX9_reserve_8 : decode cX9_reserve 8 = .ok (.invokevirtual 169, 3) := by decide +kernel
theorem dX9_reserve_11 : decode cX9_reserve 11 = .ok (.invokevirtual 133, 3) := by decide +kernel
theorem dX9_reserve_14 : decode cX9_reserve 14 = .ok (.ireturn, 1) := by decide +kernel
theorem dX9_cancelReservation_0 : decode cX9_cancelReservation 0 = .ok (.aload_n 0, 1) := by decide +kernel
theorem dX9_cancelReservation_1 : decode cX9_cancelReservation 1 = .ok (.invokevirtual 127, 3) := by decide +kernel
theorem dX9_cancelReservation_4 : decode cX9_cancelReservation 4 = .ok (.aload_n 0, 1) := by decide +kernel
theorem dX9_cancelReservation_5 : decode cX9_cancelReservation 5 = .ok (.aload_n 0, 1) := by decide +kernel
theorem dX9_cancelReservation_6 : decode cX9_cancelReservation 6 = .ok (.iload_n 1, 1) := by decide +kernel
theorem dX9_cancelReservation_7 : decode cX9_cancelReservation 7 = .ok (.invokevirtual 172, 3) := by decide +kernel
theorem dX9_cancelReservation_10 : decode cX9_cancelReservation 10 = .ok (.invokevirtual 133, 3) := by decide +kernel
theorem dX9_cancelReservation_13 : decode cX9_cancelReservation 13 = .ok (.ireturn, 1) := by decide +kernel
theorem dX9_rescue_0 : decode cX9_rescue 0 = .ok (.aload_n 0, 1) := by decide +kernel
theorem dX9_rescue_1 : decode cX9_rescue 1 = .ok (.invokevirtual 127, 3) := by decide +kernel
theorem dX9_rescue_4 : decode cX9_rescue 4 = .ok (.aload_n 0, 1) := by decide +kernel
theorem dX9_rescue_5 : decode cX9_rescue 5 = .ok (.aload_n 0, 1) := by decide +kernel
theorem dX9_rescue_6 : decode cX9_rescue 6 = .ok (.iload_n 1, 1) := by decide +kernel
theorem dX9_rescue_7 : decode cX9_rescue 7 = .ok (.invokevirtual 175, 3) := by decide +kernel
theorem dX9_rescue_10 : decode cX9_rescue 10 = .ok (.invokevirtual 133, 3) := by decide +kernel
theorem dX9_rescue_13 : decode cX9_rescue 13 = .ok (.ireturn, 1) := by decide +kernel
theorem dX9_trainCount_0 : decode cX9_trainCount 0 = .ok (.aload_n 0, 1) := by decide +kernel
theorem dX9_trainCount_1 : decode cX9_trainCount 1 = .ok (.iconst 0, 1) := by decide +kernel
theorem dX9_trainCount_2 : decode cX9_trainCount 2 = .ok (.putfield 47, 3) := by decide +kernel
theorem dX9_trainCount_5 : decode cX9_trainCount 5 = .ok (.aload_n 0, 1) := by decide +kernel
theorem dX9_trainCount_6 : decode cX9_trainCount 6 = .ok (.getfield 7, 3) := by decide +kernel
theorem dX9_trainCount_9 : decode cX9_trainCount 9 = .ok (.iconst 1, 1) := by decide +kernel
theorem dX9_trainCount_10 : decode cX9_trainCount 10 = .ok (.iaload, 1) := by decide +kernel
theorem dX9_trainCount_11 : decode cX9_trainCount 11 = .ok (.ireturn, 1) := by decide +kernel
theorem dX9_asked_0 : decode cX9_asked 0 = .ok (.aload_n 0, 1) := by decide +kernel
theorem dX9_asked_1 : decode cX9_asked 1 = .ok (.aload_n 0, 1) := by decide +kernel
theorem dX9_asked_2 : decode cX9_asked 2 = .ok (.iload_n 1, 1) := by decide +kernel
theorem dX9_asked_3 : decode cX9_asked 3 = .ok (.invokevirtual 109, 3) := by decide +kernel
theorem dX9_asked_6 : decode cX9_asked 6 = .ok (.ifCond .eq 7, 3) := by decide +kernel
theorem dX9_asked_9 : decode cX9_asked 9 = .ok (.iconst 0, 1) := by decide +kernel
theorem dX9_asked_10 : decode cX9_asked 10 = .ok (.goto 4, 3) := by decide +kernel
theorem dX9_asked_13 : decode cX9_asked 13 = .ok (.iconst 1, 1) := by decide +kernel
theorem dX9_asked_14 : decode cX9_asked 14 = .ok (.putfield 47, 3) := by decide +kernel
theorem dX9_asked_17 : decode cX9_asked 17 = .ok (.aload_n 0, 1) := by decide +kernel
theorem dX9_asked_18 : decode cX9_asked 18 = .ok (.getfield 47, 3) := by decide +kernel
theorem dX9_asked_21 : decode cX9_asked 21 = .ok (.ifCond .le 7, 3) := by decide +kernel
theorem dX9_asked_24 : decode cX9_asked 24 = .ok (.iconst 0, 1) := by decide +kernel
theorem dX9_asked_25 : decode cX9_asked 25 = .ok (.goto 9, 3) := by decide +kernel
theorem dX9_asked_28 : decode cX9_asked 28 = .ok (.aload_n 0, 1) := by decide +kernel
theorem dX9_asked_29 : decode cX9_asked 29 = .ok (.iload_n 1, 1) := by decide +kernel
theorem dX9_asked_30 : decode cX9_asked 30 = .ok (.iload_n 2, 1) := by decide +kernel
theorem dX9_asked_31 : decode cX9_asked 31 = .ok (.invokevirtual 75, 3) := by decide +kernel
theorem dX9_asked_34 : decode cX9_asked 34 = .ok (.ireturn, 1) := by decide +kernel
theorem dX9_blockOf_0 : decode cX9_blockOf 0 = .ok (.aload_n 0, 1) := by decide +kernel
theorem dX9_blockOf_1 : decode cX9_blockOf 1 = .ok (.iload_n 1, 1) := by decide +kernel
theorem dX9_blockOf_2 : decode cX9_blockOf 2 = .ok (.iconst 0, 1) := by decide +kernel
theorem dX9_blockOf_3 : decode cX9_blockOf 3 = .ok (.invokevirtual 178, 3) := by decide +kernel
theorem dX9_blockOf_6 : decode cX9_blockOf 6 = .ok (.ireturn, 1) := by decide +kernel
theorem dX9_priority_0 : decode cX9_priority 0 = .ok (.aload_n 0, 1) := by decide +kernel
theorem dX9_priority_1 : decode cX9_priority 1 = .ok (.iload_n 1, 1) := by decide +kernel
theorem dX9_priority_2 : decode cX9_priority 2 = .ok (.iconst 1, 1) := by decide +kernel
theorem dX9_priority_3 : decode cX9_priority 3 = .ok (.invokevirtual 178, 3) := by decide +kernel
theorem dX9_priority_6 : decode cX9_priority 6 = .ok (.ireturn, 1) := by decide +kernel
theorem dX9_remainingTicks_0 : decode cX9_remainingTicks 0 = .ok (.aload_n 0, 1) := by decide +kernel
theorem dX9_remainingTicks_1 : decode cX9_remainingTicks 1 = .ok (.iload_n 1, 1) := by decide +kernel
theorem dX9_remainingTicks_2 : decode cX9_remainingTicks 2 = .ok (.iconst 2, 1) := by decide +kernel
theorem dX9_remainingTicks_3 : decode cX9_remainingTicks 3 = .ok (.invokevirtual 178, 3) := by decide +kernel
theorem dX9_remainingTicks_6 : decode cX9_remainingTicks 6 = .ok (.ireturn, 1) := by decide +kernel
theorem dX9_goal_0 : decode cX9_goal 0 = .ok (.aload_n 0, 1) := by decide +kernel
theorem dX9_goal_1 : decode cX9_goal 1 = .ok (.aload_n 0, 1) := by decide +kernel
theorem dX9_goal_2 : decode cX9_goal 2 = .ok (.iload_n 1, 1) := by decide +kernel
theorem dX9_goal_3 : decode cX9_goal 3 = .ok (.invokevirtual 109, 3) := by decide +kernel
theorem dX9_goal_6 : decode cX9_goal 6 = .ok (.ifCond .ne 7, 3) := by decide +kernel
theorem dX9_goal_9 : decode cX9_goal 9 = .ok (.iconst 1, 1) := by decide +kernel
theorem dX9_goal_10 : decode cX9_goal 10 = .ok (.goto 17, 3) := by decide +kernel
theorem dX9_goal_13 : decode cX9_goal 13 = .ok (.aload_n 0, 1) := by decide +kernel
theorem dX9_goal_14 : decode cX9_goal 14 = .ok (.iload_n 1, 1) := by decide +kernel
theorem dX9_goal_15 : decode cX9_goal 15 = .ok (.invokevirtual 81, 3) := by decide +kernel
theorem dX9_goal_18 : decode cX9_goal 18 = .ok (.iconst (-1), 1) := by decide +kernel
theorem dX9_goal_19 : decode cX9_goal 19 = .ok (.if_icmp .ne 7, 3) := by decide +kernel
theorem dX9_goal_22 : decode cX9_goal 22 = .ok (.iconst 2, 1) := by decide +kernel
theorem dX9_goal_23 : decode cX9_goal 23 = .ok (.goto 4, 3) := by decide +kernel
theorem dX9_goal_26 : decode cX9_goal 26 = .ok (.iconst 0, 1) := by decide +kernel
theorem dX9_goal_27 : decode cX9_goal 27 = .ok (.putfield 47, 3) := by decide +kernel
theorem dX9_goal_30 : decode cX9_goal 30 = .ok (.aload_n 0, 1) := by decide +kernel
theorem dX9_goal_31 : decode cX9_goal 31 = .ok (.getfield 47, 3) := by decide +kernel
theorem dX9_goal_34 : decode cX9_goal 34 = .ok (.ifCond .le 7, 3) := by decide +kernel
theorem dX9_goal_37 : decode cX9_goal 37 = .ok (.iconst 0, 1) := by decide +kernel
theorem dX9_goal_38 : decode cX9_goal 38 = .ok (.goto 8, 3) := by decide +kernel
theorem dX9_goal_41 : decode cX9_goal 41 = .ok (.aload_n 0, 1) := by decide +kernel
theorem dX9_goal_42 : decode cX9_goal 42 = .ok (.iload_n 1, 1) := by decide +kernel
theorem dX9_goal_43 : decode cX9_goal 43 = .ok (.invokevirtual 81, 3) := by decide +kernel
theorem dX9_goal_46 : decode cX9_goal 46 = .ok (.ireturn, 1) := by decide +kernel
theorem dX9_isDerailed_0 : decode cX9_isDerailed 0 = .ok (.aload_n 0, 1) := by decide +kernel
theorem dX9_isDerailed_1 : decode cX9_isDerailed 1 = .ok (.iload_n 1, 1) := by decide +kernel
theorem dX9_isDerailed_2 : decode cX9_isDerailed 2 = .ok (.iconst 4, 1) := by decide +kernel
theorem dX9_isDerailed_3 : decode cX9_isDerailed 3 = .ok (.invokevirtual 178, 3) := by decide +kernel
theorem dX9_isDerailed_6 : decode cX9_isDerailed 6 = .ok (.iconst 1, 1) := by decide +kernel
theorem dX9_isDerailed_7 : decode cX9_isDerailed 7 = .ok (.if_icmp .ne 7, 3) := by decide +kernel
theorem dX9_isDerailed_10 : decode cX9_isDerailed 10 = .ok (.iconst 1, 1) := by decide +kernel
theorem dX9_isDerailed_11 : decode cX9_isDerailed 11 = .ok (.goto 4, 3) := by decide +kernel
theorem dX9_isDerailed_14 : decode cX9_isDerailed 14 = .ok (.iconst 0, 1) := by decide +kernel
theorem dX9_isDerailed_15 : decode cX9_isDerailed 15 = .ok (.ireturn, 1) := by decide +kernel
theorem dX9_waits_0 : decode cX9_waits 0 = .ok (.aload_n 0, 1) := by decide +kernel
theorem dX9_waits_1 : decode cX9_waits 1 = .ok (.iload_n 1, 1) := by decide +kernel
theorem dX9_waits_2 : decode cX9_waits 2 = .ok (.iconst 5, 1) := by decide +kernel
theorem dX9_waits_3 : decode cX9_waits 3 = .ok (.invokevirtual 178, 3) := by decide +kernel
theorem dX9_waits_6 : decode cX9_waits 6 = .ok (.ireturn, 1) := by decide +kernel
theorem dX9_trainByPriority_0 : decode cX9_trainByPriority 0 = .ok (.aload_n 0, 1) := by decide +kernel
theorem dX9_trainByPriority_1 : decode cX9_trainByPriority 1 = .ok (.iconst 0, 1) := by decide +kernel
theorem dX9_trainByPriority_2 : decode cX9_trainByPriority 2 = .ok (.putfield 47, 3) := by decide +kernel
theorem dX9_trainByPriority_5 : decode cX9_trainByPriority 5 = .ok (.aload_n 0, 1) := by decide +kernel
theorem dX9_trainByPriority_6 : decode cX9_trainByPriority 6 = .ok (.iload_n 1, 1) := by decide +kernel
theorem dX9_trainByPriority_7 : decode cX9_trainByPriority 7 = .ok (.invokevirtual 118, 3) := by decide +kernel
theorem dX9_trainByPriority_10 : decode cX9_trainByPriority 10 = .ok (.istore_n 2, 1) := by decide +kernel
theorem dX9_trainByPriority_11 : decode cX9_trainByPriority 11 = .ok (.iload_n 2, 1) := by decide +kernel
theorem dX9_trainByPriority_12 : decode cX9_trainByPriority 12 = .ok (.iconst (-1), 1) := by decide +kernel
theorem dX9_trainByPriority_13 : decode cX9_trainByPriority 13 = .ok (.if_icmp .ne 11, 3) := by decide +kernel
theorem dX9_trainByPriority_16 : decode cX9_trainByPriority 16 = .ok (.aload_n 0, 1) := by decide +kernel
theorem dX9_trainByPriority_17 : decode cX9_trainByPriority 17 = .ok (.iconst 1, 1) := by decide +kernel
theorem dX9_trainByPriority_18 : decode cX9_trainByPriority 18 = .ok (.invokevirtual 60, 3) := by decide +kernel
theorem dX9_trainByPriority_21 : decode cX9_trainByPriority 21 = .ok (.goto 4, 3) := by decide +kernel
theorem dX9_trainByPriority_24 : decode cX9_trainByPriority 24 = .ok (.iload_n 2, 1) := by decide +kernel
theorem dX9_trainByPriority_25 : decode cX9_trainByPriority 25 = .ok (.ireturn, 1) := by decide +kernel
theorem dX9_blocker_0 : decode cX9_blocker 0 = .ok (.aload_n 0, 1) := by decide +kernel
theorem dX9_blocker_1 : decode cX9_blocker 1 = .ok (.iload_n 1, 1) := by decide +kernel
theorem dX9_blocker_2 : decode cX9_blocker 2 = .ok (.iconst 4, 1) := by decide +kernel
theorem dX9_blocker_3 : decode cX9_blocker 3 = .ok (.invokevirtual 75, 3) := by decide +kernel
theorem dX9_blocker_6 : decode cX9_blocker 6 = .ok (.iconst 1, 1) := by decide +kernel
theorem dX9_blocker_7 : decode cX9_blocker 7 = .ok (.if_icmp .ne 7, 3) := by decide +kernel
theorem dX9_blocker_10 : decode cX9_blocker 10 = .ok (.iconst (-1), 1) := by decide +kernel
theorem dX9_blocker_11 : decode cX9_blocker 11 = .ok (.goto 8, 3) := by decide +kernel
theorem dX9_blocker_14 : decode cX9_blocker 14 = .ok (.aload_n 0, 1) := by decide +kernel
theorem dX9_blocker_15 : decode cX9_blocker 15 = .ok (.iload_n 1, 1) := by decide +kernel
theorem dX9_blocker_16 : decode cX9_blocker 16 = .ok (.invokevirtual 115, 3) := by decide +kernel
theorem dX9_blocker_19 : decode cX9_blocker 19 = .ok (.istore_n 2, 1) := by decide +kernel
theorem dX9_blocker_20 : decode cX9_blocker 20 = .ok (.iload_n 2, 1) := by decide +kernel
theorem dX9_blocker_21 : decode cX9_blocker 21 = .ok (.iconst (-1), 1) := by decide +kernel
theorem dX9_blocker_22 : decode cX9_blocker 22 = .ok (.if_icmp .ne 7, 3) := by decide +kernel
theorem dX9_blocker_25 : decode cX9_blocker 25 = .ok (.iconst (-1), 1) := by decide +kernel
theorem dX9_blocker_26 : decode cX9_blocker 26 = .ok (.goto 8, 3) := by decide +kernel
theorem dX9_blocker_29 : decode cX9_blocker 29 = .ok (.aload_n 0, 1) := by decide +kernel
theorem dX9_blocker_30 : decode cX9_blocker 30 = .ok (.iload_n 2, 1) := by decide +kernel
theorem dX9_blocker_31 : decode cX9_blocker 31 = .ok (.invokevirtual 99, 3) := by decide +kernel
theorem dX9_blocker_34 : decode cX9_blocker 34 = .ok (.ireturn, 1) := by decide +kernel
theorem dX9_blockedBy_0 : decode cX9_blockedBy 0 = .ok (.aload_n 0, 1) := by decide +kernel
theorem dX9_blockedBy_1 : decode cX9_blockedBy 1 = .ok (.aload_n 0, 1) := by decide +kernel
theorem dX9_blockedBy_2 : decode cX9_blockedBy 2 = .ok (.iload_n 1, 1) := by decide +kernel
theorem dX9_blockedBy_3 : decode cX9_blockedBy 3 = .ok (.invokevirtual 109, 3) := by decide +kernel
theorem dX9_blockedBy_6 : decode cX9_blockedBy 6 = .ok (.ifCond .eq 7, 3) := by decide +kernel
theorem dX9_blockedBy_9 : decode cX9_blockedBy 9 = .ok (.iconst 0, 1) := by decide +kernel
theorem dX9_blockedBy_10 : decode cX9_blockedBy 10 = .ok (.goto 4, 3) := by decide +kernel
theorem dX9_blockedBy_13 : decode cX9_blockedBy 13 = .ok (.iconst 1, 1) := by decide +kernel
theorem dX9_blockedBy_14 : decode cX9_blockedBy 14 = .ok (.putfield 47, 3) := by decide +kernel
theorem dX9_blockedBy_17 : decode cX9_blockedBy 17 = .ok (.aload_n 0, 1) := by decide +kernel
theorem dX9_blockedBy_18 : decode cX9_blockedBy 18 = .ok (.getfield 47, 3) := by decide +kernel
theorem dX9_blockedBy_21 : decode cX9_blockedBy 21 = .ok (.ifCond .le 5, 3) := by decide +kernel
theorem dX9_blockedBy_24 : decode cX9_blockedBy 24 = .ok (.iconst 0, 1) := by decide +kernel
theorem dX9_blockedBy_25 : decode cX9_blockedBy 25 = .ok (.ireturn, 1) := by decide +kernel
theorem dX9_blockedBy_26 : decode cX9_blockedBy 26 = .ok (.aload_n 0, 1) := by decide +kernel
theorem dX9_blockedBy_27 : decode cX9_blockedBy 27 = .ok (.iload_n 1, 1) := by decide +kernel
theorem dX9_blockedBy_28 : decode cX9_blockedBy 28 = .ok (.invokevirtual 181, 3) := by decide +kernel
theorem dX9_blockedBy_31 : decode cX9_blockedBy 31 = .ok (.istore_n 2, 1) := by decide +kernel
theorem dX9_blockedBy_32 : decode cX9_blockedBy 32 = .ok (.iload_n 2, 1) := by decide +kernel
theorem dX9_blockedBy_33 : decode cX9_blockedBy 33 = .ok (.iconst (-1), 1) := by decide +kernel
theorem dX9_blockedBy_34 : decode cX9_blockedBy 34 = .ok (.if_icmp .ne 11, 3) := by decide +kernel
theorem dX9_blockedBy_37 : decode cX9_blockedBy 37 = .ok (.aload_n 0, 1) := by decide +kernel
theorem dX9_blockedBy_38 : decode cX9_blockedBy 38 = .ok (.iconst 2, 1) := by decide +kernel
theorem dX9_blockedBy_39 : decode cX9_blockedBy 39 = .ok (.invokevirtual 60, 3) := by decide +kernel
theorem dX9_blockedBy_42 : decode cX9_blockedBy 42 = .ok (.goto 4, 3) := by decide +kernel
theorem dX9_blockedBy_45 : decode cX9_blockedBy 45 = .ok (.iload_n 2, 1) := by decide +kernel
theorem dX9_blockedBy_46 : decode cX9_blockedBy 46 = .ok (.ireturn, 1) := by decide +kernel
theorem dX9_deadlocked_0 : decode cX9_deadlocked 0 = .ok (.aload_n 0, 1) := by decide +kernel
theorem dX9_deadlocked_1 : decode cX9_deadlocked 1 = .ok (.iconst 0, 1) := by decide +kernel
theorem dX9_deadlocked_2 : decode cX9_deadlocked 2 = .ok (.putfield 47, 3) := by decide +kernel
theorem dX9_deadlocked_5 : decode cX9_deadlocked 5 = .ok (.iconst 0, 1) := by decide +kernel
theorem dX9_deadlocked_6 : decode cX9_deadlocked 6 = .ok (.istore_n 1, 1) := by decide +kernel
theorem dX9_deadlocked_7 : decode cX9_deadlocked 7 = .ok (.iconst 0, 1) := by decide +kernel
theorem dX9_deadlocked_8 : decode cX9_deadlocked 8 = .ok (.istore_n 2, 1) := by decide +kernel
theorem dX9_deadlocked_9 : decode cX9_deadlocked 9 = .ok (.iload_n 2, 1) := by decide +kernel
theorem dX9_deadlocked_10 : decode cX9_deadlocked 10 = .ok (.aload_n 0, 1) := by decide +kernel
theorem dX9_deadlocked_11 : decode cX9_deadlocked 11 = .ok (.getfield 7, 3) := by decide +kernel
theorem dX9_deadlocked_14 : decode cX9_deadlocked 14 = .ok (.iconst 1, 1) := by decide +kernel
theorem dX9_deadlocked_15 : decode cX9_deadlocked 15 = .ok (.iaload, 1) := by decide +kernel
theorem dX9_deadlocked_16 : decode cX9_deadlocked 16 = .ok (.if_icmp .ge 20, 3) := by decide +kernel
theorem dX9_deadlocked_19 : decode cX9_deadlocked 19 = .ok (.aload_n 0, 1) := by decide +kernel
theorem dX9_deadlocked_20 : decode cX9_deadlocked 20 = .ok (.getfield 37, 3) := by decide +kernel
theorem dX9_deadlocked_23 : decode cX9_deadlocked 23 = .ok (.iload_n 2, 1) := by decide +kernel
theorem dX9_deadlocked_24 : decode cX9_deadlocked 24 = .ok (.aload_n 0, 1) := by decide +kernel
theorem dX9_deadlocked_25 : decode cX9_deadlocked 25 = .ok (.iload_n 2, 1) := by decide +kernel
theorem dX9_deadlocked_26 : decode cX9_deadlocked 26 = .ok (.invokevirtual 181, 3) := by decide +kernel
theorem dX9_deadlocked_29 : decode cX9_deadlocked 29 = .ok (.iastore, 1) := by decide +kernel
theorem dX9_deadlocked_30 : decode cX9_deadlocked 30 = .ok (.iinc 2 1, 3) := by decide +kernel
theorem dX9_deadlocked_33 : decode cX9_deadlocked 33 = .ok (.goto (-24), 3) := by decide +kernel
theorem dX9_deadlocked_36 : decode cX9_deadlocked 36 = .ok (.iconst 0, 1) := by decide +kernel
theorem dX9_deadlocked_37 : decode cX9_deadlocked 37 = .ok (.istore_n 2, 1) := by decide +kernel
theorem dX9_deadlocked_38 : decode cX9_deadlocked 38 = .ok (.iload_n 2, 1) := by decide +kernel
theorem dX9_deadlocked_39 : decode cX9_deadlocked 39 = .ok (.aload_n 0, 1) := by decide +kernel
theorem dX9_deadlocked_40 : decode cX9_deadlocked 40 = .ok (.getfield 7, 3) := by decide +kernel
theorem dX9_deadlocked_43 : decode cX9_deadlocked 43 = .ok (.iconst 1, 1) := by decide +kernel
theorem dX9_deadlocked_44 : decode cX9_deadlocked 44 = .ok (.iaload, 1) := by decide +kernel
theorem dX9_deadlocked_45 : decode cX9_deadlocked 45 = .ok (.if_icmp .ge 62, 3) := by decide +kernel
theorem dX9_deadlocked_48 : decode cX9_deadlocked 48 = .ok (.aload_n 0, 1) := by decide +kernel
theorem dX9_deadlocked_49 : decode cX9_deadlocked 49 = .ok (.getfield 37, 3) := by decide +kernel
theorem dX9_deadlocked_52 : decode cX9_deadlocked 52 = .ok (.iload_n 2, 1) := by decide +kernel
theorem dX9_deadlocked_53 : decode cX9_deadlocked 53 = .ok (.iaload, 1) := by decide +kernel
theorem dX9_deadlocked_54 : decode cX9_deadlocked 54 = .ok (.istore_n 3, 1) := by decide +kernel
theorem dX9_deadlocked_55 : decode cX9_deadlocked 55 = .ok (.iconst 0, 1) := by decide +kernel
theorem dX9_deadlocked_56 : decode cX9_deadlocked 56 = .ok (.istore 4, 2) := by decide +kernel
theorem dX9_deadlocked_58 : decode cX9_deadlocked 58 = .ok (.iload 4, 2) := by decide +kernel
theorem dX9_deadlocked_60 : decode cX9_deadlocked 60 = .ok (.bipush 6, 2) := by decide +kernel
theorem dX9_deadlocked_62 : decode cX9_deadlocked 62 = .ok (.if_icmp .ge 26, 3) := by decide +kernel
theorem dX9_deadlocked_65 : decode cX9_deadlocked 65 = .ok (.iload_n 3, 1) := by decide +kernel
theorem dX9_deadlocked_66 : decode cX9_deadlocked 66 = .ok (.iconst (-1), 1) := by decide +kernel
theorem dX9_deadlocked_67 : decode cX9_deadlocked 67 = .ok (.if_icmp .eq 21, 3) := by decide +kernel
theorem dX9_deadlocked_70 : decode cX9_deadlocked 70 = .ok (.iload_n 3, 1) := by decide +kernel
theorem dX9_deadlocked_71 : decode cX9_deadlocked 71 = .ok (.iload_n 2, 1) := by decide +kernel
theorem dX9_deadlocked_72 : decode cX9_deadlocked 72 = .ok (.if_icmp .eq 16, 3) := by decide +kernel
theorem dX9_deadlocked_75 : decode cX9_deadlocked 75 = .ok (.aload_n 0, 1) := by decide +kernel
theorem dX9_deadlocked_76 : decode cX9_deadlocked 76 = .ok (.getfield 37, 3) := by decide +kernel
theorem dX9_deadlocked_79 : decode cX9_deadlocked 79 = .ok (.iload_n 3, 1) := by decide +kernel
theorem dX9_deadlocked_80 : decode cX9_deadlocked 80 = .ok (.iaload, 1) := by decide +kernel
theorem dX9_deadlocked_81 : decode cX9_deadlocked 81 = .ok (.istore_n 3, 1) := by decide +kernel
theorem dX9_deadlocked_82 : decode cX9_deadlocked 82 = .ok (.iinc 4 1, 3) := by decide +kernel
theorem dX9_deadlocked_85 : decode cX9_deadlocked 85 = .ok (.goto (-27), 3) := by decide +kernel
theorem dX9_deadlocked_88 : decode cX9_deadlocked 88 = .ok (.iload_n 1, 1) := by decide +kernel
theorem dX9_deadlocked_89 : decode cX9_deadlocked 89 = .ok (.iload_n 3, 1) := by decide +kernel
theorem dX9_deadlocked_90 : decode cX9_deadlocked 90 = .ok (.iload_n 2, 1) := by decide +kernel
theorem dX9_deadlocked_91 : decode cX9_deadlocked 91 = .ok (.if_icmp .ne 7, 3) := by decide +kernel
theorem dX9_deadlocked_94 : decode cX9_deadlocked 94 = .ok (.iconst 1, 1) := by decide +kernel
theorem dX9_deadlocked_95 : decode cX9_deadlocked 95 = .ok (.goto 4, 3) := by decide +kernel
theorem dX9_deadlocked_98 : decode cX9_deadlocked 98 = .ok (.iconst 0, 1) := by decide +kernel
theorem dX9_deadlocked_99 : decode cX9_deadlocked 99 = .ok (.iadd, 1) := by decide +kernel
theorem dX9_deadlocked_100 : decode cX9_deadlocked 100 = .ok (.istore_n 1, 1) := by decide +kernel
theorem dX9_deadlocked_101 : decode cX9_deadlocked 101 = .ok (.iinc 2 1, 3) := by decide +kernel
theorem dX9_deadlocked_104 : decode cX9_deadlocked 104 = .ok (.goto (-66), 3) := by decide +kernel
theorem dX9_deadlocked_107 : decode cX9_deadlocked 107 = .ok (.iload_n 1, 1) := by decide +kernel
theorem dX9_deadlocked_108 : decode cX9_deadlocked 108 = .ok (.ireturn, 1) := by decide +kernel
theorem dX9_deadlockedByTable_0 : decode cX9_deadlockedByTable 0 = .ok (.aload_n 0, 1) := by decide +kernel
theorem dX9_deadlockedByTable_1 : decode cX9_deadlockedByTable 1 = .ok (.invokevirtual 184, 3) := by decide +kernel
theorem dX9_deadlockedByTable_4 : decode cX9_deadlockedByTable 4 = .ok (.ireturn, 1) := by decide +kernel
theorem dX9_passTicks_0 : decode cX9_passTicks 0 = .ok (.aload_n 0, 1) := by decide +kernel
theorem dX9_passTicks_1 : decode cX9_passTicks 1 = .ok (.invokevirtual 127, 3) := by decide +kernel
theorem dX9_passTicks_4 : decode cX9_passTicks 4 = .ok (.aload_n 0, 1) := by decide +kernel
theorem dX9_passTicks_5 : decode cX9_passTicks 5 = .ok (.aload_n 0, 1) := by decide +kernel
theorem dX9_passTicks_6 : decode cX9_passTicks 6 = .ok (.iload_n 1, 1) := by decide +kernel
theorem dX9_passTicks_7 : decode cX9_passTicks 7 = .ok (.invokevirtual 187, 3) := by decide +kernel
theorem dX9_passTicks_10 : decode cX9_passTicks 10 = .ok (.invokevirtual 133, 3) := by decide +kernel
theorem dX9_passTicks_13 : decode cX9_passTicks 13 = .ok (.ireturn, 1) := by decide +kernel
theorem dX9_ticks_0 : decode cX9_ticks 0 = .ok (.aload_n 0, 1) := by decide +kernel
theorem dX9_ticks_1 : decode cX9_ticks 1 = .ok (.iconst 0, 1) := by decide +kernel
theorem dX9_ticks_2 : decode cX9_ticks 2 = .ok (.putfield 47, 3) := by decide +kernel
theorem dX9_ticks_5 : decode cX9_ticks 5 = .ok (.aload_n 0, 1) := by decide +kernel
theorem dX9_ticks_6 : decode cX9_ticks 6 = .ok (.getfield 7, 3) := by decide +kernel
theorem dX9_ticks_9 : decode cX9_ticks 9 = .ok (.iconst 2, 1) := by decide +kernel
theorem dX9_ticks_10 : decode cX9_ticks 10 = .ok (.iaload, 1) := by decide +kernel
theorem dX9_ticks_11 : decode cX9_ticks 11 = .ok (.ireturn, 1) := by decide +kernel
theorem dX9_arrivals_0 : decode cX9_arrivals 0 = .ok (.aload_n 0, 1) := by decide +kernel
theorem dX9_arrivals_1 : decode cX9_arrivals 1 = .ok (.iconst 0, 1) := by decide +kernel
theorem dX9_arrivals_2 : decode cX9_arrivals 2 = .ok (.putfield 47, 3) := by decide +kernel
theorem dX9_arrivals_5 : decode cX9_arrivals 5 = .ok (.aload_n 0, 1) := by decide +kernel
theorem dX9_arrivals_6 : decode cX9_arrivals 6 = .ok (.getfield 7, 3) := by decide +kernel
theorem dX9_arrivals_9 : decode cX9_arrivals 9 = .ok (.iconst 3, 1) := by decide +kernel
theorem dX9_arrivals_10 : decode cX9_arrivals 10 = .ok (.iaload, 1) := by decide +kernel
theorem dX9_arrivals_11 : decode cX9_arrivals 11 = .ok (.ireturn, 1) := by decide +kernel
theorem dX9_ticksUntilArrival_0 : decode cX9_ticksUntilArrival 0 = .ok (.aload_n 0, 1) := by decide +kernel
theorem dX9_ticksUntilArrival_1 : decode cX9_ticksUntilArrival 1 = .ok (.aload_n 0, 1) := by decide +kernel
theorem dX9_ticksUntilArrival_2 : decode cX9_ticksUntilArrival 2 = .ok (.iload_n 1, 1) := by decide +kernel
theorem dX9_ticksUntilArrival_3 : decode cX9_ticksUntilArrival 3 = .ok (.invokevirtual 109, 3) := by decide +kernel
theorem dX9_ticksUntilArrival_6 : decode cX9_ticksUntilArrival 6 = .ok (.ifCond .ne 7, 3) := by decide +kernel
theorem dX9_ticksUntilArrival_9 : decode cX9_ticksUntilArrival 9 = .ok (.iconst 1, 1) := by decide +kernel
theorem dX9_ticksUntilArrival_10 : decode cX9_ticksUntilArrival 10 = .ok (.goto 17, 3) := by decide +kernel
theorem dX9_ticksUntilArrival_13 : decode cX9_ticksUntilArrival 13 = .ok (.aload_n 0, 1) := by decide +kernel
theorem dX9_ticksUntilArrival_14 : decode cX9_ticksUntilArrival 14 = .ok (.iload_n 1, 1) := by decide +kernel
theorem dX9_ticksUntilArrival_15 : decode cX9_ticksUntilArrival 15 = .ok (.invokevirtual 81, 3) := by decide +kernel
theorem dX9_ticksUntilArrival_18 : decode cX9_ticksUntilArrival 18 = .ok (.iconst (-1), 1) := by decide +kernel
theorem dX9_ticksUntilArrival_19 : decode cX9_ticksUntilArrival 19 = .ok (.if_icmp .ne 7, 3) := by decide +kernel
theorem dX9_ticksUntilArrival_22 : decode cX9_ticksUntilArrival 22 = .ok (.iconst 2, 1) := by decide +kernel
theorem dX9_ticksUntilArrival_23 : decode cX9_ticksUntilArrival 23 = .ok (.goto 4, 3) := by decide +kernel
theorem dX9_ticksUntilArrival_26 : decode cX9_ticksUntilArrival 26 = .ok (.iconst 0, 1) := by decide +kernel
theorem dX9_ticksUntilArrival_27 : decode cX9_ticksUntilArrival 27 = .ok (.putfield 47, 3) := by decide +kernel
theorem dX9_ticksUntilArrival_30 : decode cX9_ticksUntilArrival 30 = .ok (.aload_n 0, 1) := by decide +kernel
theorem dX9_ticksUntilArrival_31 : decode cX9_ticksUntilArrival 31 = .ok (.getfield 47, 3) := by decide +kernel
theorem dX9_ticksUntilArrival_34 : decode cX9_ticksUntilArrival 34 = .ok (.ifCond .le 5, 3) := by decide +kernel
theorem dX9_ticksUntilArrival_37 : decode cX9_ticksUntilArrival 37 = .ok (.iconst 0, 1) := by decide +kernel
theorem dX9_ticksUntilArrival_38 : decode cX9_ticksUntilArrival 38 = .ok (.ireturn, 1) := by decide +kernel
theorem dX9_ticksUntilArrival_39 : decode cX9_ticksUntilArrival 39 = .ok (.iconst 0, 1) := by decide +kernel
theorem dX9_ticksUntilArrival_40 : decode cX9_ticksUntilArrival 40 = .ok (.istore_n 2, 1) := by decide +kernel
theorem dX9_ticksUntilArrival_41 : decode cX9_ticksUntilArrival 41 = .ok (.iload_n 2, 1) := by decide +kernel
theorem dX9_ticksUntilArrival_42 : decode cX9_ticksUntilArrival 42 = .ok (.bipush 116, 2) := by decide +kernel
theorem dX9_ticksUntilArrival_44 : decode cX9_ticksUntilArrival 44 = .ok (.if_icmp .ge 21, 3) := by decide +kernel
theorem dX9_ticksUntilArrival_47 : decode cX9_ticksUntilArrival 47 = .ok (.aload_n 0, 1) := by decide +kernel
theorem dX9_ticksUntilArrival_48 : decode cX9_ticksUntilArrival 48 = .ok (.getfield 22, 3) := by decide +kernel
theorem dX9_ticksUntilArrival_51 : decode cX9_ticksUntilArrival 51 = .ok (.iload_n 2, 1) := by decide +kernel
theorem dX9_ticksUntilArrival_52 : decode cX9_ticksUntilArrival 52 = .ok (.aload_n 0, 1) := by decide +kernel
theorem dX9_ticksUntilArrival_53 : decode cX9_ticksUntilArrival 53 = .ok (.getfield 7, 3) := by decide +kernel
theorem dX9_ticksUntilArrival_56 : decode cX9_ticksUntilArrival 56 = .ok (.iload_n 2, 1) := by decide +kernel
theorem dX9_ticksUntilArrival_57 : decode cX9_ticksUntilArrival 57 = .ok (.iaload, 1) := by decide +kernel
theorem dX9_ticksUntilArrival_58 : decode cX9_ticksUntilArrival 58 = .ok (.iastore, 1) := by decide +kernel
theorem dX9_ticksUntilArrival_59 : decode cX9_ticksUntilArrival 59 = .ok (.iinc 2 1, 3) := by decide +kernel
theorem dX9_ticksUntilArrival_62 : decode cX9_ticksUntilArrival 62 = .ok (.goto (-21), 3) := by decide +kernel
theorem dX9_ticksUntilArrival_65 : decode cX9_ticksUntilArrival 65 = .ok (.iconst 0, 1) := by decide +kernel
theorem dX9_ticksUntilArrival_66 : decode cX9_ticksUntilArrival 66 = .ok (.istore_n 2, 1) := by decide +kernel
theorem dX9_ticksUntilArrival_67 : decode cX9_ticksUntilArrival 67 = .ok (.iconst 1, 1) := by decide +kernel
theorem dX9_ticksUntilArrival_68 : decode cX9_ticksUntilArrival 68 = .ok (.istore_n 3, 1) := by decide +kernel
theorem dX9_ticksUntilArrival_69 : decode cX9_ticksUntilArrival 69 = .ok (.iload_n 3, 1) := by decide +kernel
theorem dX9_ticksUntilArrival_70 : decode cX9_ticksUntilArrival 70 = .ok (.bipush 99, 2) := by decide +kernel
theorem dX9_ticksUntilArrival_72 : decode cX9_ticksUntilArrival 72 = .ok (.if_icmp .gt 31, 3) := by decide +kernel
theorem dX9_ticksUntilArrival_75 : decode cX9_ticksUntilArrival 75 = .ok (.iload_n 2, 1) := by decide +kernel
theorem dX9_ticksUntilArrival_76 : decode cX9_ticksUntilArrival 76 = .ok (.ifCond .ne 27, 3) := by decide +kernel
theorem dX9_ticksUntilArrival_79 : decode cX9_ticksUntilArrival 79 = .ok (.aload_n 0, 1) := by decide +kernel
theorem dX9_ticksUntilArrival_80 : decode cX9_ticksUntilArrival 80 = .ok (.invokevirtual 124, 3) := by decide +kernel
theorem dX9_ticksUntilArrival_83 : decode cX9_ticksUntilArrival 83 = .ok (.iload_n 1, 1) := by decide +kernel
theorem dX9_ticksUntilArrival_84 : decode cX9_ticksUntilArrival 84 = .ok (.ishr, 1) := by decide +kernel
theorem dX9_ticksUntilArrival_85 : decode cX9_ticksUntilArrival 85 = .ok (.iconst 1, 1) := by decide +kernel
theorem dX9_ticksUntilArrival_86 : decode cX9_ticksUntilArrival 86 = .ok (.iand, 1) := by decide +kernel
theorem dX9_ticksUntilArrival_87 : decode cX9_ticksUntilArrival 87 = .ok (.iconst 1, 1) := by decide +kernel
theorem dX9_ticksUntilArrival_88 : decode cX9_ticksUntilArrival 88 = .ok (.if_icmp .ne 7, 3) := by decide +kernel
theorem dX9_ticksUntilArrival_91 : decode cX9_ticksUntilArrival 91 = .ok (.iload_n 3, 1) := by decide +kernel
theorem dX9_ticksUntilArrival_92 : decode cX9_ticksUntilArrival 92 = .ok (.goto 4, 3) := by decide +kernel
theorem dX9_ticksUntilArrival_95 : decode cX9_ticksUntilArrival 95 = .ok (.iconst 0, 1) := by decide +kernel
theorem dX9_ticksUntilArrival_96 : decode cX9_ticksUntilArrival 96 = .ok (.istore_n 2, 1) := by decide +kernel
theorem dX9_ticksUntilArrival_97 : decode cX9_ticksUntilArrival 97 = .ok (.iinc 3 1, 3) := by decide +kernel
theorem dX9_ticksUntilArrival_100 : decode cX9_ticksUntilArrival 100 = .ok (.goto (-31), 3) := by decide +kernel
theorem dX9_ticksUntilArrival_103 : decode cX9_ticksUntilArrival 103 = .ok (.iconst 0, 1) := by decide +kernel
theorem dX9_ticksUntilArrival_104 : decode cX9_ticksUntilArrival 104 = .ok (.istore_n 3, 1) := by decide +kernel
theorem dX9_ticksUntilArrival_105 : decode cX9_ticksUntilArrival 105 = .ok (.iload_n 3, 1) := by decide +kernel
theorem dX9_ticksUntilArrival_106 : decode cX9_ticksUntilArrival 106 = .ok (.bipush 116, 2) := by decide +kernel
theorem dX9_ticksUntilArrival_108 : decode cX9_ticksUntilArrival 108 = .ok (.if_icmp .ge 21, 3) := by decide +kernel
theorem dX9_ticksUntilArrival_111 : decode cX9_ticksUntilArrival 111 = .ok (.aload_n 0, 1) := by decide +kernel
theorem dX9_ticksUntilArrival_112 : decode cX9_ticksUntilArrival 112 = .ok (.getfield 7, 3) := by decide +kernel
theorem dX9_ticksUntilArrival_115 : decode cX9_ticksUntilArrival 115 = .ok (.iload_n 3, 1) := by decide +kernel
theorem dX9_ticksUntilArrival_116 : decode cX9_ticksUntilArrival 116 = .ok (.aload_n 0, 1) := by decide +kernel
theorem dX9_ticksUntilArrival_117 : decode cX9_ticksUntilArrival 117 = .ok (.getfield 22, 3) := by decide +kernel
theorem dX9_ticksUntilArrival_120 : decode cX9_ticksUntilArrival 120 = .ok (.iload_n 3, 1) := by decide +kernel
theorem dX9_ticksUntilArrival_121 : decode cX9_ticksUntilArrival 121 = .ok (.iaload, 1) := by decide +kernel
theorem dX9_ticksUntilArrival_122 : decode cX9_ticksUntilArrival 122 = .ok (.iastore, 1) := by decide +kernel
theorem dX9_ticksUntilArrival_123 : decode cX9_ticksUntilArrival 123 = .ok (.iinc 3 1, 3) := by decide +kernel
theorem dX9_ticksUntilArrival_126 : decode cX9_ticksUntilArrival 126 = .ok (.goto (-21), 3) := by decide +kernel
theorem dX9_ticksUntilArrival_129 : decode cX9_ticksUntilArrival 129 = .ok (.iload_n 2, 1) := by decide +kernel
theorem dX9_ticksUntilArrival_130 : decode cX9_ticksUntilArrival 130 = .ok (.ifCond .ne 11, 3) := by decide +kernel
theorem dX9_ticksUntilArrival_133 : decode cX9_ticksUntilArrival 133 = .ok (.aload_n 0, 1) := by decide +kernel
theorem dX9_ticksUntilArrival_134 : decode cX9_ticksUntilArrival 134 = .ok (.iconst 2, 1) := by decide +kernel
theorem dX9_ticksUntilArrival_135 : decode cX9_ticksUntilArrival 135 = .ok (.invokevirtual 60, 3) := by decide +kernel
theorem dX9_ticksUntilArrival_138 : decode cX9_ticksUntilArrival 138 = .ok (.goto 4, 3) := by decide +kernel
theorem dX9_ticksUntilArrival_141 : decode cX9_ticksUntilArrival 141 = .ok (.iload_n 2, 1) := by decide +kernel
theorem dX9_ticksUntilArrival_142 : decode cX9_ticksUntilArrival 142 = .ok (.ireturn, 1) := by decide +kernel
theorem dX9_meanWaits_0 : decode cX9_meanWaits 0 = .ok (.aload_n 0, 1) := by decide +kernel
theorem dX9_meanWaits_1 : decode cX9_meanWaits 1 = .ok (.aload_n 0, 1) := by decide +kernel
theorem dX9_meanWaits_2 : decode cX9_meanWaits 2 = .ok (.getfield 7, 3) := by decide +kernel
theorem dX9_meanWaits_5 : decode cX9_meanWaits 5 = .ok (.iconst 1, 1) := by decide +kernel
theorem dX9_meanWaits_6 : decode cX9_meanWaits 6 = .ok (.iaload, 1) := by decide +kernel
theorem dX9_meanWaits_7 : decode cX9_meanWaits 7 = .ok (.ifCond .ne 7, 3) := by decide +kernel
theorem dX9_meanWaits_10 : decode cX9_meanWaits 10 = .ok (.iconst 1, 1) := by decide +kernel
theorem dX9_meanWaits_11 : decode cX9_meanWaits 11 = .ok (.goto 4, 3) := by decide +kernel
theorem dX9_meanWaits_14 : decode cX9_meanWaits 14 = .ok (.iconst 0, 1) := by decide +kernel
theorem dX9_meanWaits_15 : decode cX9_meanWaits 15 = .ok (.putfield 47, 3) := by decide +kernel
theorem dX9_meanWaits_18 : decode cX9_meanWaits 18 = .ok (.aload_n 0, 1) := by decide +kernel
theorem dX9_meanWaits_19 : decode cX9_meanWaits 19 = .ok (.getfield 47, 3) := by decide +kernel
theorem dX9_meanWaits_22 : decode cX9_meanWaits 22 = .ok (.ifCond .le 5, 3) := by decide +kernel
theorem dX9_meanWaits_25 : decode cX9_meanWaits 25 = .ok (.dconst 0, 1) := by decide +kernel
theorem dX9_meanWaits_26 : decode cX9_meanWaits 26 = .ok (.dreturn, 1) := by decide +kernel
theorem dX9_meanWaits_27 : decode cX9_meanWaits 27 = .ok (.iconst 0, 1) := by decide +kernel
theorem dX9_meanWaits_28 : decode cX9_meanWaits 28 = .ok (.istore_n 1, 1) := by decide +kernel
theorem dX9_meanWaits_29 : decode cX9_meanWaits 29 = .ok (.iconst 0, 1) := by decide +kernel
theorem dX9_meanWaits_30 : decode cX9_meanWaits 30 = .ok (.istore_n 2, 1) := by decide +kernel
theorem dX9_meanWaits_31 : decode cX9_meanWaits 31 = .ok (.iload_n 2, 1) := by decide +kernel
theorem dX9_meanWaits_32 : decode cX9_meanWaits 32 = .ok (.aload_n 0, 1) := by decide +kernel
theorem dX9_meanWaits_33 : decode cX9_meanWaits 33 = .ok (.getfield 7, 3) := by decide +kernel
theorem dX9_meanWaits_36 : decode cX9_meanWaits 36 = .ok (.iconst 1, 1) := by decide +kernel
theorem dX9_meanWaits_37 : decode cX9_meanWaits 37 = .ok (.iaload, 1) := by decide +kernel
theorem dX9_meanWaits_38 : decode cX9_meanWaits 38 = .ok (.if_icmp .ge 18, 3) := by decide +kernel
theorem dX9_meanWaits_41 : decode cX9_meanWaits 41 = .ok (.iload_n 1, 1) := by decide +kernel
theorem dX9_meanWaits_42 : decode cX9_meanWaits 42 = .ok (.aload_n 0, 1) := by decide +kernel
theorem dX9_meanWaits_43 : decode cX9_meanWaits 43 = .ok (.iload_n 2, 1) := by decide +kernel
theorem dX9_meanWaits_44 : decode cX9_meanWaits 44 = .ok (.iconst 5, 1) := by decide +kernel
theorem dX9_meanWaits_45 : decode cX9_meanWaits 45 = .ok (.invokevirtual 75, 3) := by decide +kernel
theorem dX9_meanWaits_48 : decode cX9_meanWaits 48 = .ok (.iadd, 1) := by decide +kernel
theorem dX9_meanWaits_49 : decode cX9_meanWaits 49 = .ok (.istore_n 1, 1) := by decide +kernel
theorem dX9_meanWaits_50 : decode cX9_meanWaits 50 = .ok (.iinc 2 1, 3) := by decide +kernel
theorem dX9_meanWaits_53 : decode cX9_meanWaits 53 = .ok (.goto (-22), 3) := by decide +kernel
theorem dX9_meanWaits_56 : decode cX9_meanWaits 56 = .ok (.iload_n 1, 1) := by decide +kernel
theorem dX9_meanWaits_57 : decode cX9_meanWaits 57 = .ok (.i2d, 1) := by decide +kernel
theorem dX9_meanWaits_58 : decode cX9_meanWaits 58 = .ok (.aload_n 0, 1) := by decide +kernel
theorem dX9_meanWaits_59 : decode cX9_meanWaits 59 = .ok (.getfield 7, 3) := by decide +kernel
theorem dX9_meanWaits_62 : decode cX9_meanWaits 62 = .ok (.iconst 1, 1) := by decide +kernel
theorem dX9_meanWaits_63 : decode cX9_meanWaits 63 = .ok (.iaload, 1) := by decide +kernel
theorem dX9_meanWaits_64 : decode cX9_meanWaits 64 = .ok (.i2d, 1) := by decide +kernel
theorem dX9_meanWaits_65 : decode cX9_meanWaits 65 = .ok (.ddiv, 1) := by decide +kernel
theorem dX9_meanWaits_66 : decode cX9_meanWaits 66 = .ok (.dreturn, 1) := by decide +kernel
theorem dX9_occupiedFraction_0 : decode cX9_occupiedFraction 0 = .ok (.aload_n 0, 1) := by decide +kernel
theorem dX9_occupiedFraction_1 : decode cX9_occupiedFraction 1 = .ok (.aload_n 0, 1) := by decide +kernel
theorem dX9_occupiedFraction_2 : decode cX9_occupiedFraction 2 = .ok (.getfield 7, 3) := by decide +kernel
theorem dX9_occupiedFraction_5 : decode cX9_occupiedFraction 5 = .ok (.iconst 0, 1) := by decide +kernel
theorem dX9_occupiedFraction_6 : decode cX9_occupiedFraction 6 = .ok (.iaload, 1) := by decide +kernel
theorem dX9_occupiedFraction_7 : decode cX9_occupiedFraction 7 = .ok (.ifCond .ne 7, 3) := by decide +kernel
theorem dX9_occupiedFraction_10 : decode cX9_occupiedFraction 10 = .ok (.iconst 1, 1) := by decide +kernel
theorem dX9_occupiedFraction_11 : decode cX9_occupiedFraction 11 = .ok (.goto 4, 3) := by decide +kernel
theorem dX9_occupiedFraction_14 : decode cX9_occupiedFraction 14 = .ok (.iconst 0, 1) := by decide +kernel
theorem dX9_occupiedFraction_15 : decode cX9_occupiedFraction 15 = .ok (.putfield 47, 3) := by decide +kernel
theorem dX9_occupiedFraction_18 : decode cX9_occupiedFraction 18 = .ok (.aload_n 0, 1) := by decide +kernel
theorem dX9_occupiedFraction_19 : decode cX9_occupiedFraction 19 = .ok (.getfield 47, 3) := by decide +kernel
theorem dX9_occupiedFraction_22 : decode cX9_occupiedFraction 22 = .ok (.ifCond .le 7, 3) := by decide +kernel
theorem dX9_occupiedFraction_25 : decode cX9_occupiedFraction 25 = .ok (.fconst 0, 1) := by decide +kernel
theorem dX9_occupiedFraction_26 : decode cX9_occupiedFraction 26 = .ok (.goto 18, 3) := by decide +kernel
theorem dX9_occupiedFraction_29 : decode cX9_occupiedFraction 29 = .ok (.aload_n 0, 1) := by decide +kernel
theorem dX9_occupiedFraction_30 : decode cX9_occupiedFraction 30 = .ok (.getfield 7, 3) := by decide +kernel
theorem dX9_occupiedFraction_33 : decode cX9_occupiedFraction 33 = .ok (.iconst 1, 1) := by decide +kernel
theorem dX9_occupiedFraction_34 : decode cX9_occupiedFraction 34 = .ok (.iaload, 1) := by decide +kernel
theorem dX9_occupiedFraction_35 : decode cX9_occupiedFraction 35 = .ok (.i2f, 1) := by decide +kernel
theorem dX9_occupiedFraction_36 : decode cX9_occupiedFraction 36 = .ok (.aload_n 0, 1) := by decide +kernel
theorem dX9_occupiedFraction_37 : decode cX9_occupiedFraction 37 = .ok (.getfield 7, 3) := by decide +kernel
theorem dX9_occupiedFraction_40 : decode cX9_occupiedFraction 40 = .ok (.iconst 0, 1) := by decide +kernel
theorem dX9_occupiedFraction_41 : decode cX9_occupiedFraction 41 = .ok (.iaload, 1) := by decide +kernel
theorem dX9_occupiedFraction_42 : decode cX9_occupiedFraction 42 = .ok (.i2f, 1) := by decide +kernel
theorem dX9_occupiedFraction_43 : decode cX9_occupiedFraction 43 = .ok (.fdiv, 1) := by decide +kernel
theorem dX9_occupiedFraction_44 : decode cX9_occupiedFraction 44 = .ok (.freturn, 1) := by decide +kernel
theorem dX9_writes_0 : decode cX9_writes 0 = .ok (.aload_n 0, 1) := by decide +kernel
theorem dX9_writes_1 : decode cX9_writes 1 = .ok (.getfield 31, 3) := by decide +kernel
theorem dX9_writes_4 : decode cX9_writes 4 = .ok (.aload_n 0, 1) := by decide +kernel
theorem dX9_writes_5 : decode cX9_writes 5 = .ok (.getfield 190, 3) := by decide +kernel
theorem dX9_writes_8 : decode cX9_writes 8 = .ok (.iload_n 1, 1) := by decide +kernel
theorem dX9_writes_9 : decode cX9_writes 9 = .ok (.iastore, 1) := by decide +kernel
theorem dX9_writes_10 : decode cX9_writes 10 = .ok (.aload_n 0, 1) := by decide +kernel
theorem dX9_writes_11 : decode cX9_writes 11 = .ok (.dup, 1) := by decide +kernel
theorem dX9_writes_12 : decode cX9_writes 12 = .ok (.getfield 190, 3) := by decide +kernel
theorem dX9_writes_15 : decode cX9_writes 15 = .ok (.iconst 1, 1) := by decide +kernel
theorem dX9_writes_16 : decode cX9_writes 16 = .ok (.iadd, 1) := by decide +kernel
theorem dX9_writes_17 : decode cX9_writes 17 = .ok (.putfield 190, 3) := by decide +kernel
theorem dX9_writes_20 : decode cX9_writes 20 = .ok (.return_, 1) := by decide +kernel
theorem dX9_writesNumber_0 : decode cX9_writesNumber 0 = .ok (.iload_n 1, 1) := by decide +kernel
theorem dX9_writesNumber_1 : decode cX9_writesNumber 1 = .ok (.bipush 9, 2) := by decide +kernel
theorem dX9_writesNumber_3 : decode cX9_writesNumber 3 = .ok (.if_icmp .le 14, 3) := by decide +kernel
theorem dX9_writesNumber_6 : decode cX9_writesNumber 6 = .ok (.aload_n 0, 1) := by decide +kernel
theorem dX9_writesNumber_7 : decode cX9_writesNumber 7 = .ok (.bipush 48, 2) := by decide +kernel
theorem dX9_writesNumber_9 : decode cX9_writesNumber 9 = .ok (.iload_n 1, 1) := by decide +kernel
theorem dX9_writesNumber_10 : decode cX9_writesNumber 10 = .ok (.bipush 10, 2) := by decide +kernel
theorem dX9_writesNumber_12 : decode cX9_writesNumber 12 = .ok (.idiv, 1) := by decide +kernel
theorem dX9_writesNumber_13 : decode cX9_writesNumber 13 = .ok (.iadd, 1) := by decide +kernel
theorem dX9_writesNumber_14 : decode cX9_writesNumber 14 = .ok (.invokevirtual 193, 3) := by decide +kernel
theorem dX9_writesNumber_17 : decode cX9_writesNumber 17 = .ok (.aload_n 0, 1) := by decide +kernel
theorem dX9_writesNumber_18 : decode cX9_writesNumber 18 = .ok (.bipush 48, 2) := by decide +kernel
theorem dX9_writesNumber_20 : decode cX9_writesNumber 20 = .ok (.iload_n 1, 1) := by decide +kernel
theorem dX9_writesNumber_21 : decode cX9_writesNumber 21 = .ok (.bipush 10, 2) := by decide +kernel
theorem dX9_writesNumber_23 : decode cX9_writesNumber 23 = .ok (.irem, 1) := by decide +kernel
theorem dX9_writesNumber_24 : decode cX9_writesNumber 24 = .ok (.iadd, 1) := by decide +kernel
theorem dX9_writesNumber_25 : decode cX9_writesNumber 25 = .ok (.invokevirtual 193, 3) := by decide +kernel
theorem dX9_writesNumber_28 : decode cX9_writesNumber 28 = .ok (.return_, 1) := by decide +kernel
theorem dX9_writeTrain_0 : decode cX9_writeTrain 0 = .ok (.aload_n 0, 1) := by decide +kernel
theorem dX9_writeTrain_1 : decode cX9_writeTrain 1 = .ok (.aload_n 0, 1) := by decide +kernel
theorem dX9_writeTrain_2 : decode cX9_writeTrain 2 = .ok (.iload_n 1, 1) := by decide +kernel
theorem dX9_writeTrain_3 : decode cX9_writeTrain 3 = .ok (.invokevirtual 109, 3) := by decide +kernel
theorem dX9_writeTrain_6 : decode cX9_writeTrain 6 = .ok (.ifCond .eq 7, 3) := by decide +kernel
theorem dX9_writeTrain_9 : decode cX9_writeTrain 9 = .ok (.iconst 0, 1) := by decide +kernel
theorem dX9_writeTrain_10 : decode cX9_writeTrain 10 = .ok (.goto 4, 3) := by decide +kernel
theorem dX9_writeTrain_13 : decode cX9_writeTrain 13 = .ok (.iconst 1, 1) := by decide +kernel
theorem dX9_writeTrain_14 : decode cX9_writeTrain 14 = .ok (.putfield 47, 3) := by decide +kernel
theorem dX9_writeTrain_17 : decode cX9_writeTrain 17 = .ok (.aload_n 0, 1) := by decide +kernel
theorem dX9_writeTrain_18 : decode cX9_writeTrain 18 = .ok (.getfield 47, 3) := by decide +kernel
theorem dX9_writeTrain_21 : decode cX9_writeTrain 21 = .ok (.ifCond .le 5, 3) := by decide +kernel
theorem dX9_writeTrain_24 : decode cX9_writeTrain 24 = .ok (.iconst 0, 1) := by decide +kernel
theorem dX9_writeTrain_25 : decode cX9_writeTrain 25 = .ok (.ireturn, 1) := by decide +kernel
theorem dX9_writeTrain_26 : decode cX9_writeTrain 26 = .ok (.aload_n 0, 1) := by decide +kernel
theorem dX9_writeTrain_27 : decode cX9_writeTrain 27 = .ok (.iconst 0, 1) := by decide +kernel
theorem dX9_writeTrain_28 : decode cX9_writeTrain 28 = .ok (.putfield 190, 3) := by decide +kernel
theorem dX9_writeTrain_31 : decode cX9_writeTrain 31 = .ok (.aload_n 0, 1) := by decide +kernel
theorem dX9_writeTrain_32 : decode cX9_writeTrain 32 = .ok (.bipush 84, 2) := by decide +kernel
theorem dX9_writeTrain_34 : decode cX9_writeTrain 34 = .ok (.invokevirtual 193, 3) := by decide +kernel
theorem dX9_writeTrain_37 : decode cX9_writeTrain 37 = .ok (.aload_n 0, 1) := by decide +kernel
theorem dX9_writeTrain_38 : decode cX9_writeTrain 38 = .ok (.iload_n 1, 1) := by decide +kernel
theorem dX9_writeTrain_39 : decode cX9_writeTrain 39 = .ok (.invokevirtual 196, 3) := by decide +kernel
theorem dX9_writeTrain_42 : decode cX9_writeTrain 42 = .ok (.aload_n 0, 1) := by decide +kernel
theorem dX9_writeTrain_43 : decode cX9_writeTrain 43 = .ok (.bipush 64, 2) := by decide +kernel
theorem dX9_writeTrain_45 : decode cX9_writeTrain 45 = .ok (.invokevirtual 193, 3) := by decide +kernel
theorem dX9_writeTrain_48 : decode cX9_writeTrain 48 = .ok (.aload_n 0, 1) := by decide +kernel
theorem dX9_writeTrain_49 : decode cX9_writeTrain 49 = .ok (.aload_n 0, 1) := by decide +kernel
theorem dX9_writeTrain_50 : decode cX9_writeTrain 50 = .ok (.iload_n 1, 1) := by decide +kernel
theorem dX9_writeTrain_51 : decode cX9_writeTrain 51 = .ok (.iconst 0, 1) := by decide +kernel
theorem dX9_writeTrain_52 : decode cX9_writeTrain 52 = .ok (.invokevirtual 75, 3) := by decide +kernel
theorem dX9_writeTrain_55 : decode cX9_writeTrain 55 = .ok (.invokevirtual 196, 3) := by decide +kernel
theorem dX9_writeTrain_58 : decode cX9_writeTrain 58 = .ok (.aload_n 0, 1) := by decide +kernel
theorem dX9_writeTrain_59 : decode cX9_writeTrain 59 = .ok (.iload_n 1, 1) := by decide +kernel
theorem dX9_writeTrain_60 : decode cX9_writeTrain 60 = .ok (.iconst 2, 1) := by decide +kernel
theorem dX9_writeTrain_61 : decode cX9_writeTrain 61 = .ok (.invokevirtual 75, 3) := by decide +kernel
theorem dX9_writeTrain_64 : decode cX9_writeTrain 64 = .ok (.ifCond .le 19, 3) := by decide +kernel
theorem dX9_writeTrain_67 : decode cX9_writeTrain 67 = .ok (.aload_n 0, 1) := by decide +kernel
theorem dX9_writeTrain_68 : decode cX9_writeTrain 68 = .ok (.bipush 43, 2) := by decide +kernel
theorem dX9_writeTrain_70 : decode cX9_writeTrain 70 = .ok (.invokevirtual 193, 3) := by decide +kernel
theorem dX9_writeTrain_73 : decode cX9_writeTrain 73 = .ok (.aload_n 0, 1) := by decide +kernel
theorem dX9_writeTrain_74 : decode cX9_writeTrain 74 = .ok (.aload_n 0, 1) := by decide +kernel
theorem dX9_writeTrain_75 : decode cX9_writeTrain 75 = .ok (.iload_n 1, 1) := by decide +kernel
theorem dX9_writeTrain_76 : decode cX9_writeTrain 76 = .ok (.iconst 2, 1) := by decide +kernel
theorem dX9_writeTrain_77 : decode cX9_writeTrain 77 = .ok (.invokevirtual 75, 3) := by decide +kernel
theorem dX9_writeTrain_80 : decode cX9_writeTrain 80 = .ok (.invokevirtual 196, 3) := by decide +kernel
theorem dX9_writeTrain_83 : decode cX9_writeTrain 83 = .ok (.aload_n 0, 1) := by decide +kernel
theorem dX9_writeTrain_84 : decode cX9_writeTrain 84 = .ok (.iload_n 1, 1) := by decide +kernel
theorem dX9_writeTrain_85 : decode cX9_writeTrain 85 = .ok (.invokevirtual 81, 3) := by decide +kernel
theorem dX9_writeTrain_88 : decode cX9_writeTrain 88 = .ok (.iconst (-1), 1) := by decide +kernel
theorem dX9_writeTrain_89 : decode cX9_writeTrain 89 = .ok (.if_icmp .eq 18, 3) := by decide +kernel
theorem dX9_writeTrain_92 : decode cX9_writeTrain 92 = .ok (.aload_n 0, 1) := by decide +kernel
theorem dX9_writeTrain_93 : decode cX9_writeTrain 93 = .ok (.bipush 62, 2) := by decide +kernel
theorem dX9_writeTrain_95 : decode cX9_writeTrain 95 = .ok (.invokevirtual 193, 3) := by decide +kernel
theorem dX9_writeTrain_98 : decode cX9_writeTrain 98 = .ok (.aload_n 0, 1) := by decide +kernel
theorem dX9_writeTrain_99 : decode cX9_writeTrain 99 = .ok (.aload_n 0, 1) := by decide +kernel
theorem dX9_writeTrain_100 : decode cX9_writeTrain 100 = .ok (.iload_n 1, 1) := by decide +kernel
theorem dX9_writeTrain_101 : decode cX9_writeTrain 101 = .ok (.invokevirtual 81, 3) := by decide +kernel
theorem dX9_writeTrain_104 : decode cX9_writeTrain 104 = .ok (.invokevirtual 196, 3) := by decide +kernel
theorem dX9_writeTrain_107 : decode cX9_writeTrain 107 = .ok (.aload_n 0, 1) := by decide +kernel
theorem dX9_writeTrain_108 : decode cX9_writeTrain 108 = .ok (.iload_n 1, 1) := by decide +kernel
theorem dX9_writeTrain_109 : decode cX9_writeTrain 109 = .ok (.iconst 4, 1) := by decide +kernel
theorem dX9_writeTrain_110 : decode cX9_writeTrain 110 = .ok (.invokevirtual 75, 3) := by decide +kernel
theorem dX9_writeTrain_113 : decode cX9_writeTrain 113 = .ok (.iconst 1, 1) := by decide +kernel
theorem dX9_writeTrain_114 : decode cX9_writeTrain 114 = .ok (.if_icmp .ne 9, 3) := by decide +kernel
theorem dX9_writeTrain_117 : decode cX9_writeTrain 117 = .ok (.aload_n 0, 1) := by decide +kernel
theorem dX9_writeTrain_118 : decode cX9_writeTrain 118 = .ok (.bipush 33, 2) := by decide +kernel
theorem dX9_writeTrain_120 : decode cX9_writeTrain 120 = .ok (.invokevirtual 193, 3) := by decide +kernel
theorem dX9_writeTrain_123 : decode cX9_writeTrain 123 = .ok (.aload_n 0, 1) := by decide +kernel
theorem dX9_writeTrain_124 : decode cX9_writeTrain 124 = .ok (.getfield 190, 3) := by decide +kernel
theorem dX9_writeTrain_127 : decode cX9_writeTrain 127 = .ok (.ireturn, 1) := by decide +kernel
theorem dX9_writeSignals_0 : decode cX9_writeSignals 0 = .ok (.aload_n 0, 1) := by decide +kernel
theorem dX9_writeSignals_1 : decode cX9_writeSignals 1 = .ok (.iconst 0, 1) := by decide +kernel
theorem dX9_writeSignals_2 : decode cX9_writeSignals 2 = .ok (.putfield 47, 3) := by decide +kernel
theorem dX9_writeSignals_5 : decode cX9_writeSignals 5 = .ok (.aload_n 0, 1) := by decide +kernel
theorem dX9_writeSignals_6 : decode cX9_writeSignals 6 = .ok (.iconst 0, 1) := by decide +kernel
theorem dX9_writeSignals_7 : decode cX9_writeSignals 7 = .ok (.putfield 190, 3) := by decide +kernel
theorem dX9_writeSignals_10 : decode cX9_writeSignals 10 = .ok (.iconst 0, 1) := by decide +kernel
theorem dX9_writeSignals_11 : decode cX9_writeSignals 11 = .ok (.istore_n 1, 1) := by decide +kernel
theorem dX9_writeSignals_12 : decode cX9_writeSignals 12 = .ok (.iload_n 1, 1) := by decide +kernel
theorem dX9_writeSignals_13 : decode cX9_writeSignals 13 = .ok (.aload_n 0, 1) := by decide +kernel
theorem dX9_writeSignals_14 : decode cX9_writeSignals 14 = .ok (.getfield 7, 3) := by decide +kernel
theorem dX9_writeSignals_17 : decode cX9_writeSignals 17 = .ok (.iconst 0, 1) := by decide +kernel
theorem dX9_writeSignals_18 : decode cX9_writeSignals 18 = .ok (.iaload, 1) := by decide +kernel
theorem dX9_writeSignals_19 : decode cX9_writeSignals 19 = .ok (.if_icmp .ge 18, 3) := by decide +kernel
theorem dX9_writeSignals_22 : decode cX9_writeSignals 22 = .ok (.aload_n 0, 1) := by decide +kernel
theorem dX9_writeSignals_23 : decode cX9_writeSignals 23 = .ok (.aload_n 0, 1) := by decide +kernel
theorem dX9_writeSignals_24 : decode cX9_writeSignals 24 = .ok (.iload_n 1, 1) := by decide +kernel
theorem dX9_writeSignals_25 : decode cX9_writeSignals 25 = .ok (.invokevirtual 151, 3) := by decide +kernel
theorem dX9_writeSignals_28 : decode cX9_writeSignals 28 = .ok (.invokevirtual 193, 3) := by decide +kernel
theorem dX9_writeSignals_31 : decode cX9_writeSignals 31 = .ok (.iinc 1 1, 3) := by decide +kernel
theorem dX9_writeSignals_34 : decode cX9_writeSignals 34 = .ok (.goto (-22), 3) := by decide +kernel
theorem dX9_writeSignals_37 : decode cX9_writeSignals 37 = .ok (.aload_n 0, 1) := by decide +kernel
theorem dX9_writeSignals_38 : decode cX9_writeSignals 38 = .ok (.getfield 190, 3) := by decide +kernel
theorem dX9_writeSignals_41 : decode cX9_writeSignals 41 = .ok (.ireturn, 1) := by decide +kernel
theorem dX9_outputCharacter_0 : decode cX9_outputCharacter 0 = .ok (.aload_n 0, 1) := by decide +kernel
theorem dX9_outputCharacter_1 : decode cX9_outputCharacter 1 = .ok (.iload_n 1, 1) := by decide +kernel
theorem dX9_outputCharacter_2 : decode cX9_outputCharacter 2 = .ok (.iconst 0, 1) := by decide +kernel
theorem dX9_outputCharacter_3 : decode cX9_outputCharacter 3 = .ok (.aload_n 0, 1) := by decide +kernel
theorem dX9_outputCharacter_4 : decode cX9_outputCharacter 4 = .ok (.getfield 190, 3) := by decide +kernel
theorem dX9_outputCharacter_7 : decode cX9_outputCharacter 7 = .ok (.iconst 1, 1) := by decide +kernel
theorem dX9_outputCharacter_8 : decode cX9_outputCharacter 8 = .ok (.isub, 1) := by decide +kernel
theorem dX9_outputCharacter_9 : decode cX9_outputCharacter 9 = .ok (.invokestatic 63, 3) := by decide +kernel
theorem dX9_outputCharacter_12 : decode cX9_outputCharacter 12 = .ok (.ifCond .eq 7, 3) := by decide +kernel
theorem dX9_outputCharacter_15 : decode cX9_outputCharacter 15 = .ok (.iconst 0, 1) := by decide +kernel
theorem dX9_outputCharacter_16 : decode cX9_outputCharacter 16 = .ok (.goto 4, 3) := by decide +kernel
theorem dX9_outputCharacter_19 : decode cX9_outputCharacter 19 = .ok (.iconst 1, 1) := by decide +kernel
theorem dX9_outputCharacter_20 : decode cX9_outputCharacter 20 = .ok (.putfield 47, 3) := by decide +kernel
theorem dX9_outputCharacter_23 : decode cX9_outputCharacter 23 = .ok (.aload_n 0, 1) := by decide +kernel
theorem dX9_outputCharacter_24 : decode cX9_outputCharacter 24 = .ok (.getfield 47, 3) := by decide +kernel
theorem dX9_outputCharacter_27 : decode cX9_outputCharacter 27 = .ok (.ifCond .le 7, 3) := by decide +kernel
theorem dX9_outputCharacter_30 : decode cX9_outputCharacter 30 = .ok (.iconst 0, 1) := by decide +kernel
theorem dX9_outputCharacter_31 : decode cX9_outputCharacter 31 = .ok (.goto 10, 3) := by decide +kernel
theorem dX9_outputCharacter_34 : decode cX9_outputCharacter 34 = .ok (.aload_n 0, 1) := by decide +kernel
theorem dX9_outputCharacter_35 : decode cX9_outputCharacter 35 = .ok (.getfield 31, 3) := by decide +kernel
theorem dX9_outputCharacter_38 : decode cX9_outputCharacter 38 = .ok (.iload_n 1, 1) := by decide +kernel
theorem dX9_outputCharacter_39 : decode cX9_outputCharacter 39 = .ok (.iaload, 1) := by decide +kernel
theorem dX9_outputCharacter_40 : decode cX9_outputCharacter 40 = .ok (.i2c, 1) := by decide +kernel
theorem dX9_outputCharacter_41 : decode cX9_outputCharacter 41 = .ok (.ireturn, 1) := by decide +kernel
theorem dX9_isConsistent_0 : decode cX9_isConsistent 0 = .ok (.aload_n 0, 1) := by decide +kernel
theorem dX9_isConsistent_1 : decode cX9_isConsistent 1 = .ok (.iconst 0, 1) := by decide +kernel
theorem dX9_isConsistent_2 : decode cX9_isConsistent 2 = .ok (.putfield 47, 3) := by decide +kernel
theorem dX9_isConsistent_5 : decode cX9_isConsistent 5 = .ok (.iconst 1, 1) := by decide +kernel
theorem dX9_isConsistent_6 : decode cX9_isConsistent 6 = .ok (.ireturn, 1) := by decide +kernel
theorem dX9_feed_0 : decode cX9_feed 0 = .ok (.aload_n 0, 1) := by decide +kernel
theorem dX9_feed_1 : decode cX9_feed 1 = .ok (.aload_n 0, 1) := by decide +kernel
theorem dX9_feed_2 : decode cX9_feed 2 = .ok (.getfield 199, 3) := by decide +kernel
theorem dX9_feed_5 : decode cX9_feed 5 = .ok (.bipush 60, 2) := by decide +kernel
theorem dX9_feed_7 : decode cX9_feed 7 = .ok (.if_icmp .ne 7, 3) := by decide +kernel
theorem dX9_feed_10 : decode cX9_feed 10 = .ok (.iconst 1, 1) := by decide +kernel
theorem dX9_feed_11 : decode cX9_feed 11 = .ok (.goto 4, 3) := by decide +kernel
theorem dX9_feed_14 : decode cX9_feed 14 = .ok (.iconst 0, 1) := by decide +kernel
theorem dX9_feed_15 : decode cX9_feed 15 = .ok (.putfield 47, 3) := by decide +kernel
theorem dX9_feed_18 : decode cX9_feed 18 = .ok (.aload_n 0, 1) := by decide +kernel
theorem dX9_feed_19 : decode cX9_feed 19 = .ok (.getfield 47, 3) := by decide +kernel
theorem dX9_feed_22 : decode cX9_feed 22 = .ok (.ifCond .le 5, 3) := by decide +kernel
theorem dX9_feed_25 : decode cX9_feed 25 = .ok (.iconst 0, 1) := by decide +kernel
theorem dX9_feed_26 : decode cX9_feed 26 = .ok (.ireturn, 1) := by decide +kernel
theorem dX9_feed_27 : decode cX9_feed 27 = .ok (.aload_n 0, 1) := by decide +kernel
theorem dX9_feed_28 : decode cX9_feed 28 = .ok (.getfield 25, 3) := by decide +kernel
theorem dX9_feed_31 : decode cX9_feed 31 = .ok (.aload_n 0, 1) := by decide +kernel
theorem dX9_feed_32 : decode cX9_feed 32 = .ok (.getfield 199, 3) := by decide +kernel
theorem dX9_feed_35 : decode cX9_feed 35 = .ok (.iload_n 1, 1) := by decide +kernel
theorem dX9_feed_36 : decode cX9_feed 36 = .ok (.iastore, 1) := by decide +kernel
theorem dX9_feed_37 : decode cX9_feed 37 = .ok (.aload_n 0, 1) := by decide +kernel
theorem dX9_feed_38 : decode cX9_feed 38 = .ok (.dup, 1) := by decide +kernel
theorem dX9_feed_39 : decode cX9_feed 39 = .ok (.getfield 199, 3) := by decide +kernel
theorem dX9_feed_42 : decode cX9_feed 42 = .ok (.iconst 1, 1) := by decide +kernel
theorem dX9_feed_43 : decode cX9_feed 43 = .ok (.iadd, 1) := by decide +kernel
theorem dX9_feed_44 : decode cX9_feed 44 = .ok (.putfield 199, 3) := by decide +kernel
theorem dX9_feed_47 : decode cX9_feed 47 = .ok (.aload_n 0, 1) := by decide +kernel
theorem dX9_feed_48 : decode cX9_feed 48 = .ok (.getfield 199, 3) := by decide +kernel
theorem dX9_feed_51 : decode cX9_feed 51 = .ok (.ireturn, 1) := by decide +kernel
theorem dX9_here_0 : decode cX9_here 0 = .ok (.aload_n 0, 1) := by decide +kernel
theorem dX9_here_1 : decode cX9_here 1 = .ok (.getfield 202, 3) := by decide +kernel
theorem dX9_here_4 : decode cX9_here 4 = .ok (.iload_n 1, 1) := by decide +kernel
theorem dX9_here_5 : decode cX9_here 5 = .ok (.iadd, 1) := by decide +kernel
theorem dX9_here_6 : decode cX9_here 6 = .ok (.aload_n 0, 1) := by decide +kernel
theorem dX9_here_7 : decode cX9_here 7 = .ok (.getfield 205, 3) := by decide +kernel
theorem dX9_here_10 : decode cX9_here 10 = .ok (.if_icmp .ge 17, 3) := by decide +kernel
theorem dX9_here_13 : decode cX9_here 13 = .ok (.aload_n 0, 1) := by decide +kernel
theorem dX9_here_14 : decode cX9_here 14 = .ok (.getfield 25, 3) := by decide +kernel
theorem dX9_here_17 : decode cX9_here 17 = .ok (.aload_n 0, 1) := by decide +kernel
theorem dX9_here_18 : decode cX9_here 18 = .ok (.getfield 202, 3) := by decide +kernel
theorem dX9_here_21 : decode cX9_here 21 = .ok (.iload_n 1, 1) := by decide +kernel
theorem dX9_here_22 : decode cX9_here 22 = .ok (.iadd, 1) := by decide +kernel
theorem dX9_here_23 : decode cX9_here 23 = .ok (.iaload, 1) := by decide +kernel
theorem dX9_here_24 : decode cX9_here 24 = .ok (.goto 4, 3) := by decide +kernel
theorem dX9_here_27 : decode cX9_here 27 = .ok (.iconst (-1), 1) := by decide +kernel
theorem dX9_here_28 : decode cX9_here 28 = .ok (.ireturn, 1) := by decide +kernel
theorem dX9_says_0 : decode cX9_says 0 = .ok (.iconst 0, 1) := by decide +kernel
theorem dX9_says_1 : decode cX9_says 1 = .ok (.istore_n 2, 1) := by decide +kernel
theorem dX9_says_2 : decode cX9_says 2 = .ok (.iload_n 2, 1) := by decide +kernel
theorem dX9_says_3 : decode cX9_says 3 = .ok (.aload_n 1, 1) := by decide +kernel
theorem dX9_says_4 : decode cX9_says 4 = .ok (.invokevirtual 208, 3) := by decide +kernel
theorem dX9_says_7 : decode cX9_says 7 = .ok (.if_icmp .ge 59, 3) := by decide +kernel
theorem dX9_says_10 : decode cX9_says 10 = .ok (.aload_n 0, 1) := by decide +kernel
theorem dX9_says_11 : decode cX9_says 11 = .ok (.getfield 213, 3) := by decide +kernel
theorem dX9_says_14 : decode cX9_says 14 = .ok (.ifCond .ne 52, 3) := by decide +kernel
theorem dX9_says_17 : decode cX9_says 17 = .ok (.aload_n 0, 1) := by decide +kernel
theorem dX9_says_18 : decode cX9_says 18 = .ok (.aload_n 0, 1) := by decide +kernel
theorem dX9_says_19 : decode cX9_says 19 = .ok (.iconst 0, 1) := by decide +kernel
theorem dX9_says_20 : decode cX9_says 20 = .ok (.invokevirtual 217, 3) := by decide +kernel
theorem dX9_says_23 : decode cX9_says 23 = .ok (.aload_n 1, 1) := by decide +kernel
theorem dX9_says_24 : decode cX9_says 24 = .ok (.iload_n 2, 1) := by decide +kernel
theorem dX9_says_25 : decode cX9_says 25 = .ok (.invokevirtual 220, 3) := by decide +kernel
theorem dX9_says_28 : decode cX9_says 28 = .ok (.if_icmp .eq 7, 3) := by decide +kernel
theorem dX9_says_31 : decode cX9_says 31 = .ok (.iconst 1, 1) := by decide +kernel
theorem dX9_says_32 : decode cX9_says 32 = .ok (.goto 4, 3) := by decide +kernel
theorem dX9_says_35 : decode cX9_says 35 = .ok (.iconst 0, 1) := by decide +kernel
theorem dX9_says_36 : decode cX9_says 36 = .ok (.putfield 213, 3) := by decide +kernel
theorem dX9_says_39 : decode cX9_says 39 = .ok (.aload_n 0, 1) := by decide +kernel
theorem dX9_says_40 : decode cX9_says 40 = .ok (.dup, 1) := by decide +kernel
theorem dX9_says_41 : decode cX9_says 41 = .ok (.getfield 202, 3) := by decide +kernel
theorem dX9_says_44 : decode cX9_says 44 = .ok (.aload_n 0, 1) := by decide +kernel
theorem dX9_says_45 : decode cX9_says 45 = .ok (.getfield 213, 3) := by decide +kernel
theorem dX9_says_48 : decode cX9_says 48 = .ok (.ifCond .eq 7, 3) := by decide +kernel
theorem dX9_says_51 : decode cX9_says 51 = .ok (.iconst 0, 1) := by decide +kernel
theorem dX9_says_52 : decode cX9_says 52 = .ok (.goto 4, 3) := by decide +kernel
theorem dX9_says_55 : decode cX9_says 55 = .ok (.iconst 1, 1) := by decide +kernel
theorem dX9_says_56 : decode cX9_says 56 = .ok (.iadd, 1) := by decide +kernel
theorem dX9_says_57 : decode cX9_says 57 = .ok (.putfield 202, 3) := by decide +kernel
theorem dX9_says_60 : decode cX9_says 60 = .ok (.iinc 2 1, 3) := by decide +kernel
theorem dX9_says_63 : decode cX9_says 63 = .ok (.goto (-61), 3) := by decide +kernel
theorem dX9_says_66 : decode cX9_says 66 = .ok (.return_, 1) := by decide +kernel
theorem dX9_number_0 : decode cX9_number 0 = .ok (.iconst 0, 1) := by decide +kernel
theorem dX9_number_1 : decode cX9_number 1 = .ok (.istore_n 3, 1) := by decide +kernel
theorem dX9_number_2 : decode cX9_number 2 = .ok (.iconst 0, 1) := by decide +kernel
theorem dX9_number_3 : decode cX9_number 3 = .ok (.istore 4, 2) := by decide +kernel
theorem dX9_number_5 : decode cX9_number 5 = .ok (.aload_n 0, 1) := by decide +kernel
theorem dX9_number_6 : decode cX9_number 6 = .ok (.getfield 213, 3) := by decide +kernel
theorem dX9_number_9 : decode cX9_number 9 = .ok (.ifCond .ne 54, 3) := by decide +kernel
theorem dX9_number_12 : decode cX9_number 12 = .ok (.iload 4, 2) := by decide +kernel
theorem dX9_number_14 : decode cX9_number 14 = .ok (.iload_n 2, 1) := by decide +kernel
theorem dX9_number_15 : decode cX9_number 15 = .ok (.if_icmp .ge 48, 3) := by decide +kernel
theorem dX9_number_18 : decode cX9_number 18 = .ok (.aload_n 0, 1) := by decide +kernel
theorem dX9_number_19 : decode cX9_number 19 = .ok (.iconst 0, 1) := by decide +kernel
theorem dX9_number_20 : decode cX9_number 20 = .ok (.invokevirtual 217, 3) := by decide +kernel
theorem dX9_number_23 : decode cX9_number 23 = .ok (.bipush 48, 2) := by decide +kernel
theorem dX9_number_25 : decode cX9_number 25 = .ok (.bipush 57, 2) := by decide +kernel
theorem dX9_number_27 : decode cX9_number 27 = .ok (.invokestatic 63, 3) := by decide +kernel
theorem dX9_number_30 : decode cX9_number 30 = .ok (.ifCond .eq 33, 3) := by decide +kernel
theorem dX9_number_33 : decode cX9_number 33 = .ok (.bipush 10, 2) := by decide +kernel
theorem dX9_number_35 : decode cX9_number 35 = .ok (.iload_n 3, 1) := by decide +kernel
theorem dX9_number_36 : decode cX9_number 36 = .ok (.imul, 1) := by decide +kernel
theorem dX9_number_37 : decode cX9_number 37 = .ok (.aload_n 0, 1) := by decide +kernel
theorem dX9_number_38 : decode cX9_number 38 = .ok (.iconst 0, 1) := by decide +kernel
theorem dX9_number_39 : decode cX9_number 39 = .ok (.invokevirtual 217, 3) := by decide +kernel
theorem dX9_number_42 : decode cX9_number 42 = .ok (.iadd, 1) := by decide +kernel
theorem dX9_number_43 : decode cX9_number 43 = .ok (.bipush 48, 2) := by decide +kernel
theorem dX9_number_45 : decode cX9_number 45 = .ok (.isub, 1) := by decide +kernel
theorem dX9_number_46 : decode cX9_number 46 = .ok (.istore_n 3, 1) := by decide +kernel
theorem dX9_number_47 : decode cX9_number 47 = .ok (.aload_n 0, 1) := by decide +kernel
theorem dX9_number_48 : decode cX9_number 48 = .ok (.dup, 1) := by decide +kernel
theorem dX9_number_49 : decode cX9_number 49 = .ok (.getfield 202, 3) := by decide +kernel
theorem dX9_number_52 : decode cX9_number 52 = .ok (.iconst 1, 1) := by decide +kernel
theorem dX9_number_53 : decode cX9_number 53 = .ok (.iadd, 1) := by decide +kernel
theorem dX9_number_54 : decode cX9_number 54 = .ok (.putfield 202, 3) := by decide +kernel
theorem dX9_number_57 : decode cX9_number 57 = .ok (.iinc 4 1, 3) := by decide +kernel
theorem dX9_number_60 : decode cX9_number 60 = .ok (.goto (-55), 3) := by decide +kernel
theorem dX9_number_63 : decode cX9_number 63 = .ok (.aload_n 0, 1) := by decide +kernel
theorem dX9_number_64 : decode cX9_number 64 = .ok (.aload_n 0, 1) := by decide +kernel
theorem dX9_number_65 : decode cX9_number 65 = .ok (.getfield 213, 3) := by decide +kernel
theorem dX9_number_68 : decode cX9_number 68 = .ok (.ifCond .ne 8, 3) := by decide +kernel
theorem dX9_number_71 : decode cX9_number 71 = .ok (.iload 4, 2) := by decide +kernel
theorem dX9_number_73 : decode cX9_number 73 = .ok (.ifCond .ne 7, 3) := by decide +kernel
theorem dX9_number_76 : decode cX9_number 76 = .ok (.iconst 1, 1) := by decide +kernel
theorem dX9_number_77 : decode cX9_number 77 = .ok (.goto 4, 3) := by decide +kernel
theorem dX9_number_80 : decode cX9_number 80 = .ok (.iconst 0, 1) := by decide +kernel
theorem dX9_number_81 : decode cX9_number 81 = .ok (.putfield 213, 3) := by decide +kernel
theorem dX9_number_84 : decode cX9_number 84 = .ok (.aload_n 0, 1) := by decide +kernel
theorem dX9_number_85 : decode cX9_number 85 = .ok (.getfield 28, 3) := by decide +kernel
theorem dX9_number_88 : decode cX9_number 88 = .ok (.iconst 3, 1) := by decide +kernel
theorem dX9_number_89 : decode cX9_number 89 = .ok (.aload_n 0, 1) := by decide +kernel
theorem dX9_number_90 : decode cX9_number 90 = .ok (.getfield 224, 3) := by decide +kernel
theorem dX9_number_93 : decode cX9_number 93 = .ok (.imul, 1) := by decide +kernel
theorem dX9_number_94 : decode cX9_number 94 = .ok (.iload_n 1, 1) := by decide +kernel
theorem dX9_number_95 : decode cX9_number 95 = .ok (.iadd, 1) := by decide +kernel
theorem dX9_number_96 : decode cX9_number 96 = .ok (.iload_n 3, 1) := by decide +kernel
theorem dX9_number_97 : decode cX9_number 97 = .ok (.iastore, 1) := by decide +kernel
theorem dX9_number_98 : decode cX9_number 98 = .ok (.return_, 1) := by decide +kernel
theorem dX9_one_0 : decode cX9_one 0 = .ok (.aload_n 0, 1) := by decide +kernel
theorem dX9_one_1 : decode cX9_one 1 = .ok (.getfield 28, 3) := by decide +kernel
theorem dX9_one_4 : decode cX9_one 4 = .ok (.iconst 3, 1) := by decide +kernel
theorem dX9_one_5 : decode cX9_one 5 = .ok (.aload_n 0, 1) := by decide +kernel
theorem dX9_one_6 : decode cX9_one 6 = .ok (.getfield 224, 3) := by decide +kernel
theorem dX9_one_9 : decode cX9_one 9 = .ok (.imul, 1) := by decide +kernel
theorem dX9_one_10 : decode cX9_one 10 = .ok (.iload_n 1, 1) := by decide +kernel
theorem dX9_one_11 : decode cX9_one 11 = .ok (.iastore, 1) := by decide +kernel
theorem dX9_one_12 : decode cX9_one 12 = .ok (.aload_n 0, 1) := by decide +kernel
theorem dX9_one_13 : decode cX9_one 13 = .ok (.aload_n 2, 1) := by decide +kernel
theorem dX9_one_14 : decode cX9_one 14 = .ok (.invokevirtual 227, 3) := by decide +kernel
theorem dX9_one_17 : decode cX9_one 17 = .ok (.aload_n 0, 1) := by decide +kernel
theorem dX9_one_18 : decode cX9_one 18 = .ok (.iconst 1, 1) := by decide +kernel
theorem dX9_one_19 : decode cX9_one 19 = .ok (.iload_n 3, 1) := by decide +kernel
theorem dX9_one_20 : decode cX9_one 20 = .ok (.invokevirtual 231, 3) := by decide +kernel
theorem dX9_one_23 : decode cX9_one 23 = .ok (.return_, 1) := by decide +kernel
theorem dX9_two_0 : decode cX9_two 0 = .ok (.aload_n 0, 1) := by decide +kernel
theorem dX9_two_1 : decode cX9_two 1 = .ok (.iload_n 1, 1) := by decide +kernel
theorem dX9_two_2 : decode cX9_two 2 = .ok (.aload_n 2, 1) := by decide +kernel
theorem dX9_two_3 : decode cX9_two 3 = .ok (.iload_n 3, 1) := by decide +kernel
theorem dX9_two_4 : decode cX9_two 4 = .ok (.invokevirtual 235, 3) := by decide +kernel
theorem dX9_two_7 : decode cX9_two 7 = .ok (.aload_n 0, 1) := by decide +kernel
theorem dX9_two_8 : decode cX9_two 8 = .ok (.aload 4, 2) := by decide +kernel
theorem dX9_two_10 : decode cX9_two 10 = .ok (.invokevirtual 227, 3) := by decide +kernel
theorem dX9_two_13 : decode cX9_two 13 = .ok (.aload_n 0, 1) := by decide +kernel
theorem dX9_two_14 : decode cX9_two 14 = .ok (.iconst 2, 1) := by decide +kernel
theorem dX9_two_15 : decode cX9_two 15 = .ok (.iload 5, 2) := by decide +kernel
theorem dX9_two_17 : decode cX9_two 17 = .ok (.invokevirtual 231, 3) := by decide +kernel
theorem dX9_two_20 : decode cX9_two 20 = .ok (.return_, 1) := by decide +kernel
theorem dX9_readsOne_0 : decode cX9_readsOne 0 = .ok (.aload_n 0, 1) := by decide +kernel
theorem dX9_readsOne_1 : decode cX9_readsOne 1 = .ok (.iconst 0, 1) := by decide +kernel
theorem dX9_readsOne_2 : decode cX9_readsOne 2 = .ok (.invokevirtual 217, 3) := by decide +kernel
theorem dX9_readsOne_5 : decode cX9_readsOne 5 = .ok (.tableswitch 237 98 116 #[91, 103, 237, 237, 237, 190, 207, 237, 237, 237, 137, 237, 237, 237, 237, 237, 224, 237, 152], 91) := by decide +kernel
theorem dX9_readsOne_96 : decode cX9_readsOne 96 = .ok (.aload_n 0, 1) := by decide +kernel
theorem dX9_readsOne_97 : decode cX9_readsOne 97 = .ok (.bipush 98, 2) := by decide +kernel
theorem dX9_readsOne_99 : decode cX9_readsOne 99 = .ok (.ldc 239, 2) := by decide +kernel
theorem dX9_readsOne_101 : decode cX9_readsOne 101 = .ok (.iconst 1, 1) := by decide +kernel
theorem dX9_readsOne_102 : decode cX9_readsOne 102 = .ok (.invokevirtual 235, 3) := by decide +kernel
theorem dX9_readsOne_105 : decode cX9_readsOne 105 = .ok (.goto 142, 3) := by decide +kernel
theorem dX9_readsOne_108 : decode cX9_readsOne 108 = .ok (.aload_n 0, 1) := by decide +kernel
theorem dX9_readsOne_109 : decode cX9_readsOne 109 = .ok (.iconst 1, 1) := by decide +kernel
theorem dX9_readsOne_110 : decode cX9_readsOne 110 = .ok (.invokevirtual 217, 3) := by decide +kernel
theorem dX9_readsOne_113 : decode cX9_readsOne 113 = .ok (.bipush 97, 2) := by decide +kernel
theorem dX9_readsOne_115 : decode cX9_readsOne 115 = .ok (.if_icmp .ne 15, 3) := by decide +kernel
theorem dX9_readsOne_118 : decode cX9_readsOne 118 = .ok (.aload_n 0, 1) := by decide +kernel
theorem dX9_readsOne_119 : decode cX9_readsOne 119 = .ok (.bipush 107, 2) := by decide +kernel
theorem dX9_readsOne_121 : decode cX9_readsOne 121 = .ok (.ldc 241, 2) := by decide +kernel
theorem dX9_readsOne_123 : decode cX9_readsOne 123 = .ok (.iconst 2, 1) := by decide +kernel
theorem dX9_readsOne_124 : decode cX9_readsOne 124 = .ok (.invokevirtual 235, 3) := by decide +kernel
theorem dX9_readsOne_127 : decode cX9_readsOne 127 = .ok (.goto 120, 3) := by decide +kernel
theorem dX9_readsOne_130 : decode cX9_readsOne 130 = .ok (.aload_n 0, 1) := by decide +kernel
theorem dX9_readsOne_131 : decode cX9_readsOne 131 = .ok (.bipush 99, 2) := by decide +kernel
theorem dX9_readsOne_133 : decode cX9_readsOne 133 = .ok (.ldc 243, 2) := by decide +kernel
theorem dX9_readsOne_135 : decode cX9_readsOne 135 = .ok (.iconst 1, 1) := by decide +kernel
theorem dX9_readsOne_136 : decode cX9_readsOne 136 = .ok (.invokevirtual 235, 3) := by decide +kernel
theorem dX9_readsOne_139 : decode cX9_readsOne 139 = .ok (.goto 108, 3) := by decide +kernel
theorem dX9_readsOne_142 : decode cX9_readsOne 142 = .ok (.aload_n 0, 1) := by decide +kernel
theorem dX9_readsOne_143 : decode cX9_readsOne 143 = .ok (.bipush 108, 2) := by decide +kernel
theorem dX9_readsOne_145 : decode cX9_readsOne 145 = .ok (.ldc 245, 2) := by decide +kernel
theorem dX9_readsOne_147 : decode cX9_readsOne 147 = .ok (.iconst 2, 1) := by decide +kernel
theorem dX9_readsOne_148 : decode cX9_readsOne 148 = .ok (.ldc 247, 2) := by decide +kernel
theorem dX9_readsOne_150 : decode cX9_readsOne 150 = .ok (.iconst 2, 1) := by decide +kernel
theorem dX9_readsOne_151 : decode cX9_readsOne 151 = .ok (.invokevirtual 249, 3) := by decide +kernel
theorem dX9_readsOne_154 : decode cX9_readsOne 154 = .ok (.goto 93, 3) := by decide +kernel
theorem dX9_readsOne_157 : decode cX9_readsOne 157 = .ok (.aload_n 0, 1) := by decide +kernel
theorem dX9_readsOne_158 : decode cX9_readsOne 158 = .ok (.iconst 1, 1) := by decide +kernel
theorem dX9_readsOne_159 : decode cX9_readsOne 159 = .ok (.invokevirtual 217, 3) := by decide +kernel
theorem dX9_readsOne_162 : decode cX9_readsOne 162 = .ok (.bipush 105, 2) := by decide +kernel
theorem dX9_readsOne_164 : decode cX9_readsOne 164 = .ok (.if_icmp .ne 15, 3) := by decide +kernel
theorem dX9_readsOne_167 : decode cX9_readsOne 167 = .ok (.aload_n 0, 1) := by decide +kernel
theorem dX9_readsOne_168 : decode cX9_readsOne 168 = .ok (.bipush 105, 2) := by decide +kernel
theorem dX9_readsOne_170 : decode cX9_readsOne 170 = .ok (.ldc 253, 2) := by decide +kernel
theorem dX9_readsOne_172 : decode cX9_readsOne 172 = .ok (.iconst 2, 1) := by decide +kernel
theorem dX9_readsOne_173 : decode cX9_readsOne 173 = .ok (.invokevirtual 235, 3) := by decide +kernel
theorem dX9_readsOne_176 : decode cX9_readsOne 176 = .ok (.goto 71, 3) := by decide +kernel
theorem dX9_readsOne_179 : decode cX9_readsOne 179 = .ok (.aload_n 0, 1) := by decide +kernel
theorem dX9_readsOne_180 : decode cX9_readsOne 180 = .ok (.bipush 116, 2) := by decide +kernel
theorem dX9_readsOne_182 : decode cX9_readsOne 182 = .ok (.ldc 255, 2) := by decide +kernel
theorem dX9_readsOne_184 : decode cX9_readsOne 184 = .ok (.iconst 2, 1) := by decide +kernel
theorem dX9_readsOne_185 : decode cX9_readsOne 185 = .ok (.ldc_w 257, 3) := by decide +kernel
theorem dX9_readsOne_188 : decode cX9_readsOne 188 = .ok (.iconst 1, 1) := by decide +kernel
theorem dX9_readsOne_189 : decode cX9_readsOne 189 = .ok (.invokevirtual 249, 3) := by decide +kernel
theorem dX9_readsOne_192 : decode cX9_readsOne 192 = .ok (.goto 55, 3) := by decide +kernel
theorem dX9_readsOne_195 : decode cX9_readsOne 195 = .ok (.aload_n 0, 1) := by decide +kernel
theorem dX9_readsOne_196 : decode cX9_readsOne 196 = .ok (.bipush 103, 2) := by decide +kernel
theorem dX9_readsOne_198 : decode cX9_readsOne 198 = .ok (.ldc_w 259, 3) := by decide +kernel
theorem dX9_readsOne_201 : decode cX9_readsOne 201 = .ok (.iconst 1, 1) := by decide +kernel
theorem dX9_readsOne_202 : decode cX9_readsOne 202 = .ok (.ldc_w 261, 3) := by decide +kernel
theorem dX9_readsOne_205 : decode cX9_readsOne 205 = .ok (.iconst 2, 1) := by decide +kernel
theorem dX9_readsOne_206 : decode cX9_readsOne 206 = .ok (.invokevirtual 249, 3) := by decide +kernel
theorem dX9_readsOne_209 : decode cX9_readsOne 209 = .ok (.goto 38, 3) := by decide +kernel
theorem dX9_readsOne_212 : decode cX9_readsOne 212 = .ok (.aload_n 0, 1) := by decide +kernel
theorem dX9_readsOne_213 : decode cX9_readsOne 213 = .ok (.bipush 104, 2) := by decide +kernel
theorem dX9_readsOne_215 : decode cX9_readsOne 215 = .ok (.ldc_w 263, 3) := by decide +kernel
theorem dX9_readsOne_218 : decode cX9_readsOne 218 = .ok (.iconst 1, 1) := by decide +kernel
theorem dX9_readsOne_219 : decode cX9_readsOne 219 = .ok (.ldc_w 265, 3) := by decide +kernel
theorem dX9_readsOne_222 : decode cX9_readsOne 222 = .ok (.iconst 2, 1) := by decide +kernel
theorem dX9_readsOne_223 : decode cX9_readsOne 223 = .ok (.invokevirtual 249, 3) := by decide +kernel
theorem dX9_readsOne_226 : decode cX9_readsOne 226 = .ok (.goto 21, 3) := by decide +kernel
theorem dX9_readsOne_229 : decode cX9_readsOne 229 = .ok (.aload_n 0, 1) := by decide +kernel
theorem dX9_readsOne_230 : decode cX9_readsOne 230 = .ok (.bipush 114, 2) := by decide +kernel
theorem dX9_readsOne_232 : decode cX9_readsOne 232 = .ok (.ldc_w 267, 3) := by decide +kernel
theorem dX9_readsOne_235 : decode cX9_readsOne 235 = .ok (.iconst 1, 1) := by decide +kernel
theorem dX9_readsOne_236 : decode cX9_readsOne 236 = .ok (.invokevirtual 235, 3) := by decide +kernel
theorem dX9_readsOne_239 : decode cX9_readsOne 239 = .ok (.goto 8, 3) := by decide +kernel
theorem dX9_readsOne_242 : decode cX9_readsOne 242 = .ok (.aload_n 0, 1) := by decide +kernel
theorem dX9_readsOne_243 : decode cX9_readsOne 243 = .ok (.iconst 1, 1) := by decide +kernel
theorem dX9_readsOne_244 : decode cX9_readsOne 244 = .ok (.putfield 213, 3) := by decide +kernel
theorem dX9_readsOne_247 : decode cX9_readsOne 247 = .ok (.aload_n 0, 1) := by decide +kernel
theorem dX9_readsOne_248 : decode cX9_readsOne 248 = .ok (.dup, 1) := by decide +kernel
theorem dX9_readsOne_249 : decode cX9_readsOne 249 = .ok (.getfield 224, 3) := by decide +kernel
theorem dX9_readsOne_252 : decode cX9_readsOne 252 = .ok (.iconst 1, 1) := by decide +kernel
theorem dX9_readsOne_253 : decode cX9_readsOne 253 = .ok (.iadd, 1) := by decide +kernel
theorem dX9_readsOne_254 : decode cX9_readsOne 254 = .ok (.putfield 224, 3) := by decide +kernel
theorem dX9_readsOne_257 : decode cX9_readsOne 257 = .ok (.return_, 1) := by decide +kernel
theorem dX9_does_0 : decode cX9_does 0 = .ok (.aload_n 0, 1) := by decide +kernel
theorem dX9_does_1 : decode cX9_does 1 = .ok (.getfield 28, 3) := by decide +kernel
theorem dX9_does_4 : decode cX9_does 4 = .ok (.iconst 3, 1) := by decide +kernel
theorem dX9_does_5 : decode cX9_does 5 = .ok (.iload_n 1, 1) := by decide +kernel
theorem dX9_does_6 : decode cX9_does 6 = .ok (.imul, 1) := by decide +kernel
theorem dX9_does_7 : decode cX9_does 7 = .ok (.iconst 1, 1) := by decide +kernel
theorem dX9_does_8 : decode cX9_does 8 = .ok (.iadd, 1) := by decide +kernel
theorem dX9_does_9 : decode cX9_does 9 = .ok (.iaload, 1) := by decide +kernel
theorem dX9_does_10 : decode cX9_does 10 = .ok (.istore_n 2, 1) := by decide +kernel
theorem dX9_does_11 : decode cX9_does 11 = .ok (.aload_n 0, 1) := by decide +kernel
theorem dX9_does_12 : decode cX9_does 12 = .ok (.getfield 28, 3) := by decide +kernel
theorem dX9_does_15 : decode cX9_does 15 = .ok (.iconst 3, 1) := by decide +kernel
theorem dX9_does_16 : decode cX9_does 16 = .ok (.iload_n 1, 1) := by decide +kernel
theorem dX9_does_17 : decode cX9_does 17 = .ok (.imul, 1) := by decide +kernel
theorem dX9_does_18 : decode cX9_does 18 = .ok (.iconst 2, 1) := by decide +kernel
theorem dX9_does_19 : decode cX9_does 19 = .ok (.iadd, 1) := by decide +kernel
theorem dX9_does_20 : decode cX9_does 20 = .ok (.iaload, 1) := by decide +kernel
theorem dX9_does_21 : decode cX9_does 21 = .ok (.istore_n 3, 1) := by decide +kernel
theorem dX9_does_22 : decode cX9_does 22 = .ok (.aload_n 0, 1) := by decide +kernel
theorem dX9_does_23 : decode cX9_does 23 = .ok (.getfield 28, 3) := by decide +kernel
theorem dX9_does_26 : decode cX9_does 26 = .ok (.iconst 3, 1) := by decide +kernel
theorem dX9_does_27 : decode cX9_does 27 = .ok (.iload_n 1, 1) := by decide +kernel
theorem dX9_does_28 : decode cX9_does 28 = .ok (.imul, 1) := by decide +kernel
theorem dX9_does_29 : decode cX9_does 29 = .ok (.iaload, 1) := by decide +kernel
theorem dX9_does_30 : decode cX9_does 30 = .ok (.tableswitch 144 98 116 #[90, 97, 144, 144, 144, 130, 137, 117, 144, 104, 110, 144, 144, 144, 144, 144, 144, 144, 123], 90) := by decide +kernel
theorem dX9_does_120 : decode cX9_does 120 = .ok (.aload_n 0, 1) := by decide +kernel
theorem dX9_does_121 : decode cX9_does 121 = .ok (.iload_n 2, 1) := by decide +kernel
theorem dX9_does_122 : decode cX9_does 122 = .ok (.iconst 0, 1) := by decide +kernel
theorem dX9_does_123 : decode cX9_does 123 = .ok (.invokevirtual 130, 3) := by decide +kernel
theorem dX9_does_126 : decode cX9_does 126 = .ok (.ireturn, 1) := by decide +kernel
theorem dX9_does_127 : decode cX9_does 127 = .ok (.aload_n 0, 1) := by decide +kernel
theorem dX9_does_128 : decode cX9_does 128 = .ok (.iload_n 2, 1) := by decide +kernel
theorem dX9_does_129 : decode cX9_does 129 = .ok (.iconst 1, 1) := by decide +kernel
theorem dX9_does_130 : decode cX9_does 130 = .ok (.invokevirtual 130, 3) := by decide +kernel
theorem dX9_does_133 : decode cX9_does 133 = .ok (.ireturn, 1) := by decide +kernel
theorem dX9_does_134 : decode cX9_does 134 = .ok (.aload_n 0, 1) := by decide +kernel
theorem dX9_does_135 : decode cX9_does 135 = .ok (.iload_n 2, 1) := by decide +kernel
theorem dX9_does_136 : decode cX9_does 136 = .ok (.invokevirtual 142, 3) := by decide +kernel
theorem dX9_does_139 : decode cX9_does 139 = .ok (.ireturn, 1) := by decide +kernel
theorem dX9_does_140 : decode cX9_does 140 = .ok (.aload_n 0, 1) := by decide +kernel
theorem dX9_does_141 : decode cX9_does 141 = .ok (.iload_n 2, 1) := by decide +kernel
theorem dX9_does_142 : decode cX9_does 142 = .ok (.iload_n 3, 1) := by decide +kernel
theorem dX9_does_143 : decode cX9_does 143 = .ok (.invokevirtual 136, 3) := by decide +kernel
theorem dX9_does_146 : decode cX9_does 146 = .ok (.ireturn, 1) := by decide +kernel
theorem dX9_does_147 : decode cX9_does 147 = .ok (.aload_n 0, 1) := by decide +kernel
theorem dX9_does_148 : decode cX9_does 148 = .ok (.iload_n 2, 1) := by decide +kernel
theorem dX9_does_149 : decode cX9_does 149 = .ok (.invokevirtual 187, 3) := by decide +kernel
theorem dX9_does_152 : decode cX9_does 152 = .ok (.ireturn, 1) := by decide +kernel
theorem dX9_does_153 : decode cX9_does 153 = .ok (.aload_n 0, 1) := by decide +kernel
theorem dX9_does_154 : decode cX9_does 154 = .ok (.iload_n 2, 1) := by decide +kernel
theorem dX9_does_155 : decode cX9_does 155 = .ok (.iload_n 3, 1) := by decide +kernel
theorem dX9_does_156 : decode cX9_does 156 = .ok (.invokevirtual 160, 3) := by decide +kernel
theorem dX9_does_159 : decode cX9_does 159 = .ok (.ireturn, 1) := by decide +kernel
theorem dX9_does_160 : decode cX9_does 160 = .ok (.aload_n 0, 1) := by decide +kernel
theorem dX9_does_161 : decode cX9_does 161 = .ok (.iload_n 2, 1) := by decide +kernel
theorem dX9_does_162 : decode cX9_does 162 = .ok (.iload_n 3, 1) := by decide +kernel
theorem dX9_does_163 : decode cX9_does 163 = .ok (.invokevirtual 163, 3) := by decide +kernel
theorem dX9_does_166 : decode cX9_does 166 = .ok (.ireturn, 1) := by decide +kernel
theorem dX9_does_167 : decode cX9_does 167 = .ok (.aload_n 0, 1) := by decide +kernel
theorem dX9_does_168 : decode cX9_does 168 = .ok (.iload_n 2, 1) := by decide +kernel
theorem dX9_does_169 : decode cX9_does 169 = .ok (.iload_n 3, 1) := by decide +kernel
theorem dX9_does_170 : decode cX9_does 170 = .ok (.invokevirtual 169, 3) := by decide +kernel
theorem dX9_does_173 : decode cX9_does 173 = .ok (.ireturn, 1) := by decide +kernel
theorem dX9_does_174 : decode cX9_does 174 = .ok (.aload_n 0, 1) := by decide +kernel
theorem dX9_does_175 : decode cX9_does 175 = .ok (.iload_n 2, 1) := by decide +kernel
theorem dX9_does_176 : decode cX9_does 176 = .ok (.invokevirtual 175, 3) := by decide +kernel
theorem dX9_does_179 : decode cX9_does 179 = .ok (.ireturn, 1) := by decide +kernel
theorem dX9_execute_0 : decode cX9_execute 0 = .ok (.aload_n 0, 1) := by decide +kernel
theorem dX9_execute_1 : decode cX9_execute 1 = .ok (.invokevirtual 127, 3) := by decide +kernel
theorem dX9_execute_4 : decode cX9_execute 4 = .ok (.aload_n 0, 1) := by decide +kernel
theorem dX9_execute_5 : decode cX9_execute 5 = .ok (.iconst 0, 1) := by decide +kernel
theorem dX9_execute_6 : decode cX9_execute 6 = .ok (.putfield 202, 3) := by decide +kernel
theorem dX9_execute_9 : decode cX9_execute 9 = .ok (.aload_n 0, 1) := by decide +kernel
theorem dX9_execute_10 : decode cX9_execute 10 = .ok (.aload_n 0, 1) := by decide +kernel
theorem dX9_execute_11 : decode cX9_execute 11 = .ok (.getfield 199, 3) := by decide +kernel
theorem dX9_execute_14 : decode cX9_execute 14 = .ok (.putfield 205, 3) := by decide +kernel
theorem dX9_execute_17 : decode cX9_execute 17 = .ok (.aload_n 0, 1) := by decide +kernel
theorem dX9_execute_18 : decode cX9_execute 18 = .ok (.iconst 0, 1) := by decide +kernel
theorem dX9_execute_19 : decode cX9_execute 19 = .ok (.putfield 199, 3) := by decide +kernel
theorem dX9_execute_22 : decode cX9_execute 22 = .ok (.aload_n 0, 1) := by decide +kernel
theorem dX9_execute_23 : decode cX9_execute 23 = .ok (.iconst 0, 1) := by decide +kernel
theorem dX9_execute_24 : decode cX9_execute 24 = .ok (.putfield 224, 3) := by decide +kernel
theorem dX9_execute_27 : decode cX9_execute 27 = .ok (.aload_n 0, 1) := by decide +kernel
theorem dX9_execute_28 : decode cX9_execute 28 = .ok (.iconst 0, 1) := by decide +kernel
theorem dX9_execute_29 : decode cX9_execute 29 = .ok (.putfield 213, 3) := by decide +kernel
theorem dX9_execute_32 : decode cX9_execute 32 = .ok (.aload_n 0, 1) := by decide +kernel
theorem dX9_execute_33 : decode cX9_execute 33 = .ok (.invokevirtual 269, 3) := by decide +kernel
theorem dX9_execute_36 : decode cX9_execute 36 = .ok (.aload_n 0, 1) := by decide +kernel
theorem dX9_execute_37 : decode cX9_execute 37 = .ok (.getfield 213, 3) := by decide +kernel
theorem dX9_execute_40 : decode cX9_execute 40 = .ok (.ifCond .ne 30, 3) := by decide +kernel
theorem dX9_execute_43 : decode cX9_execute 43 = .ok (.aload_n 0, 1) := by decide +kernel
theorem dX9_execute_44 : decode cX9_execute 44 = .ok (.iconst 0, 1) := by decide +kernel
theorem dX9_execute_45 : decode cX9_execute 45 = .ok (.invokevirtual 217, 3) := by decide +kernel
theorem dX9_execute_48 : decode cX9_execute 48 = .ok (.bipush 59, 2) := by decide +kernel
theorem dX9_execute_50 : decode cX9_execute 50 = .ok (.if_icmp .ne 20, 3) := by decide +kernel
theorem dX9_execute_53 : decode cX9_execute 53 = .ok (.aload_n 0, 1) := by decide +kernel
theorem dX9_execute_54 : decode cX9_execute 54 = .ok (.dup, 1) := by decide +kernel
theorem dX9_execute_55 : decode cX9_execute 55 = .ok (.getfield 202, 3) := by decide +kernel
theorem dX9_execute_58 : decode cX9_execute 58 = .ok (.iconst 1, 1) := by decide +kernel
theorem dX9_execute_59 : decode cX9_execute 59 = .ok (.iadd, 1) := by decide +kernel
theorem dX9_execute_60 : decode cX9_execute 60 = .ok (.putfield 202, 3) := by decide +kernel
theorem dX9_execute_63 : decode cX9_execute 63 = .ok (.aload_n 0, 1) := by decide +kernel
theorem dX9_execute_64 : decode cX9_execute 64 = .ok (.invokevirtual 269, 3) := by decide +kernel
theorem dX9_execute_67 : decode cX9_execute 67 = .ok (.goto (-31), 3) := by decide +kernel
theorem dX9_execute_70 : decode cX9_execute 70 = .ok (.aload_n 0, 1) := by decide +kernel
theorem dX9_execute_71 : decode cX9_execute 71 = .ok (.getfield 213, 3) := by decide +kernel
theorem dX9_execute_74 : decode cX9_execute 74 = .ok (.ifCond .ne 14, 3) := by decide +kernel
theorem dX9_execute_77 : decode cX9_execute 77 = .ok (.aload_n 0, 1) := by decide +kernel
theorem dX9_execute_78 : decode cX9_execute 78 = .ok (.getfield 202, 3) := by decide +kernel
theorem dX9_execute_81 : decode cX9_execute 81 = .ok (.aload_n 0, 1) := by decide +kernel
theorem dX9_execute_82 : decode cX9_execute 82 = .ok (.getfield 205, 3) := by decide +kernel
theorem dX9_execute_85 : decode cX9_execute 85 = .ok (.if_icmp .ge 17, 3) := by decide +kernel
theorem dX9_execute_88 : decode cX9_execute 88 = .ok (.aload_n 0, 1) := by decide +kernel
theorem dX9_execute_89 : decode cX9_execute 89 = .ok (.aload_n 0, 1) := by decide +kernel
theorem dX9_execute_90 : decode cX9_execute 90 = .ok (.getfield 202, 3) := by decide +kernel
theorem dX9_execute_93 : decode cX9_execute 93 = .ok (.putfield 40, 3) := by decide +kernel
theorem dX9_execute_96 : decode cX9_execute 96 = .ok (.aload_n 0, 1) := by decide +kernel
theorem dX9_execute_97 : decode cX9_execute 97 = .ok (.iconst 1, 1) := by decide +kernel
theorem dX9_execute_98 : decode cX9_execute 98 = .ok (.invokevirtual 60, 3) := by decide +kernel
theorem dX9_execute_101 : decode cX9_execute 101 = .ok (.ireturn, 1) := by decide +kernel
theorem dX9_execute_102 : decode cX9_execute 102 = .ok (.iconst 0, 1) := by decide +kernel
theorem dX9_execute_103 : decode cX9_execute 103 = .ok (.istore_n 1, 1) := by decide +kernel
theorem dX9_execute_104 : decode cX9_execute 104 = .ok (.iload_n 1, 1) := by decide +kernel
theorem dX9_execute_105 : decode cX9_execute 105 = .ok (.aload_n 0, 1) := by decide +kernel
theorem dX9_execute_106 : decode cX9_execute 106 = .ok (.getfield 224, 3) := by decide +kernel
theorem dX9_execute_109 : decode cX9_execute 109 = .ok (.if_icmp .ge 57, 3) := by decide +kernel
theorem dX9_execute_112 : decode cX9_execute 112 = .ok (.aload_n 0, 1) := by decide +kernel
theorem dX9_execute_113 : decode cX9_execute 113 = .ok (.iload_n 1, 1) := by decide +kernel
theorem dX9_execute_114 : decode cX9_execute 114 = .ok (.invokevirtual 272, 3) := by decide +kernel
theorem dX9_execute_117 : decode cX9_execute 117 = .ok (.ifCond .ne 6, 3) := by decide +kernel
theorem dX9_execute_120 : decode cX9_execute 120 = .ok (.goto 40, 3) := by decide +kernel
theorem dX9_execute_123 : decode cX9_execute 123 = .ok (.iconst 0, 1) := by decide +kernel
theorem dX9_execute_124 : decode cX9_execute 124 = .ok (.istore_n 2, 1) := by decide +kernel
theorem dX9_execute_125 : decode cX9_execute 125 = .ok (.iload_n 2, 1) := by decide +kernel
theorem dX9_execute_126 : decode cX9_execute 126 = .ok (.bipush 116, 2) := by decide +kernel
theorem dX9_execute_128 : decode cX9_execute 128 = .ok (.if_icmp .ge 21, 3) := by decide +kernel
theorem dX9_execute_131 : decode cX9_execute 131 = .ok (.aload_n 0, 1) := by decide +kernel
theorem dX9_execute_132 : decode cX9_execute 132 = .ok (.getfield 7, 3) := by decide +kernel
theorem dX9_execute_135 : decode cX9_execute 135 = .ok (.iload_n 2, 1) := by decide +kernel
theorem dX9_execute_136 : decode cX9_execute 136 = .ok (.aload_n 0, 1) := by decide +kernel
theorem dX9_execute_137 : decode cX9_execute 137 = .ok (.getfield 13, 3) := by decide +kernel
theorem dX9_execute_140 : decode cX9_execute 140 = .ok (.iload_n 2, 1) := by decide +kernel
theorem dX9_execute_141 : decode cX9_execute 141 = .ok (.iaload, 1) := by decide +kernel
theorem dX9_execute_142 : decode cX9_execute 142 = .ok (.iastore, 1) := by decide +kernel
theorem dX9_execute_143 : decode cX9_execute 143 = .ok (.iinc 2 1, 3) := by decide +kernel
theorem dX9_execute_146 : decode cX9_execute 146 = .ok (.goto (-21), 3) := by decide +kernel
theorem dX9_execute_149 : decode cX9_execute 149 = .ok (.aload_n 0, 1) := by decide +kernel
theorem dX9_execute_150 : decode cX9_execute 150 = .ok (.iload_n 1, 1) := by decide +kernel
theorem dX9_execute_151 : decode cX9_execute 151 = .ok (.putfield 44, 3) := by decide +kernel
theorem dX9_execute_154 : decode cX9_execute 154 = .ok (.aload_n 0, 1) := by decide +kernel
theorem dX9_execute_155 : decode cX9_execute 155 = .ok (.iconst 2, 1) := by decide +kernel
theorem dX9_execute_156 : decode cX9_execute 156 = .ok (.invokevirtual 60, 3) := by decide +kernel
theorem dX9_execute_159 : decode cX9_execute 159 = .ok (.ireturn, 1) := by decide +kernel
theorem dX9_execute_160 : decode cX9_execute 160 = .ok (.iinc 1 1, 3) := by decide +kernel
theorem dX9_execute_163 : decode cX9_execute 163 = .ok (.goto (-59), 3) := by decide +kernel
theorem dX9_execute_166 : decode cX9_execute 166 = .ok (.aload_n 0, 1) := by decide +kernel
theorem dX9_execute_167 : decode cX9_execute 167 = .ok (.aload_n 0, 1) := by decide +kernel
theorem dX9_execute_168 : decode cX9_execute 168 = .ok (.getfield 224, 3) := by decide +kernel
theorem dX9_execute_171 : decode cX9_execute 171 = .ok (.invokevirtual 56, 3) := by decide +kernel
theorem dX9_execute_174 : decode cX9_execute 174 = .ok (.ireturn, 1) := by decide +kernel
theorem dX9_errorPosition_0 : decode cX9_errorPosition 0 = .ok (.aload_n 0, 1) := by decide +kernel
theorem dX9_errorPosition_1 : decode cX9_errorPosition 1 = .ok (.iconst 0, 1) := by decide +kernel
theorem dX9_errorPosition_2 : decode cX9_errorPosition 2 = .ok (.putfield 47, 3) := by decide +kernel
theorem dX9_errorPosition_5 : decode cX9_errorPosition 5 = .ok (.aload_n 0, 1) := by decide +kernel
theorem dX9_errorPosition_6 : decode cX9_errorPosition 6 = .ok (.getfield 40, 3) := by decide +kernel
theorem dX9_errorPosition_9 : decode cX9_errorPosition 9 = .ok (.iconst (-1), 1) := by decide +kernel
theorem dX9_errorPosition_10 : decode cX9_errorPosition 10 = .ok (.if_icmp .ne 11, 3) := by decide +kernel
theorem dX9_errorPosition_13 : decode cX9_errorPosition 13 = .ok (.aload_n 0, 1) := by decide +kernel
theorem dX9_errorPosition_14 : decode cX9_errorPosition 14 = .ok (.iconst 1, 1) := by decide +kernel
theorem dX9_errorPosition_15 : decode cX9_errorPosition 15 = .ok (.invokevirtual 60, 3) := by decide +kernel
theorem dX9_errorPosition_18 : decode cX9_errorPosition 18 = .ok (.goto 7, 3) := by decide +kernel
theorem dX9_errorPosition_21 : decode cX9_errorPosition 21 = .ok (.aload_n 0, 1) := by decide +kernel
theorem dX9_errorPosition_22 : decode cX9_errorPosition 22 = .ok (.getfield 40, 3) := by decide +kernel
theorem dX9_errorPosition_25 : decode cX9_errorPosition 25 = .ok (.ireturn, 1) := by decide +kernel
theorem dX9_failedCommand_0 : decode cX9_failedCommand 0 = .ok (.aload_n 0, 1) := by decide +kernel
theorem dX9_failedCommand_1 : decode cX9_failedCommand 1 = .ok (.iconst 0, 1) := by decide +kernel
theorem dX9_failedCommand_2 : decode cX9_failedCommand 2 = .ok (.putfield 47, 3) := by decide +kernel
theorem dX9_failedCommand_5 : decode cX9_failedCommand 5 = .ok (.aload_n 0, 1) := by decide +kernel
theorem dX9_failedCommand_6 : decode cX9_failedCommand 6 = .ok (.getfield 44, 3) := by decide +kernel
theorem dX9_failedCommand_9 : decode cX9_failedCommand 9 = .ok (.iconst (-1), 1) := by decide +kernel
theorem dX9_failedCommand_10 : decode cX9_failedCommand 10 = .ok (.if_icmp .ne 11, 3) := by decide +kernel
theorem dX9_failedCommand_13 : decode cX9_failedCommand 13 = .ok (.aload_n 0, 1) := by decide +kernel
theorem dX9_failedCommand_14 : decode cX9_failedCommand 14 = .ok (.iconst 1, 1) := by decide +kernel
theorem dX9_failedCommand_15 : decode cX9_failedCommand 15 = .ok (.invokevirtual 60, 3) := by decide +kernel
theorem dX9_failedCommand_18 : decode cX9_failedCommand 18 = .ok (.goto 7, 3) := by decide +kernel
theorem dX9_failedCommand_21 : decode cX9_failedCommand 21 = .ok (.aload_n 0, 1) := by decide +kernel
theorem dX9_failedCommand_22 : decode cX9_failedCommand 22 = .ok (.getfield 44, 3) := by decide +kernel
theorem dX9_failedCommand_25 : decode cX9_failedCommand 25 = .ok (.ireturn, 1) := by decide +kernel
theorem dX9_undo_0 : decode cX9_undo 0 = .ok (.aload_n 0, 1) := by decide +kernel
theorem dX9_undo_1 : decode cX9_undo 1 = .ok (.iconst 0, 1) := by decide +kernel
theorem dX9_undo_2 : decode cX9_undo 2 = .ok (.putfield 47, 3) := by decide +kernel
theorem dX9_undo_5 : decode cX9_undo 5 = .ok (.aload_n 0, 1) := by decide +kernel
theorem dX9_undo_6 : decode cX9_undo 6 = .ok (.getfield 50, 3) := by decide +kernel
theorem dX9_undo_9 : decode cX9_undo 9 = .ok (.ifCond .ne 9, 3) := by decide +kernel
theorem dX9_undo_12 : decode cX9_undo 12 = .ok (.aload_n 0, 1) := by decide +kernel
theorem dX9_undo_13 : decode cX9_undo 13 = .ok (.iconst 1, 1) := by decide +kernel
theorem dX9_undo_14 : decode cX9_undo 14 = .ok (.invokevirtual 60, 3) := by decide +kernel
theorem dX9_undo_17 : decode cX9_undo 17 = .ok (.ireturn, 1) := by decide +kernel
theorem dX9_undo_18 : decode cX9_undo 18 = .ok (.aload_n 0, 1) := by decide +kernel
theorem dX9_undo_19 : decode cX9_undo 19 = .ok (.dup, 1) := by decide +kernel
theorem dX9_undo_20 : decode cX9_undo 20 = .ok (.getfield 50, 3) := by decide +kernel
theorem dX9_undo_23 : decode cX9_undo 23 = .ok (.iconst 1, 1) := by decide +kernel
theorem dX9_undo_24 : decode cX9_undo 24 = .ok (.isub, 1) := by decide +kernel
theorem dX9_undo_25 : decode cX9_undo 25 = .ok (.putfield 50, 3) := by decide +kernel
theorem dX9_undo_28 : decode cX9_undo 28 = .ok (.iconst 0, 1) := by decide +kernel
theorem dX9_undo_29 : decode cX9_undo 29 = .ok (.istore_n 1, 1) := by decide +kernel
theorem dX9_undo_30 : decode cX9_undo 30 = .ok (.iload_n 1, 1) := by decide +kernel
theorem dX9_undo_31 : decode cX9_undo 31 = .ok (.bipush 116, 2) := by decide +kernel
theorem dX9_undo_33 : decode cX9_undo 33 = .ok (.if_icmp .ge 29, 3) := by decide +kernel
theorem dX9_undo_36 : decode cX9_undo 36 = .ok (.aload_n 0, 1) := by decide +kernel
theorem dX9_undo_37 : decode cX9_undo 37 = .ok (.getfield 7, 3) := by decide +kernel
theorem dX9_undo_40 : decode cX9_undo 40 = .ok (.iload_n 1, 1) := by decide +kernel
theorem dX9_undo_41 : decode cX9_undo 41 = .ok (.aload_n 0, 1) := by decide +kernel
theorem dX9_undo_42 : decode cX9_undo 42 = .ok (.getfield 19, 3) := by decide +kernel
theorem dX9_undo_45 : decode cX9_undo 45 = .ok (.bipush 116, 2) := by decide +kernel
theorem dX9_undo_47 : decode cX9_undo 47 = .ok (.aload_n 0, 1) := by decide +kernel
theorem dX9_undo_48 : decode cX9_undo 48 = .ok (.getfield 50, 3) := by decide +kernel
theorem dX9_undo_51 : decode cX9_undo 51 = .ok (.imul, 1) := by decide +kernel
theorem dX9_undo_52 : decode cX9_undo 52 = .ok (.iload_n 1, 1) := by decide +kernel
theorem dX9_undo_53 : decode cX9_undo 53 = .ok (.iadd, 1) := by decide +kernel
theorem dX9_undo_54 : decode cX9_undo 54 = .ok (.iaload, 1) := by decide +kernel
theorem dX9_undo_55 : decode cX9_undo 55 = .ok (.iastore, 1) := by decide +kernel
theorem dX9_undo_56 : decode cX9_undo 56 = .ok (.iinc 1 1, 3) := by decide +kernel
theorem dX9_undo_59 : decode cX9_undo 59 = .ok (.goto (-29), 3) := by decide +kernel
theorem dX9_undo_62 : decode cX9_undo 62 = .ok (.aload_n 0, 1) := by decide +kernel
theorem dX9_undo_63 : decode cX9_undo 63 = .ok (.getfield 50, 3) := by decide +kernel
theorem dX9_undo_66 : decode cX9_undo 66 = .ok (.ireturn, 1) := by decide +kernel
theorem dX9_undoCount_0 : decode cX9_undoCount 0 = .ok (.aload_n 0, 1) := by decide +kernel
theorem dX9_undoCount_1 : decode cX9_undoCount 1 = .ok (.iconst 0, 1) := by decide +kernel
theorem dX9_undoCount_2 : decode cX9_undoCount 2 = .ok (.putfield 47, 3) := by decide +kernel
theorem dX9_undoCount_5 : decode cX9_undoCount 5 = .ok (.aload_n 0, 1) := by decide +kernel
theorem dX9_undoCount_6 : decode cX9_undoCount 6 = .ok (.getfield 50, 3) := by decide +kernel
theorem dX9_undoCount_9 : decode cX9_undoCount 9 = .ok (.ireturn, 1) := by decide +kernel
theorem dX9_save_0 : decode cX9_save 0 = .ok (.aload_n 0, 1) := by decide +kernel
theorem dX9_save_1 : decode cX9_save 1 = .ok (.iconst 0, 1) := by decide +kernel
theorem dX9_save_2 : decode cX9_save 2 = .ok (.putfield 47, 3) := by decide +kernel
theorem dX9_save_5 : decode cX9_save 5 = .ok (.iconst 0, 1) := by decide +kernel
theorem dX9_save_6 : decode cX9_save 6 = .ok (.istore_n 1, 1) := by decide +kernel
theorem dX9_save_7 : decode cX9_save 7 = .ok (.iload_n 1, 1) := by decide +kernel
theorem dX9_save_8 : decode cX9_save 8 = .ok (.bipush 116, 2) := by decide +kernel
theorem dX9_save_10 : decode cX9_save 10 = .ok (.if_icmp .ge 21, 3) := by decide +kernel
theorem dX9_save_13 : decode cX9_save 13 = .ok (.aload_n 0, 1) := by decide +kernel
theorem dX9_save_14 : decode cX9_save 14 = .ok (.getfield 16, 3) := by decide +kernel
theorem dX9_save_17 : decode cX9_save 17 = .ok (.iload_n 1, 1) := by decide +kernel
theorem dX9_save_18 : decode cX9_save 18 = .ok (.aload_n 0, 1) := by decide +kernel
theorem dX9_save_19 : decode cX9_save 19 = .ok (.getfield 7, 3) := by decide +kernel
theorem dX9_save_22 : decode cX9_save 22 = .ok (.iload_n 1, 1) := by decide +kernel
theorem dX9_save_23 : decode cX9_save 23 = .ok (.iaload, 1) := by decide +kernel
theorem dX9_save_24 : decode cX9_save 24 = .ok (.iastore, 1) := by decide +kernel
theorem dX9_save_25 : decode cX9_save 25 = .ok (.iinc 1 1, 3) := by decide +kernel
theorem dX9_save_28 : decode cX9_save 28 = .ok (.goto (-21), 3) := by decide +kernel
theorem dX9_save_31 : decode cX9_save 31 = .ok (.aload_n 0, 1) := by decide +kernel
theorem dX9_save_32 : decode cX9_save 32 = .ok (.iconst 1, 1) := by decide +kernel
theorem dX9_save_33 : decode cX9_save 33 = .ok (.putfield 275, 3) := by decide +kernel
theorem dX9_save_36 : decode cX9_save 36 = .ok (.aload_n 0, 1) := by decide +kernel
theorem dX9_save_37 : decode cX9_save 37 = .ok (.getfield 7, 3) := by decide +kernel
theorem dX9_save_40 : decode cX9_save 40 = .ok (.iconst 0, 1) := by decide +kernel
theorem dX9_save_41 : decode cX9_save 41 = .ok (.iaload, 1) := by decide +kernel
theorem dX9_save_42 : decode cX9_save 42 = .ok (.ireturn, 1) := by decide +kernel
theorem dX9_restore_0 : decode cX9_restore 0 = .ok (.aload_n 0, 1) := by decide +kernel
theorem dX9_restore_1 : decode cX9_restore 1 = .ok (.iconst 0, 1) := by decide +kernel
theorem dX9_restore_2 : decode cX9_restore 2 = .ok (.putfield 47, 3) := by decide +kernel
theorem dX9_restore_5 : decode cX9_restore 5 = .ok (.aload_n 0, 1) := by decide +kernel
theorem dX9_restore_6 : decode cX9_restore 6 = .ok (.getfield 275, 3) := by decide +kernel
theorem dX9_restore_9 : decode cX9_restore 9 = .ok (.ifCond .ne 9, 3) := by decide +kernel
theorem dX9_restore_12 : decode cX9_restore 12 = .ok (.aload_n 0, 1) := by decide +kernel
theorem dX9_restore_13 : decode cX9_restore 13 = .ok (.iconst 1, 1) := by decide +kernel
theorem dX9_restore_14 : decode cX9_restore 14 = .ok (.invokevirtual 60, 3) := by decide +kernel
theorem dX9_restore_17 : decode cX9_restore 17 = .ok (.ireturn, 1) := by decide +kernel
theorem dX9_restore_18 : decode cX9_restore 18 = .ok (.iconst 0, 1) := by decide +kernel
theorem dX9_restore_19 : decode cX9_restore 19 = .ok (.istore_n 1, 1) := by decide +kernel
theorem dX9_restore_20 : decode cX9_restore 20 = .ok (.iload_n 1, 1) := by decide +kernel
theorem dX9_restore_21 : decode cX9_restore 21 = .ok (.bipush 116, 2) := by decide +kernel
theorem dX9_restore_23 : decode cX9_restore 23 = .ok (.if_icmp .ge 21, 3) := by decide +kernel
theorem dX9_restore_26 : decode cX9_restore 26 = .ok (.aload_n 0, 1) := by decide +kernel
theorem dX9_restore_27 : decode cX9_restore 27 = .ok (.getfield 7, 3) := by decide +kernel
theorem dX9_restore_30 : decode cX9_restore 30 = .ok (.iload_n 1, 1) := by decide +kernel
theorem dX9_restore_31 : decode cX9_restore 31 = .ok (.aload_n 0, 1) := by decide +kernel
theorem dX9_restore_32 : decode cX9_restore 32 = .ok (.getfield 16, 3) := by decide +kernel
theorem dX9_restore_35 : decode cX9_restore 35 = .ok (.iload_n 1, 1) := by decide +kernel
theorem dX9_restore_36 : decode cX9_restore 36 = .ok (.iaload, 1) := by decide +kernel
theorem dX9_restore_37 : decode cX9_restore 37 = .ok (.iastore, 1) := by decide +kernel
theorem dX9_restore_38 : decode cX9_restore 38 = .ok (.iinc 1 1, 3) := by decide +kernel
theorem dX9_restore_41 : decode cX9_restore 41 = .ok (.goto (-21), 3) := by decide +kernel
theorem dX9_restore_44 : decode cX9_restore 44 = .ok (.aload_n 0, 1) := by decide +kernel
theorem dX9_restore_45 : decode cX9_restore 45 = .ok (.iconst 0, 1) := by decide +kernel
theorem dX9_restore_46 : decode cX9_restore 46 = .ok (.putfield 50, 3) := by decide +kernel
theorem dX9_restore_49 : decode cX9_restore 49 = .ok (.aload_n 0, 1) := by decide +kernel
theorem dX9_restore_50 : decode cX9_restore 50 = .ok (.getfield 7, 3) := by decide +kernel
theorem dX9_restore_53 : decode cX9_restore 53 = .ok (.iconst 0, 1) := by decide +kernel
theorem dX9_restore_54 : decode cX9_restore 54 = .ok (.iaload, 1) := by decide +kernel
theorem dX9_restore_55 : decode cX9_restore 55 = .ok (.ireturn, 1) := by decide +kernel
theorem dJx00060_init_a7421_0 : decode cJx00060_init_a7421 0 = .ok (.aload_n 0, 1) := by decide +kernel
theorem dJx00060_init_a7421_1 : decode cJx00060_init_a7421 1 = .ok (.aload_n 1, 1) := by decide +kernel
theorem dJx00060_init_a7421_2 : decode cJx00060_init_a7421 2 = .ok (.invokespecial 7, 3) := by decide +kernel
theorem dJx00060_init_a7421_5 : decode cJx00060_init_a7421 5 = .ok (.return_, 1) := by decide +kernel
theorem dJx29ce0_ordinal_8abf5_0 : decode cJx29ce0_ordinal_8abf5 0 = .ok (.aload_n 0, 1) := by decide +kernel
theorem dJx29ce0_ordinal_8abf5_1 : decode cJx29ce0_ordinal_8abf5 1 = .ok (.getfield 7, 3) := by decide +kernel
theorem dJx29ce0_ordinal_8abf5_4 : decode cJx29ce0_ordinal_8abf5 4 = .ok (.ireturn, 1) := by decide +kernel
theorem dJ6_bitCount_0f7a4_0 : decode cJ6_bitCount_0f7a4 0 = .ok (.iload_n 0, 1) := by decide +kernel
theorem dJ6_bitCount_0f7a4_1 : decode cJ6_bitCount_0f7a4 1 = .ok (.iload_n 0, 1) := by decide +kernel
theorem dJ6_bitCount_0f7a4_2 : decode cJ6_bitCount_0f7a4 2 = .ok (.iconst 1, 1) := by decide +kernel
theorem dJ6_bitCount_0f7a4_3 : decode cJ6_bitCount_0f7a4 3 = .ok (.iushr, 1) := by decide +kernel
theorem dJ6_bitCount_0f7a4_4 : decode cJ6_bitCount_0f7a4 4 = .ok (.ldc_w 265, 3) := by decide +kernel
theorem dJ6_bitCount_0f7a4_7 : decode cJ6_bitCount_0f7a4 7 = .ok (.iand, 1) := by decide +kernel
theorem dJ6_bitCount_0f7a4_8 : decode cJ6_bitCount_0f7a4 8 = .ok (.isub, 1) := by decide +kernel
theorem dJ6_bitCount_0f7a4_9 : decode cJ6_bitCount_0f7a4 9 = .ok (.istore_n 0, 1) := by decide +kernel
theorem dJ6_bitCount_0f7a4_10 : decode cJ6_bitCount_0f7a4 10 = .ok (.iload_n 0, 1) := by decide +kernel
theorem dJ6_bitCount_0f7a4_11 : decode cJ6_bitCount_0f7a4 11 = .ok (.ldc_w 266, 3) := by decide +kernel
theorem dJ6_bitCount_0f7a4_14 : decode cJ6_bitCount_0f7a4 14 = .ok (.iand, 1) := by decide +kernel
theorem dJ6_bitCount_0f7a4_15 : decode cJ6_bitCount_0f7a4 15 = .ok (.iload_n 0, 1) := by decide +kernel
theorem dJ6_bitCount_0f7a4_16 : decode cJ6_bitCount_0f7a4 16 = .ok (.iconst 2, 1) := by decide +kernel
theorem dJ6_bitCount_0f7a4_17 : decode cJ6_bitCount_0f7a4 17 = .ok (.iushr, 1) := by decide +kernel
theorem dJ6_bitCount_0f7a4_18 : decode cJ6_bitCount_0f7a4 18 = .ok (.ldc_w 266, 3) := by decide +kernel
theorem dJ6_bitCount_0f7a4_21 : decode cJ6_bitCount_0f7a4 21 = .ok (.iand, 1) := by decide +kernel
theorem dJ6_bitCount_0f7a4_22 : decode cJ6_bitCount_0f7a4 22 = .ok (.iadd, 1) := by decide +kernel
theorem dJ6_bitCount_0f7a4_23 : decode cJ6_bitCount_0f7a4 23 = .ok (.istore_n 0, 1) := by decide +kernel
theorem dJ6_bitCount_0f7a4_24 : decode cJ6_bitCount_0f7a4 24 = .ok (.iload_n 0, 1) := by decide +kernel
theorem dJ6_bitCount_0f7a4_25 : decode cJ6_bitCount_0f7a4 25 = .ok (.iload_n 0, 1) := by decide +kernel
theorem dJ6_bitCount_0f7a4_26 : decode cJ6_bitCount_0f7a4 26 = .ok (.iconst 4, 1) := by decide +kernel
theorem dJ6_bitCount_0f7a4_27 : decode cJ6_bitCount_0f7a4 27 = .ok (.iushr, 1) := by decide +kernel
theorem dJ6_bitCount_0f7a4_28 : decode cJ6_bitCount_0f7a4 28 = .ok (.iadd, 1) := by decide +kernel
theorem dJ6_bitCount_0f7a4_29 : decode cJ6_bitCount_0f7a4 29 = .ok (.ldc_w 267, 3) := by decide +kernel
theorem dJ6_bitCount_0f7a4_32 : decode cJ6_bitCount_0f7a4 32 = .ok (.iand, 1) := by decide +kernel
theorem dJ6_bitCount_0f7a4_33 : decode cJ6_bitCount_0f7a4 33 = .ok (.istore_n 0, 1) := by decide +kernel
theorem dJ6_bitCount_0f7a4_34 : decode cJ6_bitCount_0f7a4 34 = .ok (.iload_n 0, 1) := by decide +kernel
theorem dJ6_bitCount_0f7a4_35 : decode cJ6_bitCount_0f7a4 35 = .ok (.iload_n 0, 1) := by decide +kernel
theorem dJ6_bitCount_0f7a4_36 : decode cJ6_bitCount_0f7a4 36 = .ok (.bipush 8, 2) := by decide +kernel
theorem dJ6_bitCount_0f7a4_38 : decode cJ6_bitCount_0f7a4 38 = .ok (.iushr, 1) := by decide +kernel
theorem dJ6_bitCount_0f7a4_39 : decode cJ6_bitCount_0f7a4 39 = .ok (.iadd, 1) := by decide +kernel
theorem dJ6_bitCount_0f7a4_40 : decode cJ6_bitCount_0f7a4 40 = .ok (.istore_n 0, 1) := by decide +kernel
theorem dJ6_bitCount_0f7a4_41 : decode cJ6_bitCount_0f7a4 41 = .ok (.iload_n 0, 1) := by decide +kernel
theorem dJ6_bitCount_0f7a4_42 : decode cJ6_bitCount_0f7a4 42 = .ok (.iload_n 0, 1) := by decide +kernel
theorem dJ6_bitCount_0f7a4_43 : decode cJ6_bitCount_0f7a4 43 = .ok (.bipush 16, 2) := by decide +kernel
theorem dJ6_bitCount_0f7a4_45 : decode cJ6_bitCount_0f7a4 45 = .ok (.iushr, 1) := by decide +kernel
theorem dJ6_bitCount_0f7a4_46 : decode cJ6_bitCount_0f7a4 46 = .ok (.iadd, 1) := by decide +kernel
theorem dJ6_bitCount_0f7a4_47 : decode cJ6_bitCount_0f7a4 47 = .ok (.istore_n 0, 1) := by decide +kernel
theorem dJ6_bitCount_0f7a4_48 : decode cJ6_bitCount_0f7a4 48 = .ok (.iload_n 0, 1) := by decide +kernel
theorem dJ6_bitCount_0f7a4_49 : decode cJ6_bitCount_0f7a4 49 = .ok (.bipush 63, 2) := by decide +kernel
theorem dJ6_bitCount_0f7a4_51 : decode cJ6_bitCount_0f7a4 51 = .ok (.iand, 1) := by decide +kernel
theorem dJ6_bitCount_0f7a4_52 : decode cJ6_bitCount_0f7a4 52 = .ok (.ireturn, 1) := by decide +kernel
theorem dJ9_max_7cf53_0 : decode cJ9_max_7cf53 0 = .ok (.iload_n 0, 1) := by decide +kernel
theorem dJ9_max_7cf53_1 : decode cJ9_max_7cf53 1 = .ok (.iload_n 1, 1) := by decide +kernel
theorem dJ9_max_7cf53_2 : decode cJ9_max_7cf53 2 = .ok (.if_icmp .lt 7, 3) := by decide +kernel
theorem dJ9_max_7cf53_5 : decode cJ9_max_7cf53 5 = .ok (.iload_n 0, 1) := by decide +kernel
theorem dJ9_max_7cf53_6 : decode cJ9_max_7cf53 6 = .ok (.goto 4, 3) := by decide +kernel
theorem dJ9_max_7cf53_9 : decode cJ9_max_7cf53 9 = .ok (.iload_n 1, 1) := by decide +kernel
theorem dJ9_max_7cf53_10 : decode cJ9_max_7cf53 10 = .ok (.ireturn, 1) := by decide +kernel
theorem dJ9_min_7cf53_0 : decode cJ9_min_7cf53 0 = .ok (.iload_n 0, 1) := by decide +kernel
theorem dJ9_min_7cf53_1 : decode cJ9_min_7cf53 1 = .ok (.iload_n 1, 1) := by decide +kernel
theorem dJ9_min_7cf53_2 : decode cJ9_min_7cf53 2 = .ok (.if_icmp .gt 7, 3) := by decide +kernel
theorem dJ9_min_7cf53_5 : decode cJ9_min_7cf53 5 = .ok (.iload_n 0, 1) := by decide +kernel
theorem dJ9_min_7cf53_6 : decode cJ9_min_7cf53 6 = .ok (.goto 4, 3) := by decide +kernel
theorem dJ9_min_7cf53_9 : decode cJ9_min_7cf53 9 = .ok (.iload_n 1, 1) := by decide +kernel
theorem dJ9_min_7cf53_10 : decode cJ9_min_7cf53 10 = .ok (.ireturn, 1) := by decide +kernel
theorem dJ0_length_8abf5_0 : decode cJ0_length_8abf5 0 = .ok (.aload_n 0, 1) := by decide +kernel
theorem dJ0_length_8abf5_1 : decode cJ0_length_8abf5 1 = .ok (.getfield 9, 3) := by decide +kernel
theorem dJ0_length_8abf5_4 : decode cJ0_length_8abf5 4 = .ok (.arraylength, 1) := by decide +kernel
theorem dJ0_length_8abf5_5 : decode cJ0_length_8abf5 5 = .ok (.aload_n 0, 1) := by decide +kernel
theorem dJ0_length_8abf5_6 : decode cJ0_length_8abf5 6 = .ok (.invokevirtual 335, 3) := by decide +kernel
theorem dJ0_length_8abf5_9 : decode cJ0_length_8abf5 9 = .ok (.ishr, 1) := by decide +kernel
theorem dJ0_length_8abf5_10 : decode cJ0_length_8abf5 10 = .ok (.ireturn, 1) := by decide +kernel
theorem dJ0_charAt_5068e_0 : decode cJ0_charAt_5068e 0 = .ok (.aload_n 0, 1) := by decide +kernel
theorem dJ0_charAt_5068e_1 : decode cJ0_charAt_5068e 1 = .ok (.invokevirtual 492, 3) := by decide +kernel
theorem dJ0_charAt_5068e_4 : decode cJ0_charAt_5068e 4 = .ok (.ifCond .eq 12, 3) := by decide +kernel
theorem dJ0_charAt_5068e_7 : decode cJ0_charAt_5068e 7 = .ok (.aload_n 0, 1) := by decide +kernel
theorem dJ0_charAt_5068e_8 : decode cJ0_charAt_5068e 8 = .ok (.getfield 9, 3) := by decide +kernel
theorem dJ0_charAt_5068e_11 : decode cJ0_charAt_5068e 11 = .ok (.iload_n 1, 1) := by decide +kernel
theorem dJ0_charAt_5068e_12 : decode cJ0_charAt_5068e 12 = .ok (.invokestatic 495, 3) := by decide +kernel
theorem dJ0_charAt_5068e_15 : decode cJ0_charAt_5068e 15 = .ok (.ireturn, 1) := by decide +kernel
theorem dJ0_charAt_5068e_16 : decode cJ0_charAt_5068e 16 = .ok (.aload_n 0, 1) := by decide +kernel
theorem dJ0_charAt_5068e_17 : decode cJ0_charAt_5068e 17 = .ok (.getfield 9, 3) := by decide +kernel
theorem dJ0_charAt_5068e_20 : decode cJ0_charAt_5068e 20 = .ok (.iload_n 1, 1) := by decide +kernel
theorem dJ0_charAt_5068e_21 : decode cJ0_charAt_5068e 21 = .ok (.invokestatic 498, 3) := by decide +kernel
theorem dJ0_charAt_5068e_24 : decode cJ0_charAt_5068e 24 = .ok (.ireturn, 1) := by decide +kernel
theorem dJ0_coder_7d493_0 : decode cJ0_coder_7d493 0 = .ok (.getstatic 38, 3) := by decide +kernel
theorem dJ0_coder_7d493_3 : decode cJ0_coder_7d493 3 = .ok (.ifCond .eq 10, 3) := by decide +kernel
theorem dJ0_coder_7d493_6 : decode cJ0_coder_7d493 6 = .ok (.aload_n 0, 1) := by decide +kernel
theorem dJ0_coder_7d493_7 : decode cJ0_coder_7d493 7 = .ok (.getfield 15, 3) := by decide +kernel
theorem dJ0_coder_7d493_10 : decode cJ0_coder_7d493 10 = .ok (.goto 4, 3) := by decide +kernel
theorem dJ0_coder_7d493_13 : decode cJ0_coder_7d493 13 = .ok (.iconst 1, 1) := by decide +kernel
theorem dJ0_coder_7d493_14 : decode cJ0_coder_7d493 14 = .ok (.ireturn, 1) := by decide +kernel
theorem dJ0_isLatin1_aae02_0 : decode cJ0_isLatin1_aae02 0 = .ok (.getstatic 38, 3) := by decide +kernel
theorem dJ0_isLatin1_aae02_3 : decode cJ0_isLatin1_aae02 3 = .ok (.ifCond .eq 14, 3) := by decide +kernel
theorem dJ0_isLatin1_aae02_6 : decode cJ0_isLatin1_aae02 6 = .ok (.aload_n 0, 1) := by decide +kernel
theorem dJ0_isLatin1_aae02_7 : decode cJ0_isLatin1_aae02 7 = .ok (.getfield 15, 3) := by decide +kernel
theorem dJ0_isLatin1_aae02_10 : decode cJ0_isLatin1_aae02 10 = .ok (.ifCond .ne 7, 3) := by decide +kernel
theorem dJ0_isLatin1_aae02_13 : decode cJ0_isLatin1_aae02 13 = .ok (.iconst 1, 1) := by decide +kernel
theorem dJ0_isLatin1_aae02_14 : decode cJ0_isLatin1_aae02 14 = .ok (.goto 4, 3) := by decide +kernel
theorem dJ0_isLatin1_aae02_17 : decode cJ0_isLatin1_aae02 17 = .ok (.iconst 0, 1) := by decide +kernel
theorem dJ0_isLatin1_aae02_18 : decode cJ0_isLatin1_aae02 18 = .ok (.ireturn, 1) := by decide +kernel
theorem dJ0_checkIndex_df160_0 : decode cJ0_checkIndex_df160 0 = .ok (.iload_n 0, 1) := by decide +kernel
theorem dJ0_checkIndex_df160_1 : decode cJ0_checkIndex_df160 1 = .ok (.iload_n 1, 1) := by decide +kernel
theorem dJ0_checkIndex_df160_2 : decode cJ0_checkIndex_df160 2 = .ok (.getstatic 1053, 3) := by decide +kernel
theorem dJ0_checkIndex_df160_5 : decode cJ0_checkIndex_df160 5 = .ok (.invokestatic 1059, 3) := by decide +kernel
theorem dJ0_checkIndex_df160_8 : decode cJ0_checkIndex_df160 8 = .ok (.pop, 1) := by decide +kernel
theorem dJ0_checkIndex_df160_9 : decode cJ0_checkIndex_df160 9 = .ok (.return_, 1) := by decide +kernel
theorem dJ1_charAt_3b067_0 : decode cJ1_charAt_3b067 0 = .ok (.iload_n 1, 1) := by decide +kernel
theorem dJ1_charAt_3b067_1 : decode cJ1_charAt_3b067 1 = .ok (.aload_n 0, 1) := by decide +kernel
theorem dJ1_charAt_3b067_2 : decode cJ1_charAt_3b067 2 = .ok (.arraylength, 1) := by decide +kernel
theorem dJ1_charAt_3b067_3 : decode cJ1_charAt_3b067 3 = .ok (.invokestatic 9, 3) := by decide +kernel
theorem dJ1_charAt_3b067_6 : decode cJ1_charAt_3b067 6 = .ok (.aload_n 0, 1) := by decide +kernel
theorem dJ1_charAt_3b067_7 : decode cJ1_charAt_3b067 7 = .ok (.iload_n 1, 1) := by decide +kernel
theorem dJ1_charAt_3b067_8 : decode cJ1_charAt_3b067 8 = .ok (.baload, 1) := by decide +kernel
theorem dJ1_charAt_3b067_9 : decode cJ1_charAt_3b067 9 = .ok (.sipush 255, 3) := by decide +kernel
theorem dJ1_charAt_3b067_12 : decode cJ1_charAt_3b067 12 = .ok (.iand, 1) := by decide +kernel
theorem dJ1_charAt_3b067_13 : decode cJ1_charAt_3b067 13 = .ok (.i2c, 1) := by decide +kernel
theorem dJ1_charAt_3b067_14 : decode cJ1_charAt_3b067 14 = .ok (.ireturn, 1) := by decide +kernel
theorem dJ2_getChar_3b067_0 : decode cJ2_getChar_3b067 0 = .ok (.getstatic 44, 3) := by decide +kernel
theorem dJ2_getChar_3b067_3 : decode cJ2_getChar_3b067 3 = .ok (.ifCond .ne 25, 3) := by decide +kernel
theorem dJ2_getChar_3b067_6 : decode cJ2_getChar_3b067 6 = .ok (.iload_n 1, 1) := by decide +kernel
theorem dJ2_getChar_3b067_7 : decode cJ2_getChar_3b067 7 = .ok (.ifCond .lt 11, 3) := by decide +kernel
theorem dJ2_getChar_3b067_10 : decode cJ2_getChar_3b067 10 = .ok (.iload_n 1, 1) := by decide +kernel
theorem dJ2_getChar_3b067_11 : decode cJ2_getChar_3b067 11 = .ok (.aload_n 0, 1) := by decide +kernel
theorem dJ2_getChar_3b067_12 : decode cJ2_getChar_3b067 12 = .ok (.invokestatic 48, 3) := by decide +kernel
theorem dJ2_getChar_3b067_15 : decode cJ2_getChar_3b067 15 = .ok (.if_icmp .lt 13, 3) := by decide +kernel
theorem dJ2_getChar_3b067_18 : decode cJ2_getChar_3b067 18 = .ok (.new 52, 3) := by decide +kernel
theorem dJ2_getChar_3b067_21 : decode cJ2_getChar_3b067 21 = .ok (.dup, 1) := by decide +kernel
theorem dJ2_getChar_3b067_22 : decode cJ2_getChar_3b067 22 = .ok (.ldc 54, 2) := by decide +kernel
theorem dJ2_getChar_3b067_24 : decode cJ2_getChar_3b067 24 = .ok (.invokespecial 56, 3) := by decide +kernel
theorem dJ2_getChar_3b067_27 : decode cJ2_getChar_3b067 27 = .ok (.athrow, 1) := by decide +kernel
theorem dJ2_getChar_3b067_28 : decode cJ2_getChar_3b067 28 = .ok (.iload_n 1, 1) := by decide +kernel
theorem dJ2_getChar_3b067_29 : decode cJ2_getChar_3b067 29 = .ok (.iconst 1, 1) := by decide +kernel
theorem dJ2_getChar_3b067_30 : decode cJ2_getChar_3b067 30 = .ok (.ishl, 1) := by decide +kernel
theorem dJ2_getChar_3b067_31 : decode cJ2_getChar_3b067 31 = .ok (.istore_n 1, 1) := by decide +kernel
theorem dJ2_getChar_3b067_32 : decode cJ2_getChar_3b067 32 = .ok (.aload_n 0, 1) := by decide +kernel
theorem dJ2_getChar_3b067_33 : decode cJ2_getChar_3b067 33 = .ok (.iload_n 1, 1) := by decide +kernel
theorem dJ2_getChar_3b067_34 : decode cJ2_getChar_3b067 34 = .ok (.iinc 1 1, 3) := by decide +kernel
theorem dJ2_getChar_3b067_37 : decode cJ2_getChar_3b067 37 = .ok (.baload, 1) := by decide +kernel
theorem dJ2_getChar_3b067_38 : decode cJ2_getChar_3b067 38 = .ok (.sipush 255, 3) := by decide +kernel
theorem dJ2_getChar_3b067_41 : decode cJ2_getChar_3b067 41 = .ok (.iand, 1) := by decide +kernel
theorem dJ2_getChar_3b067_42 : decode cJ2_getChar_3b067 42 = .ok (.getstatic 59, 3) := by decide +kernel
theorem dJ2_getChar_3b067_45 : decode cJ2_getChar_3b067 45 = .ok (.ishl, 1) := by decide +kernel
theorem dJ2_getChar_3b067_46 : decode cJ2_getChar_3b067 46 = .ok (.aload_n 0, 1) := by decide +kernel
theorem dJ2_getChar_3b067_47 : decode cJ2_getChar_3b067 47 = .ok (.iload_n 1, 1) := by decide +kernel
theorem dJ2_getChar_3b067_48 : decode cJ2_getChar_3b067 48 = .ok (.baload, 1) := by decide +kernel
theorem dJ2_getChar_3b067_49 : decode cJ2_getChar_3b067 49 = .ok (.sipush 255, 3) := by decide +kernel
theorem dJ2_getChar_3b067_52 : decode cJ2_getChar_3b067 52 = .ok (.iand, 1) := by decide +kernel
theorem dJ2_getChar_3b067_53 : decode cJ2_getChar_3b067 53 = .ok (.getstatic 63, 3) := by decide +kernel
theorem dJ2_getChar_3b067_56 : decode cJ2_getChar_3b067 56 = .ok (.ishl, 1) := by decide +kernel
theorem dJ2_getChar_3b067_57 : decode cJ2_getChar_3b067 57 = .ok (.ior, 1) := by decide +kernel
theorem dJ2_getChar_3b067_58 : decode cJ2_getChar_3b067 58 = .ok (.i2c, 1) := by decide +kernel
theorem dJ2_getChar_3b067_59 : decode cJ2_getChar_3b067 59 = .ok (.ireturn, 1) := by decide +kernel
theorem dJ2_length_9d52b_0 : decode cJ2_length_9d52b 0 = .ok (.aload_n 0, 1) := by decide +kernel
theorem dJ2_length_9d52b_1 : decode cJ2_length_9d52b 1 = .ok (.arraylength, 1) := by decide +kernel
theorem dJ2_length_9d52b_2 : decode cJ2_length_9d52b 2 = .ok (.iconst 1, 1) := by decide +kernel
theorem dJ2_length_9d52b_3 : decode cJ2_length_9d52b 3 = .ok (.ishr, 1) := by decide +kernel
theorem dJ2_length_9d52b_4 : decode cJ2_length_9d52b 4 = .ok (.ireturn, 1) := by decide +kernel
theorem dJ2_charAt_3b067_0 : decode cJ2_charAt_3b067 0 = .ok (.iload_n 1, 1) := by decide +kernel
theorem dJ2_charAt_3b067_1 : decode cJ2_charAt_3b067 1 = .ok (.aload_n 0, 1) := by decide +kernel
theorem dJ2_charAt_3b067_2 : decode cJ2_charAt_3b067 2 = .ok (.invokestatic 67, 3) := by decide +kernel
theorem dJ2_charAt_3b067_5 : decode cJ2_charAt_3b067 5 = .ok (.aload_n 0, 1) := by decide +kernel
theorem dJ2_charAt_3b067_6 : decode cJ2_charAt_3b067 6 = .ok (.iload_n 1, 1) := by decide +kernel
theorem dJ2_charAt_3b067_7 : decode cJ2_charAt_3b067 7 = .ok (.invokestatic 71, 3) := by decide +kernel
theorem dJ2_charAt_3b067_10 : decode cJ2_charAt_3b067 10 = .ok (.ireturn, 1) := by decide +kernel
theorem dJ2_checkIndex_2214a_0 : decode cJ2_checkIndex_2214a 0 = .ok (.iload_n 0, 1) := by decide +kernel
theorem dJ2_checkIndex_2214a_1 : decode cJ2_checkIndex_2214a 1 = .ok (.aload_n 1, 1) := by decide +kernel
theorem dJ2_checkIndex_2214a_2 : decode cJ2_checkIndex_2214a 2 = .ok (.invokestatic 48, 3) := by decide +kernel
theorem dJ2_checkIndex_2214a_5 : decode cJ2_checkIndex_2214a 5 = .ok (.invokestatic 414, 3) := by decide +kernel
theorem dJ2_checkIndex_2214a_8 : decode cJ2_checkIndex_2214a 8 = .ok (.return_, 1) := by decide +kernel
theorem dJ3_checkIndex_8e157_0 : decode cJ3_checkIndex_8e157 0 = .ok (.iload_n 0, 1) := by decide +kernel
theorem dJ3_checkIndex_8e157_1 : decode cJ3_checkIndex_8e157 1 = .ok (.ifCond .lt 8, 3) := by decide +kernel
theorem dJ3_checkIndex_8e157_4 : decode cJ3_checkIndex_8e157 4 = .ok (.iload_n 0, 1) := by decide +kernel
theorem dJ3_checkIndex_8e157_5 : decode cJ3_checkIndex_8e157 5 = .ok (.iload_n 1, 1) := by decide +kernel
theorem dJ3_checkIndex_8e157_6 : decode cJ3_checkIndex_8e157 6 = .ok (.if_icmp .lt 10, 3) := by decide +kernel
theorem dJ3_checkIndex_8e157_9 : decode cJ3_checkIndex_8e157 9 = .ok (.aload_n 2, 1) := by decide +kernel
theorem dJ3_checkIndex_8e157_10 : decode cJ3_checkIndex_8e157 10 = .ok (.iload_n 0, 1) := by decide +kernel
theorem dJ3_checkIndex_8e157_11 : decode cJ3_checkIndex_8e157 11 = .ok (.iload_n 1, 1) := by decide +kernel
theorem dJ3_checkIndex_8e157_12 : decode cJ3_checkIndex_8e157 12 = .ok (.invokestatic 95, 3) := by decide +kernel
theorem dJ3_checkIndex_8e157_15 : decode cJ3_checkIndex_8e157 15 = .ok (.athrow, 1) := by decide +kernel
theorem dJ3_checkIndex_8e157_16 : decode cJ3_checkIndex_8e157 16 = .ok (.iload_n 0, 1) := by decide +kernel
theorem dJ3_checkIndex_8e157_17 : decode cJ3_checkIndex_8e157 17 = .ok (.ireturn, 1) := by decide +kernel
theorem dL_addBlock_0 : decode cL_addBlock 0 = .ok (.aload_n 2, 1) := by decide +kernel
theorem dL_addBlock_1 : decode cL_addBlock 1 = .ok (.iconst 0, 1) := by decide +kernel
theorem dL_addBlock_2 : decode cL_addBlock 2 = .ok (.aload_n 0, 1) := by decide +kernel
theorem dL_addBlock_3 : decode cL_addBlock 3 = .ok (.iload_n 1, 1) := by decide +kernel
theorem dL_addBlock_4 : decode cL_addBlock 4 = .ok (.invokevirtual 7, 3) := by decide +kernel
theorem dL_addBlock_7 : decode cL_addBlock 7 = .ok (.i2l, 1) := by decide +kernel
theorem dL_addBlock_8 : decode cL_addBlock 8 = .ok (.lastore, 1) := by decide +kernel
theorem dL_addBlock_9 : decode cL_addBlock 9 = .ok (.goto 9, 3) := by decide +kernel
theorem dL_addBlock_12 : decode cL_addBlock 12 = .ok (.astore_n 3, 1) := by decide +kernel
theorem dL_addBlock_13 : decode cL_addBlock 13 = .ok (.iconst 1, 1) := by decide +kernel
theorem dL_addBlock_14 : decode cL_addBlock 14 = .ok (.ireturn, 1) := by decide +kernel
theorem dL_addBlock_15 : decode cL_addBlock 15 = .ok (.astore_n 3, 1) := by decide +kernel
theorem dL_addBlock_16 : decode cL_addBlock 16 = .ok (.iconst 2, 1) := by decide +kernel
theorem dL_addBlock_17 : decode cL_addBlock 17 = .ok (.ireturn, 1) := by decide +kernel
theorem dL_addBlock_18 : decode cL_addBlock 18 = .ok (.iconst 0, 1) := by decide +kernel
theorem dL_addBlock_19 : decode cL_addBlock 19 = .ok (.ireturn, 1) := by decide +kernel
theorem dL_addCushion_0 : decode cL_addCushion 0 = .ok (.aload_n 2, 1) := by decide +kernel
theorem dL_addCushion_1 : decode cL_addCushion 1 = .ok (.iconst 0, 1) := by decide +kernel
theorem dL_addCushion_2 : decode cL_addCushion 2 = .ok (.aload_n 0, 1) := by decide +kernel
theorem dL_addCushion_3 : decode cL_addCushion 3 = .ok (.iload_n 1, 1) := by decide +kernel
theorem dL_addCushion_4 : decode cL_addCushion 4 = .ok (.invokevirtual 17, 3) := by decide +kernel
theorem dL_addCushion_7 : decode cL_addCushion 7 = .ok (.i2l, 1) := by decide +kernel
theorem dL_addCushion_8 : decode cL_addCushion 8 = .ok (.lastore, 1) := by decide +kernel
theorem dL_addCushion_9 : decode cL_addCushion 9 = .ok (.goto 9, 3) := by decide +kernel
theorem dL_addCushion_12 : decode cL_addCushion 12 = .ok (.astore_n 3, 1) := by decide +kernel
theorem dL_addCushion_13 : decode cL_addCushion 13 = .ok (.iconst 1, 1) := by decide +kernel
theorem dL_addCushion_14 : decode cL_addCushion 14 = .ok (.ireturn, 1) := by decide +kernel
theorem dL_addCushion_15 : decode cL_addCushion 15 = .ok (.astore_n 3, 1) := by decide +kernel
theorem dL_addCushion_16 : decode cL_addCushion 16 = .ok (.iconst 2, 1) := by decide +kernel
theorem dL_addCushion_17 : decode cL_addCushion 17 = .ok (.ireturn, 1) := by decide +kernel
theorem dL_addCushion_18 : decode cL_addCushion 18 = .ok (.iconst 0, 1) := by decide +kernel
theorem dL_addCushion_19 : decode cL_addCushion 19 = .ok (.ireturn, 1) := by decide +kernel
theorem dL_link_0 : decode cL_link 0 = .ok (.aload_n 3, 1) := by decide +kernel
theorem dL_link_1 : decode cL_link 1 = .ok (.iconst 0, 1) := by decide +kernel
theorem dL_link_2 : decode cL_link 2 = .ok (.aload_n 0, 1) := by decide +kernel
theorem dL_link_3 : decode cL_link 3 = .ok (.iload_n 1, 1) := by decide +kernel
theorem dL_link_4 : decode cL_link 4 = .ok (.iload_n 2, 1) := by decide +kernel
theorem dL_link_5 : decode cL_link 5 = .ok (.invokevirtual 20, 3) := by decide +kernel
theorem dL_link_8 : decode cL_link 8 = .ok (.i2l, 1) := by decide +kernel
theorem dL_link_9 : decode cL_link 9 = .ok (.lastore, 1) := by decide +kernel
theorem dL_link_10 : decode cL_link 10 = .ok (.goto 15, 3) := by decide +kernel
theorem dL_link_13 : decode cL_link 13 = .ok (.astore 4, 2) := by decide +kernel
theorem dL_link_15 : decode cL_link 15 = .ok (.iconst 1, 1) := by decide +kernel
theorem dL_link_16 : decode cL_link 16 = .ok (.ireturn, 1) := by decide +kernel
theorem dL_link_17 : decode cL_link 17 = .ok (.astore 4, 2) := by decide +kernel
theorem dL_link_19 : decode cL_link 19 = .ok (.iconst 2, 1) := by decide +kernel
theorem dL_link_20 : decode cL_link 20 = .ok (.ireturn, 1) := by decide +kernel
theorem dL_link_21 : decode cL_link 21 = .ok (.astore 4, 2) := by decide +kernel
theorem dL_link_23 : decode cL_link 23 = .ok (.iconst 3, 1) := by decide +kernel
theorem dL_link_24 : decode cL_link 24 = .ok (.ireturn, 1) := by decide +kernel
theorem dL_link_25 : decode cL_link 25 = .ok (.iconst 0, 1) := by decide +kernel
theorem dL_link_26 : decode cL_link 26 = .ok (.ireturn, 1) := by decide +kernel
theorem dL_unlink_0 : decode cL_unlink 0 = .ok (.aload_n 3, 1) := by decide +kernel
theorem dL_unlink_1 : decode cL_unlink 1 = .ok (.iconst 0, 1) := by decide +kernel
theorem dL_unlink_2 : decode cL_unlink 2 = .ok (.aload_n 0, 1) := by decide +kernel
theorem dL_unlink_3 : decode cL_unlink 3 = .ok (.iload_n 1, 1) := by decide +kernel
theorem dL_unlink_4 : decode cL_unlink 4 = .ok (.iload_n 2, 1) := by decide +kernel
theorem dL_unlink_5 : decode cL_unlink 5 = .ok (.invokevirtual 26, 3) := by decide +kernel
theorem dL_unlink_8 : decode cL_unlink 8 = .ok (.i2l, 1) := by decide +kernel
theorem dL_unlink_9 : decode cL_unlink 9 = .ok (.lastore, 1) := by decide +kernel
theorem dL_unlink_10 : decode cL_unlink 10 = .ok (.goto 11, 3) := by decide +kernel
theorem dL_unlink_13 : decode cL_unlink 13 = .ok (.astore 4, 2) := by decide +kernel
theorem dL_unlink_15 : decode cL_unlink 15 = .ok (.iconst 1, 1) := by decide +kernel
theorem dL_unlink_16 : decode cL_unlink 16 = .ok (.ireturn, 1) := by decide +kernel
theorem dL_unlink_17 : decode cL_unlink 17 = .ok (.astore 4, 2) := by decide +kernel
theorem dL_unlink_19 : decode cL_unlink 19 = .ok (.iconst 2, 1) := by decide +kernel
theorem dL_unlink_20 : decode cL_unlink 20 = .ok (.ireturn, 1) := by decide +kernel
theorem dL_unlink_21 : decode cL_unlink 21 = .ok (.iconst 0, 1) := by decide +kernel
theorem dL_unlink_22 : decode cL_unlink 22 = .ok (.ireturn, 1) := by decide +kernel
theorem dL_putCat_0 : decode cL_putCat 0 = .ok (.aload_n 2, 1) := by decide +kernel
theorem dL_putCat_1 : decode cL_putCat 1 = .ok (.iconst 0, 1) := by decide +kernel
theorem dL_putCat_2 : decode cL_putCat 2 = .ok (.aload_n 0, 1) := by decide +kernel
theorem dL_putCat_3 : decode cL_putCat 3 = .ok (.iload_n 1, 1) := by decide +kernel
theorem dL_putCat_4 : decode cL_putCat 4 = .ok (.invokevirtual 31, 3) := by decide +kernel
theorem dL_putCat_7 : decode cL_putCat 7 = .ok (.i2l, 1) := by decide +kernel
theorem dL_putCat_8 : decode cL_putCat 8 = .ok (.lastore, 1) := by decide +kernel
theorem dL_putCat_9 : decode cL_putCat 9 = .ok (.goto 12, 3) := by decide +kernel
theorem dL_putCat_12 : decode cL_putCat 12 = .ok (.astore_n 3, 1) := by decide +kernel
theorem dL_putCat_13 : decode cL_putCat 13 = .ok (.iconst 1, 1) := by decide +kernel
theorem dL_putCat_14 : decode cL_putCat 14 = .ok (.ireturn, 1) := by decide +kernel
theorem dL_putCat_15 : decode cL_putCat 15 = .ok (.astore_n 3, 1) := by decide +kernel
theorem dL_putCat_16 : decode cL_putCat 16 = .ok (.iconst 2, 1) := by decide +kernel
theorem dL_putCat_17 : decode cL_putCat 17 = .ok (.ireturn, 1) := by decide +kernel
theorem dL_putCat_18 : decode cL_putCat 18 = .ok (.astore_n 3, 1) := by decide +kernel
theorem dL_putCat_19 : decode cL_putCat 19 = .ok (.iconst 3, 1) := by decide +kernel
theorem dL_putCat_20 : decode cL_putCat 20 = .ok (.ireturn, 1) := by decide +kernel
theorem dL_putCat_21 : decode cL_putCat 21 = .ok (.iconst 0, 1) := by decide +kernel
theorem dL_putCat_22 : decode cL_putCat 22 = .ok (.ireturn, 1) := by decide +kernel
theorem dL_removeCat_0 : decode cL_removeCat 0 = .ok (.aload_n 2, 1) := by decide +kernel
theorem dL_removeCat_1 : decode cL_removeCat 1 = .ok (.iconst 0, 1) := by decide +kernel
theorem dL_removeCat_2 : decode cL_removeCat 2 = .ok (.aload_n 0, 1) := by decide +kernel
theorem dL_removeCat_3 : decode cL_removeCat 3 = .ok (.iload_n 1, 1) := by decide +kernel
theorem dL_removeCat_4 : decode cL_removeCat 4 = .ok (.invokevirtual 36, 3) := by decide +kernel
theorem dL_removeCat_7 : decode cL_removeCat 7 = .ok (.i2l, 1) := by decide +kernel
theorem dL_removeCat_8 : decode cL_removeCat 8 = .ok (.lastore, 1) := by decide +kernel
theorem dL_removeCat_9 : decode cL_removeCat 9 = .ok (.goto 9, 3) := by decide +kernel
theorem dL_removeCat_12 : decode cL_removeCat 12 = .ok (.astore_n 3, 1) := by decide +kernel
theorem dL_removeCat_13 : decode cL_removeCat 13 = .ok (.iconst 1, 1) := by decide +kernel
theorem dL_removeCat_14 : decode cL_removeCat 14 = .ok (.ireturn, 1) := by decide +kernel
theorem dL_removeCat_15 : decode cL_removeCat 15 = .ok (.astore_n 3, 1) := by decide +kernel
theorem dL_removeCat_16 : decode cL_removeCat 16 = .ok (.iconst 2, 1) := by decide +kernel
theorem dL_removeCat_17 : decode cL_removeCat 17 = .ok (.ireturn, 1) := by decide +kernel
theorem dL_removeCat_18 : decode cL_removeCat 18 = .ok (.iconst 0, 1) := by decide +kernel
theorem dL_removeCat_19 : decode cL_removeCat 19 = .ok (.ireturn, 1) := by decide +kernel
theorem dL_length_0 : decode cL_length 0 = .ok (.aload_n 2, 1) := by decide +kernel
theorem dL_length_1 : decode cL_length 1 = .ok (.iconst 0, 1) := by decide +kernel
theorem dL_length_2 : decode cL_length 2 = .ok (.aload_n 0, 1) := by decide +kernel
theorem dL_length_3 : decode cL_length 3 = .ok (.iload_n 1, 1) := by decide +kernel
theorem dL_length_4 : decode cL_length 4 = .ok (.invokevirtual 39, 3) := by decide +kernel
theorem dL_length_7 : decode cL_length 7 = .ok (.i2l, 1) := by decide +kernel
theorem dL_length_8 : decode cL_length 8 = .ok (.lastore, 1) := by decide +kernel
theorem dL_length_9 : decode cL_length 9 = .ok (.goto 6, 3) := by decide +kernel
theorem dL_length_12 : decode cL_length 12 = .ok (.astore_n 3, 1) := by decide +kernel
theorem dL_length_13 : decode cL_length 13 = .ok (.iconst 1, 1) := by decide +kernel
theorem dL_length_14 : decode cL_length 14 = .ok (.ireturn, 1) := by decide +kernel
theorem dL_length_15 : decode cL_length 15 = .ok (.iconst 0, 1) := by decide +kernel
theorem dL_length_16 : decode cL_length 16 = .ok (.ireturn, 1) := by decide +kernel
theorem dL_isCushion_0 : decode cL_isCushion 0 = .ok (.aload_n 2, 1) := by decide +kernel
theorem dL_isCushion_1 : decode cL_isCushion 1 = .ok (.iconst 0, 1) := by decide +kernel
theorem dL_isCushion_2 : decode cL_isCushion 2 = .ok (.aload_n 0, 1) := by decide +kernel
theorem dL_isCushion_3 : decode cL_isCushion 3 = .ok (.iload_n 1, 1) := by decide +kernel
theorem dL_isCushion_4 : decode cL_isCushion 4 = .ok (.invokevirtual 42, 3) := by decide +kernel
theorem dL_isCushion_7 : decode cL_isCushion 7 = .ok (.ifCond .eq 7, 3) := by decide +kernel
theorem dL_isCushion_10 : decode cL_isCushion 10 = .ok (.lconst 1, 1) := by decide +kernel
theorem dL_isCushion_11 : decode cL_isCushion 11 = .ok (.goto 4, 3) := by decide +kernel
theorem dL_isCushion_14 : decode cL_isCushion 14 = .ok (.lconst 0, 1) := by decide +kernel
theorem dL_isCushion_15 : decode cL_isCushion 15 = .ok (.lastore, 1) := by decide +kernel
theorem dL_isCushion_16 : decode cL_isCushion 16 = .ok (.goto 6, 3) := by decide +kernel
theorem dL_isCushion_19 : decode cL_isCushion 19 = .ok (.astore_n 3, 1) := by decide +kernel
theorem dL_isCushion_20 : decode cL_isCushion 20 = .ok (.iconst 1, 1) := by decide +kernel
theorem dL_isCushion_21 : decode cL_isCushion 21 = .ok (.ireturn, 1) := by decide +kernel
theorem dL_isCushion_22 : decode cL_isCushion 22 = .ok (.iconst 0, 1) := by decide +kernel
theorem dL_isCushion_23 : decode cL_isCushion 23 = .ok (.ireturn, 1) := by decide +kernel
theorem dL_hasCat_0 : decode cL_hasCat 0 = .ok (.aload_n 2, 1) := by decide +kernel
theorem dL_hasCat_1 : decode cL_hasCat 1 = .ok (.iconst 0, 1) := by decide +kernel
theorem dL_hasCat_2 : decode cL_hasCat 2 = .ok (.aload_n 0, 1) := by decide +kernel
theorem dL_hasCat_3 : decode cL_hasCat 3 = .ok (.iload_n 1, 1) := by decide +kernel
theorem dL_hasCat_4 : decode cL_hasCat 4 = .ok (.invokevirtual 46, 3) := by decide +kernel
theorem dL_hasCat_7 : decode cL_hasCat 7 = .ok (.ifCond .eq 7, 3) := by decide +kernel
theorem dL_hasCat_10 : decode cL_hasCat 10 = .ok (.lconst 1, 1) := by decide +kernel
theorem dL_hasCat_11 : decode cL_hasCat 11 = .ok (.goto 4, 3) := by decide +kernel
theorem dL_hasCat_14 : decode cL_hasCat 14 = .ok (.lconst 0, 1) := by decide +kernel
theorem dL_hasCat_15 : decode cL_hasCat 15 = .ok (.lastore, 1) := by decide +kernel
theorem dL_hasCat_16 : decode cL_hasCat 16 = .ok (.goto 6, 3) := by decide +kernel
theorem dL_hasCat_19 : decode cL_hasCat 19 = .ok (.astore_n 3, 1) := by decide +kernel
theorem dL_hasCat_20 : decode cL_hasCat 20 = .ok (.iconst 1, 1) := by decide +kernel
theorem dL_hasCat_21 : decode cL_hasCat 21 = .ok (.ireturn, 1) := by decide +kernel
theorem dL_hasCat_22 : decode cL_hasCat 22 = .ok (.iconst 0, 1) := by decide +kernel
theorem dL_hasCat_23 : decode cL_hasCat 23 = .ok (.ireturn, 1) := by decide +kernel
theorem dL_areLinked_0 : decode cL_areLinked 0 = .ok (.aload_n 3, 1) := by decide +kernel
theorem dL_areLinked_1 : decode cL_areLinked 1 = .ok (.iconst 0, 1) := by decide +kernel
theorem dL_areLinked_2 : decode cL_areLinked 2 = .ok (.aload_n 0, 1) := by decide +kernel
theorem dL_areLinked_3 : decode cL_areLinked 3 = .ok (.iload_n 1, 1) := by decide +kernel
theorem dL_areLinked_4 : decode cL_areLinked 4 = .ok (.iload_n 2, 1) := by decide +kernel
theorem dL_areLinked_5 : decode cL_areLinked 5 = .ok (.invokevirtual 49, 3) := by decide +kernel
theorem dL_areLinked_8 : decode cL_areLinked 8 = .ok (.ifCond .eq 7, 3) := by decide +kernel
theorem dL_areLinked_11 : decode cL_areLinked 11 = .ok (.lconst 1, 1) := by decide +kernel
theorem dL_areLinked_12 : decode cL_areLinked 12 = .ok (.goto 4, 3) := by decide +kernel
theorem dL_areLinked_15 : decode cL_areLinked 15 = .ok (.lconst 0, 1) := by decide +kernel
theorem dL_areLinked_16 : decode cL_areLinked 16 = .ok (.lastore, 1) := by decide +kernel
theorem dL_areLinked_17 : decode cL_areLinked 17 = .ok (.goto 7, 3) := by decide +kernel
theorem dL_areLinked_20 : decode cL_areLinked 20 = .ok (.astore 4, 2) := by decide +kernel
theorem dL_areLinked_22 : decode cL_areLinked 22 = .ok (.iconst 1, 1) := by decide +kernel
theorem dL_areLinked_23 : decode cL_areLinked 23 = .ok (.ireturn, 1) := by decide +kernel
theorem dL_areLinked_24 : decode cL_areLinked 24 = .ok (.iconst 0, 1) := by decide +kernel
theorem dL_areLinked_25 : decode cL_areLinked 25 = .ok (.ireturn, 1) := by decide +kernel
theorem dL_degree_0 : decode cL_degree 0 = .ok (.aload_n 2, 1) := by decide +kernel
theorem dL_degree_1 : decode cL_degree 1 = .ok (.iconst 0, 1) := by decide +kernel
theorem dL_degree_2 : decode cL_degree 2 = .ok (.aload_n 0, 1) := by decide +kernel
theorem dL_degree_3 : decode cL_degree 3 = .ok (.iload_n 1, 1) := by decide +kernel
theorem dL_degree_4 : decode cL_degree 4 = .ok (.invokevirtual 53, 3) := by decide +kernel
theorem dL_degree_7 : decode cL_degree 7 = .ok (.i2l, 1) := by decide +kernel
theorem dL_degree_8 : decode cL_degree 8 = .ok (.lastore, 1) := by decide +kernel
theorem dL_degree_9 : decode cL_degree 9 = .ok (.goto 6, 3) := by decide +kernel
theorem dL_degree_12 : decode cL_degree 12 = .ok (.astore_n 3, 1) := by decide +kernel
theorem dL_degree_13 : decode cL_degree 13 = .ok (.iconst 1, 1) := by decide +kernel
theorem dL_degree_14 : decode cL_degree 14 = .ok (.ireturn, 1) := by decide +kernel
theorem dL_degree_15 : decode cL_degree 15 = .ok (.iconst 0, 1) := by decide +kernel
theorem dL_degree_16 : decode cL_degree 16 = .ok (.ireturn, 1) := by decide +kernel
theorem dL_trainIn_0 : decode cL_trainIn 0 = .ok (.aload_n 2, 1) := by decide +kernel
theorem dL_trainIn_1 : decode cL_trainIn 1 = .ok (.iconst 0, 1) := by decide +kernel
theorem dL_trainIn_2 : decode cL_trainIn 2 = .ok (.aload_n 0, 1) := by decide +kernel
theorem dL_trainIn_3 : decode cL_trainIn 3 = .ok (.iload_n 1, 1) := by decide +kernel
theorem dL_trainIn_4 : decode cL_trainIn 4 = .ok (.invokevirtual 56, 3) := by decide +kernel
theorem dL_trainIn_7 : decode cL_trainIn 7 = .ok (.i2l, 1) := by decide +kernel
theorem dL_trainIn_8 : decode cL_trainIn 8 = .ok (.lastore, 1) := by decide +kernel
theorem dL_trainIn_9 : decode cL_trainIn 9 = .ok (.goto 9, 3) := by decide +kernel
theorem dL_trainIn_12 : decode cL_trainIn 12 = .ok (.astore_n 3, 1) := by decide +kernel
theorem dL_trainIn_13 : decode cL_trainIn 13 = .ok (.iconst 1, 1) := by decide +kernel
theorem dL_trainIn_14 : decode cL_trainIn 14 = .ok (.ireturn, 1) := by decide +kernel
theorem dL_trainIn_15 : decode cL_trainIn 15 = .ok (.astore_n 3, 1) := by decide +kernel
theorem dL_trainIn_16 : decode cL_trainIn 16 = .ok (.iconst 2, 1) := by decide +kernel
theorem dL_trainIn_17 : decode cL_trainIn 17 = .ok (.ireturn, 1) := by decide +kernel
theorem dL_trainIn_18 : decode cL_trainIn 18 = .ok (.iconst 0, 1) := by decide +kernel
theorem dL_trainIn_19 : decode cL_trainIn 19 = .ok (.ireturn, 1) := by decide +kernel
theorem dL_reservedBy_0 : decode cL_reservedBy 0 = .ok (.aload_n 2, 1) := by decide +kernel
theorem dL_reservedBy_1 : decode cL_reservedBy 1 = .ok (.iconst 0, 1) := by decide +kernel
theorem dL_reservedBy_2 : decode cL_reservedBy 2 = .ok (.aload_n 0, 1) := by decide +kernel
theorem dL_reservedBy_3 : decode cL_reservedBy 3 = .ok (.iload_n 1, 1) := by decide +kernel
theorem dL_reservedBy_4 : decode cL_reservedBy 4 = .ok (.invokevirtual 59, 3) := by decide +kernel
theorem dL_reservedBy_7 : decode cL_reservedBy 7 = .ok (.i2l, 1) := by decide +kernel
theorem dL_reservedBy_8 : decode cL_reservedBy 8 = .ok (.lastore, 1) := by decide +kernel
theorem dL_reservedBy_9 : decode cL_reservedBy 9 = .ok (.goto 9, 3) := by decide +kernel
theorem dL_reservedBy_12 : decode cL_reservedBy 12 = .ok (.astore_n 3, 1) := by decide +kernel
theorem dL_reservedBy_13 : decode cL_reservedBy 13 = .ok (.iconst 1, 1) := by decide +kernel
theorem dL_reservedBy_14 : decode cL_reservedBy 14 = .ok (.ireturn, 1) := by decide +kernel
theorem dL_reservedBy_15 : decode cL_reservedBy 15 = .ok (.astore_n 3, 1) := by decide +kernel
theorem dL_reservedBy_16 : decode cL_reservedBy 16 = .ok (.iconst 2, 1) := by decide +kernel
theorem dL_reservedBy_17 : decode cL_reservedBy 17 = .ok (.ireturn, 1) := by decide +kernel
theorem dL_reservedBy_18 : decode cL_reservedBy 18 = .ok (.iconst 0, 1) := by decide +kernel
theorem dL_reservedBy_19 : decode cL_reservedBy 19 = .ok (.ireturn, 1) := by decide +kernel
theorem dL_signal_0 : decode cL_signal 0 = .ok (.aload_n 2, 1) := by decide +kernel
theorem dL_signal_1 : decode cL_signal 1 = .ok (.iconst 0, 1) := by decide +kernel
theorem dL_signal_2 : decode cL_signal 2 = .ok (.aload_n 0, 1) := by decide +kernel
theorem dL_signal_3 : decode cL_signal 3 = .ok (.iload_n 1, 1) := by decide +kernel
theorem dL_signal_4 : decode cL_signal 4 = .ok (.invokevirtual 62, 3) := by decide +kernel
theorem dL_signal_7 : decode cL_signal 7 = .ok (.i2l, 1) := by decide +kernel
theorem dL_signal_8 : decode cL_signal 8 = .ok (.lastore, 1) := by decide +kernel
theorem dL_signal_9 : decode cL_signal 9 = .ok (.goto 6, 3) := by decide +kernel
theorem dL_signal_12 : decode cL_signal 12 = .ok (.astore_n 3, 1) := by decide +kernel
theorem dL_signal_13 : decode cL_signal 13 = .ok (.iconst 1, 1) := by decide +kernel
theorem dL_signal_14 : decode cL_signal 14 = .ok (.ireturn, 1) := by decide +kernel
theorem dL_signal_15 : decode cL_signal 15 = .ok (.iconst 0, 1) := by decide +kernel
theorem dL_signal_16 : decode cL_signal 16 = .ok (.ireturn, 1) := by decide +kernel
theorem dL_distance_0 : decode cL_distance 0 = .ok (.aload_n 3, 1) := by decide +kernel
theorem dL_distance_1 : decode cL_distance 1 = .ok (.iconst 0, 1) := by decide +kernel
theorem dL_distance_2 : decode cL_distance 2 = .ok (.aload_n 0, 1) := by decide +kernel
theorem dL_distance_3 : decode cL_distance 3 = .ok (.iload_n 1, 1) := by decide +kernel
theorem dL_distance_4 : decode cL_distance 4 = .ok (.iload_n 2, 1) := by decide +kernel
theorem dL_distance_5 : decode cL_distance 5 = .ok (.invokevirtual 66, 3) := by decide +kernel
theorem dL_distance_8 : decode cL_distance 8 = .ok (.i2l, 1) := by decide +kernel
theorem dL_distance_9 : decode cL_distance 9 = .ok (.lastore, 1) := by decide +kernel
theorem dL_distance_10 : decode cL_distance 10 = .ok (.goto 11, 3) := by decide +kernel
theorem dL_distance_13 : decode cL_distance 13 = .ok (.astore 4, 2) := by decide +kernel
theorem dL_distance_15 : decode cL_distance 15 = .ok (.iconst 1, 1) := by decide +kernel
theorem dL_distance_16 : decode cL_distance 16 = .ok (.ireturn, 1) := by decide +kernel
theorem dL_distance_17 : decode cL_distance 17 = .ok (.astore 4, 2) := by decide +kernel
theorem dL_distance_19 : decode cL_distance 19 = .ok (.iconst 2, 1) := by decide +kernel
theorem dL_distance_20 : decode cL_distance 20 = .ok (.ireturn, 1) := by decide +kernel
theorem dL_distance_21 : decode cL_distance 21 = .ok (.iconst 0, 1) := by decide +kernel
theorem dL_distance_22 : decode cL_distance 22 = .ok (.ireturn, 1) := by decide +kernel
theorem dL_distanceByRounds_0 : decode cL_distanceByRounds 0 = .ok (.aload_n 3, 1) := by decide +kernel
theorem dL_distanceByRounds_1 : decode cL_distanceByRounds 1 = .ok (.iconst 0, 1) := by decide +kernel
theorem dL_distanceByRounds_2 : decode cL_distanceByRounds 2 = .ok (.aload_n 0, 1) := by decide +kernel
theorem dL_distanceByRounds_3 : decode cL_distanceByRounds 3 = .ok (.iload_n 1, 1) := by decide +kernel
theorem dL_distanceByRounds_4 : decode cL_distanceByRounds 4 = .ok (.iload_n 2, 1) := by decide +kernel
theorem dL_distanceByRounds_5 : decode cL_distanceByRounds 5 = .ok (.invokevirtual 69, 3) := by decide +kernel
theorem dL_distanceByRounds_8 : decode cL_distanceByRounds 8 = .ok (.i2l, 1) := by decide +kernel
theorem dL_distanceByRounds_9 : decode cL_distanceByRounds 9 = .ok (.lastore, 1) := by decide +kernel
theorem dL_distanceByRounds_10 : decode cL_distanceByRounds 10 = .ok (.goto 11, 3) := by decide +kernel
theorem dL_distanceByRounds_13 : decode cL_distanceByRounds 13 = .ok (.astore 4, 2) := by decide +kernel
theorem dL_distanceByRounds_15 : decode cL_distanceByRounds 15 = .ok (.iconst 1, 1) := by decide +kernel
theorem dL_distanceByRounds_16 : decode cL_distanceByRounds 16 = .ok (.ireturn, 1) := by decide +kernel
theorem dL_distanceByRounds_17 : decode cL_distanceByRounds 17 = .ok (.astore 4, 2) := by decide +kernel
theorem dL_distanceByRounds_19 : decode cL_distanceByRounds 19 = .ok (.iconst 2, 1) := by decide +kernel
theorem dL_distanceByRounds_20 : decode cL_distanceByRounds 20 = .ok (.ireturn, 1) := by decide +kernel
theorem dL_distanceByRounds_21 : decode cL_distanceByRounds 21 = .ok (.iconst 0, 1) := by decide +kernel
theorem dL_distanceByRounds_22 : decode cL_distanceByRounds 22 = .ok (.ireturn, 1) := by decide +kernel
theorem dL_nextBlock_0 : decode cL_nextBlock 0 = .ok (.aload_n 2, 1) := by decide +kernel
theorem dL_nextBlock_1 : decode cL_nextBlock 1 = .ok (.iconst 0, 1) := by decide +kernel
theorem dL_nextBlock_2 : decode cL_nextBlock 2 = .ok (.aload_n 0, 1) := by decide +kernel
theorem dL_nextBlock_3 : decode cL_nextBlock 3 = .ok (.iload_n 1, 1) := by decide +kernel
theorem dL_nextBlock_4 : decode cL_nextBlock 4 = .ok (.invokevirtual 72, 3) := by decide +kernel
theorem dL_nextBlock_7 : decode cL_nextBlock 7 = .ok (.i2l, 1) := by decide +kernel
theorem dL_nextBlock_8 : decode cL_nextBlock 8 = .ok (.lastore, 1) := by decide +kernel
theorem dL_nextBlock_9 : decode cL_nextBlock 9 = .ok (.goto 9, 3) := by decide +kernel
theorem dL_nextBlock_12 : decode cL_nextBlock 12 = .ok (.astore_n 3, 1) := by decide +kernel
theorem dL_nextBlock_13 : decode cL_nextBlock 13 = .ok (.iconst 1, 1) := by decide +kernel
theorem dL_nextBlock_14 : decode cL_nextBlock 14 = .ok (.ireturn, 1) := by decide +kernel
theorem dL_nextBlock_15 : decode cL_nextBlock 15 = .ok (.astore_n 3, 1) := by decide +kernel
theorem dL_nextBlock_16 : decode cL_nextBlock 16 = .ok (.iconst 2, 1) := by decide +kernel
theorem dL_nextBlock_17 : decode cL_nextBlock 17 = .ok (.ireturn, 1) := by decide +kernel
theorem dL_nextBlock_18 : decode cL_nextBlock 18 = .ok (.iconst 0, 1) := by decide +kernel
theorem dL_nextBlock_19 : decode cL_nextBlock 19 = .ok (.ireturn, 1) := by decide +kernel
theorem dL_nearestCushion_0 : decode cL_nearestCushion 0 = .ok (.aload_n 2, 1) := by decide +kernel
theorem dL_nearestCushion_1 : decode cL_nearestCushion 1 = .ok (.iconst 0, 1) := by decide +kernel
theorem dL_nearestCushion_2 : decode cL_nearestCushion 2 = .ok (.aload_n 0, 1) := by decide +kernel
theorem dL_nearestCushion_3 : decode cL_nearestCushion 3 = .ok (.iload_n 1, 1) := by decide +kernel
theorem dL_nearestCushion_4 : decode cL_nearestCushion 4 = .ok (.invokevirtual 75, 3) := by decide +kernel
theorem dL_nearestCushion_7 : decode cL_nearestCushion 7 = .ok (.i2l, 1) := by decide +kernel
theorem dL_nearestCushion_8 : decode cL_nearestCushion 8 = .ok (.lastore, 1) := by decide +kernel
theorem dL_nearestCushion_9 : decode cL_nearestCushion 9 = .ok (.goto 9, 3) := by decide +kernel
theorem dL_nearestCushion_12 : decode cL_nearestCushion 12 = .ok (.astore_n 3, 1) := by decide +kernel
theorem dL_nearestCushion_13 : decode cL_nearestCushion 13 = .ok (.iconst 1, 1) := by decide +kernel
theorem dL_nearestCushion_14 : decode cL_nearestCushion 14 = .ok (.ireturn, 1) := by decide +kernel
theorem dL_nearestCushion_15 : decode cL_nearestCushion 15 = .ok (.astore_n 3, 1) := by decide +kernel
theorem dL_nearestCushion_16 : decode cL_nearestCushion 16 = .ok (.iconst 2, 1) := by decide +kernel
theorem dL_nearestCushion_17 : decode cL_nearestCushion 17 = .ok (.ireturn, 1) := by decide +kernel
theorem dL_nearestCushion_18 : decode cL_nearestCushion 18 = .ok (.iconst 0, 1) := by decide +kernel
theorem dL_nearestCushion_19 : decode cL_nearestCushion 19 = .ok (.ireturn, 1) := by decide +kernel
theorem dL_addTrain_0 : decode cL_addTrain 0 = .ok (.aload_n 3, 1) := by decide +kernel
theorem dL_addTrain_1 : decode cL_addTrain 1 = .ok (.iconst 0, 1) := by decide +kernel
theorem dL_addTrain_2 : decode cL_addTrain 2 = .ok (.aload_n 0, 1) := by decide +kernel
theorem dL_addTrain_3 : decode cL_addTrain 3 = .ok (.iload_n 1, 1) := by decide +kernel
theorem dL_addTrain_4 : decode cL_addTrain 4 = .ok (.iload_n 2, 1) := by decide +kernel
theorem dL_addTrain_5 : decode cL_addTrain 5 = .ok (.invokevirtual 78, 3) := by decide +kernel
theorem dL_addTrain_8 : decode cL_addTrain 8 = .ok (.i2l, 1) := by decide +kernel
theorem dL_addTrain_9 : decode cL_addTrain 9 = .ok (.lastore, 1) := by decide +kernel
theorem dL_addTrain_10 : decode cL_addTrain 10 = .ok (.goto 19, 3) := by decide +kernel
theorem dL_addTrain_13 : decode cL_addTrain 13 = .ok (.astore 4, 2) := by decide +kernel
theorem dL_addTrain_15 : decode cL_addTrain 15 = .ok (.iconst 1, 1) := by decide +kernel
theorem dL_addTrain_16 : decode cL_addTrain 16 = .ok (.ireturn, 1) := by decide +kernel
theorem dL_addTrain_17 : decode cL_addTrain 17 = .ok (.astore 4, 2) := by decide +kernel
theorem dL_addTrain_19 : decode cL_addTrain 19 = .ok (.iconst 2, 1) := by decide +kernel
theorem dL_addTrain_20 : decode cL_addTrain 20 = .ok (.ireturn, 1) := by decide +kernel
theorem dL_addTrain_21 : decode cL_addTrain 21 = .ok (.astore 4, 2) := by decide +kernel
theorem dL_addTrain_23 : decode cL_addTrain 23 = .ok (.iconst 3, 1) := by decide +kernel
theorem dL_addTrain_24 : decode cL_addTrain 24 = .ok (.ireturn, 1) := by decide +kernel
theorem dL_addTrain_25 : decode cL_addTrain 25 = .ok (.astore 4, 2) := by decide +kernel
theorem dL_addTrain_27 : decode cL_addTrain 27 = .ok (.iconst 4, 1) := by decide +kernel
theorem dL_addTrain_28 : decode cL_addTrain 28 = .ok (.ireturn, 1) := by decide +kernel
theorem dL_addTrain_29 : decode cL_addTrain 29 = .ok (.iconst 0, 1) := by decide +kernel
theorem dL_addTrain_30 : decode cL_addTrain 30 = .ok (.ireturn, 1) := by decide +kernel
theorem dL_setGoal_0 : decode cL_setGoal 0 = .ok (.aload_n 3, 1) := by decide +kernel
theorem dL_setGoal_1 : decode cL_setGoal 1 = .ok (.iconst 0, 1) := by decide +kernel
theorem dL_setGoal_2 : decode cL_setGoal 2 = .ok (.aload_n 0, 1) := by decide +kernel
theorem dL_setGoal_3 : decode cL_setGoal 3 = .ok (.iload_n 1, 1) := by decide +kernel
theorem dL_setGoal_4 : decode cL_setGoal 4 = .ok (.iload_n 2, 1) := by decide +kernel
theorem dL_setGoal_5 : decode cL_setGoal 5 = .ok (.invokevirtual 81, 3) := by decide +kernel
theorem dL_setGoal_8 : decode cL_setGoal 8 = .ok (.i2l, 1) := by decide +kernel
theorem dL_setGoal_9 : decode cL_setGoal 9 = .ok (.lastore, 1) := by decide +kernel
theorem dL_setGoal_10 : decode cL_setGoal 10 = .ok (.goto 19, 3) := by decide +kernel
theorem dL_setGoal_13 : decode cL_setGoal 13 = .ok (.astore 4, 2) := by decide +kernel
theorem dL_setGoal_15 : decode cL_setGoal 15 = .ok (.iconst 1, 1) := by decide +kernel
theorem dL_setGoal_16 : decode cL_setGoal 16 = .ok (.ireturn, 1) := by decide +kernel
theorem dL_setGoal_17 : decode cL_setGoal 17 = .ok (.astore 4, 2) := by decide +kernel
theorem dL_setGoal_19 : decode cL_setGoal 19 = .ok (.iconst 2, 1) := by decide +kernel
theorem dL_setGoal_20 : decode cL_setGoal 20 = .ok (.ireturn, 1) := by decide +kernel
theorem dL_setGoal_21 : decode cL_setGoal 21 = .ok (.astore 4, 2) := by decide +kernel
theorem dL_setGoal_23 : decode cL_setGoal 23 = .ok (.iconst 3, 1) := by decide +kernel
theorem dL_setGoal_24 : decode cL_setGoal 24 = .ok (.ireturn, 1) := by decide +kernel
theorem dL_setGoal_25 : decode cL_setGoal 25 = .ok (.astore 4, 2) := by decide +kernel
theorem dL_setGoal_27 : decode cL_setGoal 27 = .ok (.iconst 4, 1) := by decide +kernel
theorem dL_setGoal_28 : decode cL_setGoal 28 = .ok (.ireturn, 1) := by decide +kernel
theorem dL_setGoal_29 : decode cL_setGoal 29 = .ok (.iconst 0, 1) := by decide +kernel
theorem dL_setGoal_30 : decode cL_setGoal 30 = .ok (.ireturn, 1) := by decide +kernel
theorem dL_clearGoal_0 : decode cL_clearGoal 0 = .ok (.aload_n 2, 1) := by decide +kernel
theorem dL_clearGoal_1 : decode cL_clearGoal 1 = .ok (.iconst 0, 1) := by decide +kernel
theorem dL_clearGoal_2 : decode cL_clearGoal 2 = .ok (.aload_n 0, 1) := by decide +kernel
theorem dL_clearGoal_3 : decode cL_clearGoal 3 = .ok (.iload_n 1, 1) := by decide +kernel
theorem dL_clearGoal_4 : decode cL_clearGoal 4 = .ok (.invokevirtual 84, 3) := by decide +kernel
theorem dL_clearGoal_7 : decode cL_clearGoal 7 = .ok (.i2l, 1) := by decide +kernel
theorem dL_clearGoal_8 : decode cL_clearGoal 8 = .ok (.lastore, 1) := by decide +kernel
theorem dL_clearGoal_9 : decode cL_clearGoal 9 = .ok (.goto 9, 3) := by decide +kernel
theorem dL_clearGoal_12 : decode cL_clearGoal 12 = .ok (.astore_n 3, 1) := by decide +kernel
theorem dL_clearGoal_13 : decode cL_clearGoal 13 = .ok (.iconst 1, 1) := by decide +kernel
theorem dL_clearGoal_14 : decode cL_clearGoal 14 = .ok (.ireturn, 1) := by decide +kernel
theorem dL_clearGoal_15 : decode cL_clearGoal 15 = .ok (.astore_n 3, 1) := by decide +kernel
theorem dL_clearGoal_16 : decode cL_clearGoal 16 = .ok (.iconst 2, 1) := by decide +kernel
theorem dL_clearGoal_17 : decode cL_clearGoal 17 = .ok (.ireturn, 1) := by decide +kernel
theorem dL_clearGoal_18 : decode cL_clearGoal 18 = .ok (.iconst 0, 1) := by decide +kernel
theorem dL_clearGoal_19 : decode cL_clearGoal 19 = .ok (.ireturn, 1) := by decide +kernel
theorem dL_reserve_0 : decode cL_reserve 0 = .ok (.aload_n 3, 1) := by decide +kernel
theorem dL_reserve_1 : decode cL_reserve 1 = .ok (.iconst 0, 1) := by decide +kernel
theorem dL_reserve_2 : decode cL_reserve 2 = .ok (.aload_n 0, 1) := by decide +kernel
theorem dL_reserve_3 : decode cL_reserve 3 = .ok (.iload_n 1, 1) := by decide +kernel
theorem dL_reserve_4 : decode cL_reserve 4 = .ok (.iload_n 2, 1) := by decide +kernel
theorem dL_reserve_5 : decode cL_reserve 5 = .ok (.invokevirtual 87, 3) := by decide +kernel
theorem dL_reserve_8 : decode cL_reserve 8 = .ok (.i2l, 1) := by decide +kernel
theorem dL_reserve_9 : decode cL_reserve 9 = .ok (.lastore, 1) := by decide +kernel
theorem dL_reserve_10 : decode cL_reserve 10 = .ok (.goto 19, 3) := by decide +kernel
theorem dL_reserve_13 : decode cL_reserve 13 = .ok (.astore 4, 2) := by decide +kernel
theorem dL_reserve_15 : decode cL_reserve 15 = .ok (.iconst 1, 1) := by decide +kernel
theorem dL_reserve_16 : decode cL_reserve 16 = .ok (.ireturn, 1) := by decide +kernel
theorem dL_reserve_17 : decode cL_reserve 17 = .ok (.astore 4, 2) := by decide +kernel
theorem dL_reserve_19 : decode cL_reserve 19 = .ok (.iconst 2, 1) := by decide +kernel
theorem dL_reserve_20 : decode cL_reserve 20 = .ok (.ireturn, 1) := by decide +kernel
theorem dL_reserve_21 : decode cL_reserve 21 = .ok (.astore 4, 2) := by decide +kernel
theorem dL_reserve_23 : decode cL_reserve 23 = .ok (.iconst 3, 1) := by decide +kernel
theorem dL_reserve_24 : decode cL_reserve 24 = .ok (.ireturn, 1) := by decide +kernel
theorem dL_reserve_25 : decode cL_reserve 25 = .ok (.astore 4, 2) := by decide +kernel
theorem dL_reserve_27 : decode cL_reserve 27 = .ok (.iconst 4, 1) := by decide +kernel
theorem dL_reserve_28 : decode cL_reserve 28 = .ok (.ireturn, 1) := by decide +kernel
theorem dL_reserve_29 : decode cL_reserve 29 = .ok (.iconst 0, 1) := by decide +kernel
theorem dL_reserve_30 : decode cL_reserve 30 = .ok (.ireturn, 1) := by decide +kernel
theorem dL_cancelReservation_0 : decode cL_cancelReservation 0 = .ok (.aload_n 2, 1) := by decide +kernel
theorem dL_cancelReservation_1 : decode cL_cancelReservation 1 = .ok (.iconst 0, 1) := by decide +kernel
theorem dL_cancelReservation_2 : decode cL_cancelReservation 2 = .ok (.aload_n 0, 1) := by decide +kernel
theorem dL_cancelReservation_3 : decode cL_cancelReservation 3 = .ok (.iload_n 1, 1) := by decide +kernel
theorem dL_cancelReservation_4 : decode cL_cancelReservation 4 = .ok (.invokevirtual 90, 3) := by decide +kernel
theorem dL_cancelReservation_7 : decode cL_cancelReservation 7 = .ok (.i2l, 1) := by decide +kernel
theorem dL_cancelReservation_8 : decode cL_cancelReservation 8 = .ok (.lastore, 1) := by decide +kernel
theorem dL_cancelReservation_9 : decode cL_cancelReservation 9 = .ok (.goto 9, 3) := by decide +kernel
theorem dL_cancelReservation_12 : decode cL_cancelReservation 12 = .ok (.astore_n 3, 1) := by decide +kernel
theorem dL_cancelReservation_13 : decode cL_cancelReservation 13 = .ok (.iconst 1, 1) := by decide +kernel
theorem dL_cancelReservation_14 : decode cL_cancelReservation 14 = .ok (.ireturn, 1) := by decide +kernel
theorem dL_cancelReservation_15 : decode cL_cancelReservation 15 = .ok (.astore_n 3, 1) := by decide +kernel
theorem dL_cancelReservation_16 : decode cL_cancelReservation 16 = .ok (.iconst 2, 1) := by decide +kernel
theorem dL_cancelReservation_17 : decode cL_cancelReservation 17 = .ok (.ireturn, 1) := by decide +kernel
theorem dL_cancelReservation_18 : decode cL_cancelReservation 18 = .ok (.iconst 0, 1) := by decide +kernel
theorem dL_cancelReservation_19 : decode cL_cancelReservation 19 = .ok (.ireturn, 1) := by decide +kernel
theorem dL_rescue_0 : decode cL_rescue 0 = .ok (.aload_n 2, 1) := by decide +kernel
theorem dL_rescue_1 : decode cL_rescue 1 = .ok (.iconst 0, 1) := by decide +kernel
theorem dL_rescue_2 : decode cL_rescue 2 = .ok (.aload_n 0, 1) := by decide +kernel
theorem dL_rescue_3 : decode cL_rescue 3 = .ok (.iload_n 1, 1) := by decide +kernel
theorem dL_rescue_4 : decode cL_rescue 4 = .ok (.invokevirtual 93, 3) := by decide +kernel
theorem dL_rescue_7 : decode cL_rescue 7 = .ok (.i2l, 1) := by decide +kernel
theorem dL_rescue_8 : decode cL_rescue 8 = .ok (.lastore, 1) := by decide +kernel
theorem dL_rescue_9 : decode cL_rescue 9 = .ok (.goto 9, 3) := by decide +kernel
theorem dL_rescue_12 : decode cL_rescue 12 = .ok (.astore_n 3, 1) := by decide +kernel
theorem dL_rescue_13 : decode cL_rescue 13 = .ok (.iconst 1, 1) := by decide +kernel
theorem dL_rescue_14 : decode cL_rescue 14 = .ok (.ireturn, 1) := by decide +kernel
theorem dL_rescue_15 : decode cL_rescue 15 = .ok (.astore_n 3, 1) := by decide +kernel
theorem dL_rescue_16 : decode cL_rescue 16 = .ok (.iconst 2, 1) := by decide +kernel
theorem dL_rescue_17 : decode cL_rescue 17 = .ok (.ireturn, 1) := by decide +kernel
theorem dL_rescue_18 : decode cL_rescue 18 = .ok (.iconst 0, 1) := by decide +kernel
theorem dL_rescue_19 : decode cL_rescue 19 = .ok (.ireturn, 1) := by decide +kernel
theorem dL_blockOf_0 : decode cL_blockOf 0 = .ok (.aload_n 2, 1) := by decide +kernel
theorem dL_blockOf_1 : decode cL_blockOf 1 = .ok (.iconst 0, 1) := by decide +kernel
theorem dL_blockOf_2 : decode cL_blockOf 2 = .ok (.aload_n 0, 1) := by decide +kernel
theorem dL_blockOf_3 : decode cL_blockOf 3 = .ok (.iload_n 1, 1) := by decide +kernel
theorem dL_blockOf_4 : decode cL_blockOf 4 = .ok (.invokevirtual 96, 3) := by decide +kernel
theorem dL_blockOf_7 : decode cL_blockOf 7 = .ok (.i2l, 1) := by decide +kernel
theorem dL_blockOf_8 : decode cL_blockOf 8 = .ok (.lastore, 1) := by decide +kernel
theorem dL_blockOf_9 : decode cL_blockOf 9 = .ok (.goto 6, 3) := by decide +kernel
theorem dL_blockOf_12 : decode cL_blockOf 12 = .ok (.astore_n 3, 1) := by decide +kernel
theorem dL_blockOf_13 : decode cL_blockOf 13 = .ok (.iconst 1, 1) := by decide +kernel
theorem dL_blockOf_14 : decode cL_blockOf 14 = .ok (.ireturn, 1) := by decide +kernel
theorem dL_blockOf_15 : decode cL_blockOf 15 = .ok (.iconst 0, 1) := by decide +kernel
theorem dL_blockOf_16 : decode cL_blockOf 16 = .ok (.ireturn, 1) := by decide +kernel
theorem dL_priority_0 : decode cL_priority 0 = .ok (.aload_n 2, 1) := by decide +kernel
theorem dL_priority_1 : decode cL_priority 1 = .ok (.iconst 0, 1) := by decide +kernel
theorem dL_priority_2 : decode cL_priority 2 = .ok (.aload_n 0, 1) := by decide +kernel
theorem dL_priority_3 : decode cL_priority 3 = .ok (.iload_n 1, 1) := by decide +kernel
theorem dL_priority_4 : decode cL_priority 4 = .ok (.invokevirtual 99, 3) := by decide +kernel
theorem dL_priority_7 : decode cL_priority 7 = .ok (.i2l, 1) := by decide +kernel
theorem dL_priority_8 : decode cL_priority 8 = .ok (.lastore, 1) := by decide +kernel
theorem dL_priority_9 : decode cL_priority 9 = .ok (.goto 6, 3) := by decide +kernel
theorem dL_priority_12 : decode cL_priority 12 = .ok (.astore_n 3, 1) := by decide +kernel
theorem dL_priority_13 : decode cL_priority 13 = .ok (.iconst 1, 1) := by decide +kernel
theorem dL_priority_14 : decode cL_priority 14 = .ok (.ireturn, 1) := by decide +kernel
theorem dL_priority_15 : decode cL_priority 15 = .ok (.iconst 0, 1) := by decide +kernel
theorem dL_priority_16 : decode cL_priority 16 = .ok (.ireturn, 1) := by decide +kernel
theorem dL_remainingTicks_0 : decode cL_remainingTicks 0 = .ok (.aload_n 2, 1) := by decide +kernel
theorem dL_remainingTicks_1 : decode cL_remainingTicks 1 = .ok (.iconst 0, 1) := by decide +kernel
theorem dL_remainingTicks_2 : decode cL_remainingTicks 2 = .ok (.aload_n 0, 1) := by decide +kernel
theorem dL_remainingTicks_3 : decode cL_remainingTicks 3 = .ok (.iload_n 1, 1) := by decide +kernel
theorem dL_remainingTicks_4 : decode cL_remainingTicks 4 = .ok (.invokevirtual 102, 3) := by decide +kernel
theorem dL_remainingTicks_7 : decode cL_remainingTicks 7 = .ok (.i2l, 1) := by decide +kernel
theorem dL_remainingTicks_8 : decode cL_remainingTicks 8 = .ok (.lastore, 1) := by decide +kernel
theorem dL_remainingTicks_9 : decode cL_remainingTicks 9 = .ok (.goto 6, 3) := by decide +kernel
theorem dL_remainingTicks_12 : decode cL_remainingTicks 12 = .ok (.astore_n 3, 1) := by decide +kernel
theorem dL_remainingTicks_13 : decode cL_remainingTicks 13 = .ok (.iconst 1, 1) := by decide +kernel
theorem dL_remainingTicks_14 : decode cL_remainingTicks 14 = .ok (.ireturn, 1) := by decide +kernel
theorem dL_remainingTicks_15 : decode cL_remainingTicks 15 = .ok (.iconst 0, 1) := by decide +kernel
theorem dL_remainingTicks_16 : decode cL_remainingTicks 16 = .ok (.ireturn, 1) := by decide +kernel
theorem dL_goal_0 : decode cL_goal 0 = .ok (.aload_n 2, 1) := by decide +kernel
theorem dL_goal_1 : decode cL_goal 1 = .ok (.iconst 0, 1) := by decide +kernel
theorem dL_goal_2 : decode cL_goal 2 = .ok (.aload_n 0, 1) := by decide +kernel
theorem dL_goal_3 : decode cL_goal 3 = .ok (.iload_n 1, 1) := by decide +kernel
theorem dL_goal_4 : decode cL_goal 4 = .ok (.invokevirtual 105, 3) := by decide +kernel
theorem dL_goal_7 : decode cL_goal 7 = .ok (.i2l, 1) := by decide +kernel
theorem dL_goal_8 : decode cL_goal 8 = .ok (.lastore, 1) := by decide +kernel
theorem dL_goal_9 : decode cL_goal 9 = .ok (.goto 9, 3) := by decide +kernel
theorem dL_goal_12 : decode cL_goal 12 = .ok (.astore_n 3, 1) := by decide +kernel
theorem dL_goal_13 : decode cL_goal 13 = .ok (.iconst 1, 1) := by decide +kernel
theorem dL_goal_14 : decode cL_goal 14 = .ok (.ireturn, 1) := by decide +kernel
theorem dL_goal_15 : decode cL_goal 15 = .ok (.astore_n 3, 1) := by decide +kernel
theorem dL_goal_16 : decode cL_goal 16 = .ok (.iconst 2, 1) := by decide +kernel
theorem dL_goal_17 : decode cL_goal 17 = .ok (.ireturn, 1) := by decide +kernel
theorem dL_goal_18 : decode cL_goal 18 = .ok (.iconst 0, 1) := by decide +kernel
theorem dL_goal_19 : decode cL_goal 19 = .ok (.ireturn, 1) := by decide +kernel
theorem dL_isDerailed_0 : decode cL_isDerailed 0 = .ok (.aload_n 2, 1) := by decide +kernel
theorem dL_isDerailed_1 : decode cL_isDerailed 1 = .ok (.iconst 0, 1) := by decide +kernel
theorem dL_isDerailed_2 : decode cL_isDerailed 2 = .ok (.aload_n 0, 1) := by decide +kernel
theorem dL_isDerailed_3 : decode cL_isDerailed 3 = .ok (.iload_n 1, 1) := by decide +kernel
theorem dL_isDerailed_4 : decode cL_isDerailed 4 = .ok (.invokevirtual 108, 3) := by decide +kernel
theorem dL_isDerailed_7 : decode cL_isDerailed 7 = .ok (.ifCond .eq 7, 3) := by decide +kernel
theorem dL_isDerailed_10 : decode cL_isDerailed 10 = .ok (.lconst 1, 1) := by decide +kernel
theorem dL_isDerailed_11 : decode cL_isDerailed 11 = .ok (.goto 4, 3) := by decide +kernel
theorem dL_isDerailed_14 : decode cL_isDerailed 14 = .ok (.lconst 0, 1) := by decide +kernel
theorem dL_isDerailed_15 : decode cL_isDerailed 15 = .ok (.lastore, 1) := by decide +kernel
theorem dL_isDerailed_16 : decode cL_isDerailed 16 = .ok (.goto 6, 3) := by decide +kernel
theorem dL_isDerailed_19 : decode cL_isDerailed 19 = .ok (.astore_n 3, 1) := by decide +kernel
theorem dL_isDerailed_20 : decode cL_isDerailed 20 = .ok (.iconst 1, 1) := by decide +kernel
theorem dL_isDerailed_21 : decode cL_isDerailed 21 = .ok (.ireturn, 1) := by decide +kernel
theorem dL_isDerailed_22 : decode cL_isDerailed 22 = .ok (.iconst 0, 1) := by decide +kernel
theorem dL_isDerailed_23 : decode cL_isDerailed 23 = .ok (.ireturn, 1) := by decide +kernel
theorem dL_waits_0 : decode cL_waits 0 = .ok (.aload_n 2, 1) := by decide +kernel
theorem dL_waits_1 : decode cL_waits 1 = .ok (.iconst 0, 1) := by decide +kernel
theorem dL_waits_2 : decode cL_waits 2 = .ok (.aload_n 0, 1) := by decide +kernel
theorem dL_waits_3 : decode cL_waits 3 = .ok (.iload_n 1, 1) := by decide +kernel
theorem dL_waits_4 : decode cL_waits 4 = .ok (.invokevirtual 111, 3) := by decide +kernel
theorem dL_waits_7 : decode cL_waits 7 = .ok (.i2l, 1) := by decide +kernel
theorem dL_waits_8 : decode cL_waits 8 = .ok (.lastore, 1) := by decide +kernel
theorem dL_waits_9 : decode cL_waits 9 = .ok (.goto 6, 3) := by decide +kernel
theorem dL_waits_12 : decode cL_waits 12 = .ok (.astore_n 3, 1) := by decide +kernel
theorem dL_waits_13 : decode cL_waits 13 = .ok (.iconst 1, 1) := by decide +kernel
theorem dL_waits_14 : decode cL_waits 14 = .ok (.ireturn, 1) := by decide +kernel
theorem dL_waits_15 : decode cL_waits 15 = .ok (.iconst 0, 1) := by decide +kernel
theorem dL_waits_16 : decode cL_waits 16 = .ok (.ireturn, 1) := by decide +kernel
theorem dL_trainByPriority_0 : decode cL_trainByPriority 0 = .ok (.aload_n 2, 1) := by decide +kernel
theorem dL_trainByPriority_1 : decode cL_trainByPriority 1 = .ok (.iconst 0, 1) := by decide +kernel
theorem dL_trainByPriority_2 : decode cL_trainByPriority 2 = .ok (.aload_n 0, 1) := by decide +kernel
theorem dL_trainByPriority_3 : decode cL_trainByPriority 3 = .ok (.iload_n 1, 1) := by decide +kernel
theorem dL_trainByPriority_4 : decode cL_trainByPriority 4 = .ok (.invokevirtual 114, 3) := by decide +kernel
theorem dL_trainByPriority_7 : decode cL_trainByPriority 7 = .ok (.i2l, 1) := by decide +kernel
theorem dL_trainByPriority_8 : decode cL_trainByPriority 8 = .ok (.lastore, 1) := by decide +kernel
theorem dL_trainByPriority_9 : decode cL_trainByPriority 9 = .ok (.goto 6, 3) := by decide +kernel
theorem dL_trainByPriority_12 : decode cL_trainByPriority 12 = .ok (.astore_n 3, 1) := by decide +kernel
theorem dL_trainByPriority_13 : decode cL_trainByPriority 13 = .ok (.iconst 1, 1) := by decide +kernel
theorem dL_trainByPriority_14 : decode cL_trainByPriority 14 = .ok (.ireturn, 1) := by decide +kernel
theorem dL_trainByPriority_15 : decode cL_trainByPriority 15 = .ok (.iconst 0, 1) := by decide +kernel
theorem dL_trainByPriority_16 : decode cL_trainByPriority 16 = .ok (.ireturn, 1) := by decide +kernel
theorem dL_blockedBy_0 : decode cL_blockedBy 0 = .ok (.aload_n 2, 1) := by decide +kernel
theorem dL_blockedBy_1 : decode cL_blockedBy 1 = .ok (.iconst 0, 1) := by decide +kernel
theorem dL_blockedBy_2 : decode cL_blockedBy 2 = .ok (.aload_n 0, 1) := by decide +kernel
theorem dL_blockedBy_3 : decode cL_blockedBy 3 = .ok (.iload_n 1, 1) := by decide +kernel
theorem dL_blockedBy_4 : decode cL_blockedBy 4 = .ok (.invokevirtual 117, 3) := by decide +kernel
theorem dL_blockedBy_7 : decode cL_blockedBy 7 = .ok (.i2l, 1) := by decide +kernel
theorem dL_blockedBy_8 : decode cL_blockedBy 8 = .ok (.lastore, 1) := by decide +kernel
theorem dL_blockedBy_9 : decode cL_blockedBy 9 = .ok (.goto 9, 3) := by decide +kernel
theorem dL_blockedBy_12 : decode cL_blockedBy 12 = .ok (.astore_n 3, 1) := by decide +kernel
theorem dL_blockedBy_13 : decode cL_blockedBy 13 = .ok (.iconst 1, 1) := by decide +kernel
theorem dL_blockedBy_14 : decode cL_blockedBy 14 = .ok (.ireturn, 1) := by decide +kernel
theorem dL_blockedBy_15 : decode cL_blockedBy 15 = .ok (.astore_n 3, 1) := by decide +kernel
theorem dL_blockedBy_16 : decode cL_blockedBy 16 = .ok (.iconst 2, 1) := by decide +kernel
theorem dL_blockedBy_17 : decode cL_blockedBy 17 = .ok (.ireturn, 1) := by decide +kernel
theorem dL_blockedBy_18 : decode cL_blockedBy 18 = .ok (.iconst 0, 1) := by decide +kernel
theorem dL_blockedBy_19 : decode cL_blockedBy 19 = .ok (.ireturn, 1) := by decide +kernel
theorem dL_passTicks_0 : decode cL_passTicks 0 = .ok (.aload_n 2, 1) := by decide +kernel
theorem dL_passTicks_1 : decode cL_passTicks 1 = .ok (.iconst 0, 1) := by decide +kernel
theorem dL_passTicks_2 : decode cL_passTicks 2 = .ok (.aload_n 0, 1) := by decide +kernel
theorem dL_passTicks_3 : decode cL_passTicks 3 = .ok (.iload_n 1, 1) := by decide +kernel
theorem dL_passTicks_4 : decode cL_passTicks 4 = .ok (.invokevirtual 120, 3) := by decide +kernel
theorem dL_passTicks_7 : decode cL_passTicks 7 = .ok (.i2l, 1) := by decide +kernel
theorem dL_passTicks_8 : decode cL_passTicks 8 = .ok (.lastore, 1) := by decide +kernel
theorem dL_passTicks_9 : decode cL_passTicks 9 = .ok (.goto 6, 3) := by decide +kernel
theorem dL_passTicks_12 : decode cL_passTicks 12 = .ok (.astore_n 3, 1) := by decide +kernel
theorem dL_passTicks_13 : decode cL_passTicks 13 = .ok (.iconst 1, 1) := by decide +kernel
theorem dL_passTicks_14 : decode cL_passTicks 14 = .ok (.ireturn, 1) := by decide +kernel
theorem dL_passTicks_15 : decode cL_passTicks 15 = .ok (.iconst 0, 1) := by decide +kernel
theorem dL_passTicks_16 : decode cL_passTicks 16 = .ok (.ireturn, 1) := by decide +kernel
theorem dL_ticksUntilArrival_0 : decode cL_ticksUntilArrival 0 = .ok (.aload_n 2, 1) := by decide +kernel
theorem dL_ticksUntilArrival_1 : decode cL_ticksUntilArrival 1 = .ok (.iconst 0, 1) := by decide +kernel
theorem dL_ticksUntilArrival_2 : decode cL_ticksUntilArrival 2 = .ok (.aload_n 0, 1) := by decide +kernel
theorem dL_ticksUntilArrival_3 : decode cL_ticksUntilArrival 3 = .ok (.iload_n 1, 1) := by decide +kernel
theorem dL_ticksUntilArrival_4 : decode cL_ticksUntilArrival 4 = .ok (.invokevirtual 123, 3) := by decide +kernel
theorem dL_ticksUntilArrival_7 : decode cL_ticksUntilArrival 7 = .ok (.i2l, 1) := by decide +kernel
theorem dL_ticksUntilArrival_8 : decode cL_ticksUntilArrival 8 = .ok (.lastore, 1) := by decide +kernel
theorem dL_ticksUntilArrival_9 : decode cL_ticksUntilArrival 9 = .ok (.goto 9, 3) := by decide +kernel
theorem dL_ticksUntilArrival_12 : decode cL_ticksUntilArrival 12 = .ok (.astore_n 3, 1) := by decide +kernel
theorem dL_ticksUntilArrival_13 : decode cL_ticksUntilArrival 13 = .ok (.iconst 1, 1) := by decide +kernel
theorem dL_ticksUntilArrival_14 : decode cL_ticksUntilArrival 14 = .ok (.ireturn, 1) := by decide +kernel
theorem dL_ticksUntilArrival_15 : decode cL_ticksUntilArrival 15 = .ok (.astore_n 3, 1) := by decide +kernel
theorem dL_ticksUntilArrival_16 : decode cL_ticksUntilArrival 16 = .ok (.iconst 2, 1) := by decide +kernel
theorem dL_ticksUntilArrival_17 : decode cL_ticksUntilArrival 17 = .ok (.ireturn, 1) := by decide +kernel
theorem dL_ticksUntilArrival_18 : decode cL_ticksUntilArrival 18 = .ok (.iconst 0, 1) := by decide +kernel
theorem dL_ticksUntilArrival_19 : decode cL_ticksUntilArrival 19 = .ok (.ireturn, 1) := by decide +kernel
theorem dL_meanWaits_0 : decode cL_meanWaits 0 = .ok (.aload_n 1, 1) := by decide +kernel
theorem dL_meanWaits_1 : decode cL_meanWaits 1 = .ok (.iconst 0, 1) := by decide +kernel
theorem dL_meanWaits_2 : decode cL_meanWaits 2 = .ok (.aload_n 0, 1) := by decide +kernel
theorem dL_meanWaits_3 : decode cL_meanWaits 3 = .ok (.invokevirtual 126, 3) := by decide +kernel
theorem dL_meanWaits_6 : decode cL_meanWaits 6 = .ok (.dastore, 1) := by decide +kernel
theorem dL_meanWaits_7 : decode cL_meanWaits 7 = .ok (.goto 6, 3) := by decide +kernel
theorem dL_meanWaits_10 : decode cL_meanWaits 10 = .ok (.astore_n 2, 1) := by decide +kernel
theorem dL_meanWaits_11 : decode cL_meanWaits 11 = .ok (.iconst 1, 1) := by decide +kernel
theorem dL_meanWaits_12 : decode cL_meanWaits 12 = .ok (.ireturn, 1) := by decide +kernel
theorem dL_meanWaits_13 : decode cL_meanWaits 13 = .ok (.iconst 0, 1) := by decide +kernel
theorem dL_meanWaits_14 : decode cL_meanWaits 14 = .ok (.ireturn, 1) := by decide +kernel
theorem dL_occupiedFraction_0 : decode cL_occupiedFraction 0 = .ok (.aload_n 1, 1) := by decide +kernel
theorem dL_occupiedFraction_1 : decode cL_occupiedFraction 1 = .ok (.iconst 0, 1) := by decide +kernel
theorem dL_occupiedFraction_2 : decode cL_occupiedFraction 2 = .ok (.aload_n 0, 1) := by decide +kernel
theorem dL_occupiedFraction_3 : decode cL_occupiedFraction 3 = .ok (.invokevirtual 132, 3) := by decide +kernel
theorem dL_occupiedFraction_6 : decode cL_occupiedFraction 6 = .ok (.f2d, 1) := by decide +kernel
theorem dL_occupiedFraction_7 : decode cL_occupiedFraction 7 = .ok (.dastore, 1) := by decide +kernel
theorem dL_occupiedFraction_8 : decode cL_occupiedFraction 8 = .ok (.goto 6, 3) := by decide +kernel
theorem dL_occupiedFraction_11 : decode cL_occupiedFraction 11 = .ok (.astore_n 2, 1) := by decide +kernel
theorem dL_occupiedFraction_12 : decode cL_occupiedFraction 12 = .ok (.iconst 1, 1) := by decide +kernel
theorem dL_occupiedFraction_13 : decode cL_occupiedFraction 13 = .ok (.ireturn, 1) := by decide +kernel
theorem dL_occupiedFraction_14 : decode cL_occupiedFraction 14 = .ok (.iconst 0, 1) := by decide +kernel
theorem dL_occupiedFraction_15 : decode cL_occupiedFraction 15 = .ok (.ireturn, 1) := by decide +kernel
theorem dL_writeTrain_0 : decode cL_writeTrain 0 = .ok (.aload_n 2, 1) := by decide +kernel
theorem dL_writeTrain_1 : decode cL_writeTrain 1 = .ok (.iconst 0, 1) := by decide +kernel
theorem dL_writeTrain_2 : decode cL_writeTrain 2 = .ok (.aload_n 0, 1) := by decide +kernel
theorem dL_writeTrain_3 : decode cL_writeTrain 3 = .ok (.iload_n 1, 1) := by decide +kernel
theorem dL_writeTrain_4 : decode cL_writeTrain 4 = .ok (.invokevirtual 136, 3) := by decide +kernel
theorem dL_writeTrain_7 : decode cL_writeTrain 7 = .ok (.i2l, 1) := by decide +kernel
theorem dL_writeTrain_8 : decode cL_writeTrain 8 = .ok (.lastore, 1) := by decide +kernel
theorem dL_writeTrain_9 : decode cL_writeTrain 9 = .ok (.goto 6, 3) := by decide +kernel
theorem dL_writeTrain_12 : decode cL_writeTrain 12 = .ok (.astore_n 3, 1) := by decide +kernel
theorem dL_writeTrain_13 : decode cL_writeTrain 13 = .ok (.iconst 1, 1) := by decide +kernel
theorem dL_writeTrain_14 : decode cL_writeTrain 14 = .ok (.ireturn, 1) := by decide +kernel
theorem dL_writeTrain_15 : decode cL_writeTrain 15 = .ok (.iconst 0, 1) := by decide +kernel
theorem dL_writeTrain_16 : decode cL_writeTrain 16 = .ok (.ireturn, 1) := by decide +kernel
theorem dL_outputCharacter_0 : decode cL_outputCharacter 0 = .ok (.aload_n 2, 1) := by decide +kernel
theorem dL_outputCharacter_1 : decode cL_outputCharacter 1 = .ok (.iconst 0, 1) := by decide +kernel
theorem dL_outputCharacter_2 : decode cL_outputCharacter 2 = .ok (.aload_n 0, 1) := by decide +kernel
theorem dL_outputCharacter_3 : decode cL_outputCharacter 3 = .ok (.iload_n 1, 1) := by decide +kernel
theorem dL_outputCharacter_4 : decode cL_outputCharacter 4 = .ok (.invokevirtual 139, 3) := by decide +kernel
theorem dL_outputCharacter_7 : decode cL_outputCharacter 7 = .ok (.i2l, 1) := by decide +kernel
theorem dL_outputCharacter_8 : decode cL_outputCharacter 8 = .ok (.lastore, 1) := by decide +kernel
theorem dL_outputCharacter_9 : decode cL_outputCharacter 9 = .ok (.goto 6, 3) := by decide +kernel
theorem dL_outputCharacter_12 : decode cL_outputCharacter 12 = .ok (.astore_n 3, 1) := by decide +kernel
theorem dL_outputCharacter_13 : decode cL_outputCharacter 13 = .ok (.iconst 1, 1) := by decide +kernel
theorem dL_outputCharacter_14 : decode cL_outputCharacter 14 = .ok (.ireturn, 1) := by decide +kernel
theorem dL_outputCharacter_15 : decode cL_outputCharacter 15 = .ok (.iconst 0, 1) := by decide +kernel
theorem dL_outputCharacter_16 : decode cL_outputCharacter 16 = .ok (.ireturn, 1) := by decide +kernel
theorem dL_feed_0 : decode cL_feed 0 = .ok (.aload_n 2, 1) := by decide +kernel
theorem dL_feed_1 : decode cL_feed 1 = .ok (.iconst 0, 1) := by decide +kernel
theorem dL_feed_2 : decode cL_feed 2 = .ok (.aload_n 0, 1) := by decide +kernel
theorem dL_feed_3 : decode cL_feed 3 = .ok (.iload_n 1, 1) := by decide +kernel
theorem dL_feed_4 : decode cL_feed 4 = .ok (.invokevirtual 142, 3) := by decide +kernel
theorem dL_feed_7 : decode cL_feed 7 = .ok (.i2l, 1) := by decide +kernel
theorem dL_feed_8 : decode cL_feed 8 = .ok (.lastore, 1) := by decide +kernel
theorem dL_feed_9 : decode cL_feed 9 = .ok (.goto 6, 3) := by decide +kernel
theorem dL_feed_12 : decode cL_feed 12 = .ok (.astore_n 3, 1) := by decide +kernel
theorem dL_feed_13 : decode cL_feed 13 = .ok (.iconst 1, 1) := by decide +kernel
theorem dL_feed_14 : decode cL_feed 14 = .ok (.ireturn, 1) := by decide +kernel
theorem dL_feed_15 : decode cL_feed 15 = .ok (.iconst 0, 1) := by decide +kernel
theorem dL_feed_16 : decode cL_feed 16 = .ok (.ireturn, 1) := by decide +kernel
theorem dL_execute_0 : decode cL_execute 0 = .ok (.aload_n 1, 1) := by decide +kernel
theorem dL_execute_1 : decode cL_execute 1 = .ok (.iconst 0, 1) := by decide +kernel
theorem dL_execute_2 : decode cL_execute 2 = .ok (.aload_n 0, 1) := by decide +kernel
theorem dL_execute_3 : decode cL_execute 3 = .ok (.invokevirtual 146, 3) := by decide +kernel
theorem dL_execute_6 : decode cL_execute 6 = .ok (.i2l, 1) := by decide +kernel
theorem dL_execute_7 : decode cL_execute 7 = .ok (.lastore, 1) := by decide +kernel
theorem dL_execute_8 : decode cL_execute 8 = .ok (.goto 9, 3) := by decide +kernel
theorem dL_execute_11 : decode cL_execute 11 = .ok (.astore_n 2, 1) := by decide +kernel
theorem dL_execute_12 : decode cL_execute 12 = .ok (.iconst 1, 1) := by decide +kernel
theorem dL_execute_13 : decode cL_execute 13 = .ok (.ireturn, 1) := by decide +kernel
theorem dL_execute_14 : decode cL_execute 14 = .ok (.astore_n 2, 1) := by decide +kernel
theorem dL_execute_15 : decode cL_execute 15 = .ok (.iconst 2, 1) := by decide +kernel
theorem dL_execute_16 : decode cL_execute 16 = .ok (.ireturn, 1) := by decide +kernel
theorem dL_execute_17 : decode cL_execute 17 = .ok (.iconst 0, 1) := by decide +kernel
theorem dL_execute_18 : decode cL_execute 18 = .ok (.ireturn, 1) := by decide +kernel
theorem dL_errorPosition_0 : decode cL_errorPosition 0 = .ok (.aload_n 1, 1) := by decide +kernel
theorem dL_errorPosition_1 : decode cL_errorPosition 1 = .ok (.iconst 0, 1) := by decide +kernel
theorem dL_errorPosition_2 : decode cL_errorPosition 2 = .ok (.aload_n 0, 1) := by decide +kernel
theorem dL_errorPosition_3 : decode cL_errorPosition 3 = .ok (.invokevirtual 150, 3) := by decide +kernel
theorem dL_errorPosition_6 : decode cL_errorPosition 6 = .ok (.i2l, 1) := by decide +kernel
theorem dL_errorPosition_7 : decode cL_errorPosition 7 = .ok (.lastore, 1) := by decide +kernel
theorem dL_errorPosition_8 : decode cL_errorPosition 8 = .ok (.goto 6, 3) := by decide +kernel
theorem dL_errorPosition_11 : decode cL_errorPosition 11 = .ok (.astore_n 2, 1) := by decide +kernel
theorem dL_errorPosition_12 : decode cL_errorPosition 12 = .ok (.iconst 1, 1) := by decide +kernel
theorem dL_errorPosition_13 : decode cL_errorPosition 13 = .ok (.ireturn, 1) := by decide +kernel
theorem dL_errorPosition_14 : decode cL_errorPosition 14 = .ok (.iconst 0, 1) := by decide +kernel
theorem dL_errorPosition_15 : decode cL_errorPosition 15 = .ok (.ireturn, 1) := by decide +kernel
theorem dL_failedCommand_0 : decode cL_failedCommand 0 = .ok (.aload_n 1, 1) := by decide +kernel
theorem dL_failedCommand_1 : decode cL_failedCommand 1 = .ok (.iconst 0, 1) := by decide +kernel
theorem dL_failedCommand_2 : decode cL_failedCommand 2 = .ok (.aload_n 0, 1) := by decide +kernel
theorem dL_failedCommand_3 : decode cL_failedCommand 3 = .ok (.invokevirtual 153, 3) := by decide +kernel
theorem dL_failedCommand_6 : decode cL_failedCommand 6 = .ok (.i2l, 1) := by decide +kernel
theorem dL_failedCommand_7 : decode cL_failedCommand 7 = .ok (.lastore, 1) := by decide +kernel
theorem dL_failedCommand_8 : decode cL_failedCommand 8 = .ok (.goto 6, 3) := by decide +kernel
theorem dL_failedCommand_11 : decode cL_failedCommand 11 = .ok (.astore_n 2, 1) := by decide +kernel
theorem dL_failedCommand_12 : decode cL_failedCommand 12 = .ok (.iconst 1, 1) := by decide +kernel
theorem dL_failedCommand_13 : decode cL_failedCommand 13 = .ok (.ireturn, 1) := by decide +kernel
theorem dL_failedCommand_14 : decode cL_failedCommand 14 = .ok (.iconst 0, 1) := by decide +kernel
theorem dL_failedCommand_15 : decode cL_failedCommand 15 = .ok (.ireturn, 1) := by decide +kernel
theorem dL_undo_0 : decode cL_undo 0 = .ok (.aload_n 1, 1) := by decide +kernel
theorem dL_undo_1 : decode cL_undo 1 = .ok (.iconst 0, 1) := by decide +kernel
theorem dL_undo_2 : decode cL_undo 2 = .ok (.aload_n 0, 1) := by decide +kernel
theorem dL_undo_3 : decode cL_undo 3 = .ok (.invokevirtual 156, 3) := by decide +kernel
theorem dL_undo_6 : decode cL_undo 6 = .ok (.i2l, 1) := by decide +kernel
theorem dL_undo_7 : decode cL_undo 7 = .ok (.lastore, 1) := by decide +kernel
theorem dL_undo_8 : decode cL_undo 8 = .ok (.goto 6, 3) := by decide +kernel
theorem dL_undo_11 : decode cL_undo 11 = .ok (.astore_n 2, 1) := by decide +kernel
theorem dL_undo_12 : decode cL_undo 12 = .ok (.iconst 1, 1) := by decide +kernel
theorem dL_undo_13 : decode cL_undo 13 = .ok (.ireturn, 1) := by decide +kernel
theorem dL_undo_14 : decode cL_undo 14 = .ok (.iconst 0, 1) := by decide +kernel
theorem dL_undo_15 : decode cL_undo 15 = .ok (.ireturn, 1) := by decide +kernel
theorem dL_restore_0 : decode cL_restore 0 = .ok (.aload_n 1, 1) := by decide +kernel
theorem dL_restore_1 : decode cL_restore 1 = .ok (.iconst 0, 1) := by decide +kernel
theorem dL_restore_2 : decode cL_restore 2 = .ok (.aload_n 0, 1) := by decide +kernel
theorem dL_restore_3 : decode cL_restore 3 = .ok (.invokevirtual 159, 3) := by decide +kernel
theorem dL_restore_6 : decode cL_restore 6 = .ok (.i2l, 1) := by decide +kernel
theorem dL_restore_7 : decode cL_restore 7 = .ok (.lastore, 1) := by decide +kernel
theorem dL_restore_8 : decode cL_restore 8 = .ok (.goto 6, 3) := by decide +kernel
theorem dL_restore_11 : decode cL_restore 11 = .ok (.astore_n 2, 1) := by decide +kernel
theorem dL_restore_12 : decode cL_restore 12 = .ok (.iconst 1, 1) := by decide +kernel
theorem dL_restore_13 : decode cL_restore 13 = .ok (.ireturn, 1) := by decide +kernel
theorem dL_restore_14 : decode cL_restore 14 = .ok (.iconst 0, 1) := by decide +kernel
theorem dL_restore_15 : decode cL_restore 15 = .ok (.ireturn, 1) := by decide +kernel
theorem dL_law_0 : decode cL_law 0 = .ok (.new 8, 3) := by decide +kernel
theorem dL_law_3 : decode cL_law 3 = .ok (.dup, 1) := by decide +kernel
theorem dL_law_4 : decode cL_law 4 = .ok (.invokespecial 162, 3) := by decide +kernel
theorem dL_law_7 : decode cL_law 7 = .ok (.astore_n 1, 1) := by decide +kernel
theorem dL_law_8 : decode cL_law 8 = .ok (.new 163, 3) := by decide +kernel
theorem dL_law_11 : decode cL_law 11 = .ok (.dup, 1) := by decide +kernel
theorem dL_law_12 : decode cL_law 12 = .ok (.invokespecial 165, 3) := by decide +kernel
theorem dL_law_15 : decode cL_law 15 = .ok (.astore_n 2, 1) := by decide +kernel
theorem dL_law_16 : decode cL_law 16 = .ok (.iconst 1, 1) := by decide +kernel
theorem dL_law_17 : decode cL_law 17 = .ok (.newarray .long, 2) := by decide +kernel
theorem dL_law_19 : decode cL_law 19 = .ok (.astore_n 3, 1) := by decide +kernel
theorem dL_law_20 : decode cL_law 20 = .ok (.iconst 1, 1) := by decide +kernel
theorem dL_law_21 : decode cL_law 21 = .ok (.newarray .double, 2) := by decide +kernel
theorem dL_law_23 : decode cL_law 23 = .ok (.astore 4, 2) := by decide +kernel
theorem dL_law_25 : decode cL_law 25 = .ok (.iconst 0, 1) := by decide +kernel
theorem dL_law_26 : decode cL_law 26 = .ok (.istore 5, 2) := by decide +kernel
theorem dL_law_28 : decode cL_law 28 = .ok (.iload 5, 2) := by decide +kernel
theorem dL_law_30 : decode cL_law 30 = .ok (.aload_n 0, 1) := by decide +kernel
theorem dL_law_31 : decode cL_law 31 = .ok (.arraylength, 1) := by decide +kernel
theorem dL_law_32 : decode cL_law 32 = .ok (.iconst 3, 1) := by decide +kernel
theorem dL_law_33 : decode cL_law 33 = .ok (.isub, 1) := by decide +kernel
theorem dL_law_34 : decode cL_law 34 = .ok (.if_icmp .gt 2961, 3) := by decide +kernel
theorem dL_law_37 : decode cL_law 37 = .ok (.aload_n 0, 1) := by decide +kernel
theorem dL_law_38 : decode cL_law 38 = .ok (.iload 5, 2) := by decide +kernel
theorem dL_law_40 : decode cL_law 40 = .ok (.iaload, 1) := by decide +kernel
theorem dL_law_41 : decode cL_law 41 = .ok (.bipush 63, 2) := by decide +kernel
theorem dL_law_43 : decode cL_law 43 = .ok (.iand, 1) := by decide +kernel
theorem dL_law_44 : decode cL_law 44 = .ok (.tableswitch 2945 0 55 #[240, 296, 352, 420, 488, 544, 600, 613, 669, 732, 795, 870, 926, 982, 1038, 1094, 1162, 1230, 1286, 1299, 1312, 1368, 1436, 1504, 1560, 1628, 1684, 1740, 1753, 1809, 1865, 1921, 1977, 2040, 2096, 2152, 2208, 2221, 2234, 2290, 2303, 2316, 2372, 2437, 2503, 2559, 2572, 2628, 2641, 2699, 2743, 2787, 2831, 2875, 2888, 2901], 240) := by decide +kernel
theorem dL_law_284 : decode cL_law 284 = .ok (.aload_n 1, 1) := by decide +kernel
theorem dL_law_285 : decode cL_law 285 = .ok (.aload_n 0, 1) := by decide +kernel
theorem dL_law_286 : decode cL_law 286 = .ok (.iload 5, 2) := by decide +kernel
theorem dL_law_288 : decode cL_law 288 = .ok (.iconst 1, 1) := by decide +kernel
theorem dL_law_289 : decode cL_law 289 = .ok (.iadd, 1) := by decide +kernel
theorem dL_law_290 : decode cL_law 290 = .ok (.iaload, 1) := by decide +kernel
theorem dL_law_291 : decode cL_law 291 = .ok (.aload_n 3, 1) := by decide +kernel
theorem dL_law_292 : decode cL_law 292 = .ok (.invokestatic 166, 3) := by decide +kernel
theorem dL_law_295 : decode cL_law 295 = .ok (.istore 6, 2) := by decide +kernel
theorem dL_law_297 : decode cL_law 297 = .ok (.aload_n 2, 1) := by decide +kernel
theorem dL_law_298 : decode cL_law 298 = .ok (.aload_n 0, 1) := by decide +kernel
theorem dL_law_299 : decode cL_law 299 = .ok (.iload 5, 2) := by decide +kernel
theorem dL_law_301 : decode cL_law 301 = .ok (.iconst 1, 1) := by decide +kernel
theorem dL_law_302 : decode cL_law 302 = .ok (.iadd, 1) := by decide +kernel
theorem dL_law_303 : decode cL_law 303 = .ok (.iaload, 1) := by decide +kernel
theorem dL_law_304 : decode cL_law 304 = .ok (.invokevirtual 171, 3) := by decide +kernel
theorem dL_law_307 : decode cL_law 307 = .ok (.istore 7, 2) := by decide +kernel
theorem dL_law_309 : decode cL_law 309 = .ok (.aload_n 2, 1) := by decide +kernel
theorem dL_law_310 : decode cL_law 310 = .ok (.invokevirtual 172, 3) := by decide +kernel
theorem dL_law_313 : decode cL_law 313 = .ok (.iload 6, 2) := by decide +kernel
theorem dL_law_315 : decode cL_law 315 = .ok (.if_icmp .eq 5, 3) := by decide +kernel
theorem dL_law_318 : decode cL_law 318 = .ok (.iconst 0, 1) := by decide +kernel
theorem dL_law_319 : decode cL_law 319 = .ok (.ireturn, 1) := by decide +kernel
theorem dL_law_320 : decode cL_law 320 = .ok (.iload 6, 2) := by decide +kernel
theorem dL_law_322 : decode cL_law 322 = .ok (.ifCond .ne 15, 3) := by decide +kernel
theorem dL_law_325 : decode cL_law 325 = .ok (.aload_n 3, 1) := by decide +kernel
theorem dL_law_326 : decode cL_law 326 = .ok (.iconst 0, 1) := by decide +kernel
theorem dL_law_327 : decode cL_law 327 = .ok (.laload, 1) := by decide +kernel
theorem dL_law_328 : decode cL_law 328 = .ok (.iload 7, 2) := by decide +kernel
theorem dL_law_330 : decode cL_law 330 = .ok (.i2l, 1) := by decide +kernel
theorem dL_law_331 : decode cL_law 331 = .ok (.lcmp, 1) := by decide +kernel
theorem dL_law_332 : decode cL_law 332 = .ok (.ifCond .eq 5, 3) := by decide +kernel
theorem dL_law_335 : decode cL_law 335 = .ok (.iconst 0, 1) := by decide +kernel
theorem dL_law_336 : decode cL_law 336 = .ok (.ireturn, 1) := by decide +kernel
theorem dL_law_337 : decode cL_law 337 = .ok (.goto 2652, 3) := by decide +kernel
theorem dL_law_340 : decode cL_law 340 = .ok (.aload_n 1, 1) := by decide +kernel
theorem dL_law_341 : decode cL_law 341 = .ok (.aload_n 0, 1) := by decide +kernel
theorem dL_law_342 : decode cL_law 342 = .ok (.iload 5, 2) := by decide +kernel
theorem dL_law_344 : decode cL_law 344 = .ok (.iconst 1, 1) := by decide +kernel
theorem dL_law_345 : decode cL_law 345 = .ok (.iadd, 1) := by decide +kernel
theorem dL_law_346 : decode cL_law 346 = .ok (.iaload, 1) := by decide +kernel
theorem dL_law_347 : decode cL_law 347 = .ok (.aload_n 3, 1) := by decide +kernel
theorem dL_law_348 : decode cL_law 348 = .ok (.invokestatic 175, 3) := by decide +kernel
theorem dL_law_351 : decode cL_law 351 = .ok (.istore 6, 2) := by decide +kernel
theorem dL_law_353 : decode cL_law 353 = .ok (.aload_n 2, 1) := by decide +kernel
theorem dL_law_354 : decode cL_law 354 = .ok (.aload_n 0, 1) := by decide +kernel
theorem dL_law_355 : decode cL_law 355 = .ok (.iload 5, 2) := by decide +kernel
theorem dL_law_357 : decode cL_law 357 = .ok (.iconst 1, 1) := by decide +kernel
theorem dL_law_358 : decode cL_law 358 = .ok (.iadd, 1) := by decide +kernel
theorem dL_law_359 : decode cL_law 359 = .ok (.iaload, 1) := by decide +kernel
theorem dL_law_360 : decode cL_law 360 = .ok (.invokevirtual 177, 3) := by decide +kernel
theorem dL_law_363 : decode cL_law 363 = .ok (.istore 7, 2) := by decide +kernel
theorem dL_law_365 : decode cL_law 365 = .ok (.aload_n 2, 1) := by decide +kernel
theorem dL_law_366 : decode cL_law 366 = .ok (.invokevirtual 172, 3) := by decide +kernel
theorem dL_law_369 : decode cL_law 369 = .ok (.iload 6, 2) := by decide +kernel
theorem dL_law_371 : decode cL_law 371 = .ok (.if_icmp .eq 5, 3) := by decide +kernel
theorem dL_law_374 : decode cL_law 374 = .ok (.iconst 0, 1) := by decide +kernel
theorem dL_law_375 : decode cL_law 375 = .ok (.ireturn, 1) := by decide +kernel
theorem dL_law_376 : decode cL_law 376 = .ok (.iload 6, 2) := by decide +kernel
theorem dL_law_378 : decode cL_law 378 = .ok (.ifCond .ne 15, 3) := by decide +kernel
theorem dL_law_381 : decode cL_law 381 = .ok (.aload_n 3, 1) := by decide +kernel
theorem dL_law_382 : decode cL_law 382 = .ok (.iconst 0, 1) := by decide +kernel
theorem dL_law_383 : decode cL_law 383 = .ok (.laload, 1) := by decide +kernel
theorem dL_law_384 : decode cL_law 384 = .ok (.iload 7, 2) := by decide +kernel
theorem dL_law_386 : decode cL_law 386 = .ok (.i2l, 1) := by decide +kernel
theorem dL_law_387 : decode cL_law 387 = .ok (.lcmp, 1) := by decide +kernel
theorem dL_law_388 : decode cL_law 388 = .ok (.ifCond .eq 5, 3) := by decide +kernel
theorem dL_law_391 : decode cL_law 391 = .ok (.iconst 0, 1) := by decide +kernel
theorem dL_law_392 : decode cL_law 392 = .ok (.ireturn, 1) := by decide +kernel
theorem dL_law_393 : decode cL_law 393 = .ok (.goto 2596, 3) := by decide +kernel
theorem dL_law_396 : decode cL_law 396 = .ok (.aload_n 1, 1) := by decide +kernel
theorem dL_law_397 : decode cL_law 397 = .ok (.aload_n 0, 1) := by decide +kernel
theorem dL_law_398 : decode cL_law 398 = .ok (.iload 5, 2) := by decide +kernel
theorem dL_law_400 : decode cL_law 400 = .ok (.iconst 1, 1) := by decide +kernel
theorem dL_law_401 : decode cL_law 401 = .ok (.iadd, 1) := by decide +kernel
theorem dL_law_402 : decode cL_law 402 = .ok (.iaload, 1) := by decide +kernel
theorem dL_law_403 : decode cL_law 403 = .ok (.aload_n 0, 1) := by decide +kernel
theorem dL_law_404 : decode cL_law 404 = .ok (.iload 5, 2) := by decide +kernel
theorem dL_law_406 : decode cL_law 406 = .ok (.iconst 2, 1) := by decide +kernel
theorem dL_law_407 : decode cL_law 407 = .ok (.iadd, 1) := by decide +kernel
theorem dL_law_408 : decode cL_law 408 = .ok (.iaload, 1) := by decide +kernel
theorem dL_law_409 : decode cL_law 409 = .ok (.aload_n 3, 1) := by decide +kernel
theorem dL_law_410 : decode cL_law 410 = .ok (.invokestatic 178, 3) := by decide +kernel
theorem dL_law_413 : decode cL_law 413 = .ok (.istore 6, 2) := by decide +kernel
theorem dL_law_415 : decode cL_law 415 = .ok (.aload_n 2, 1) := by decide +kernel
theorem dL_law_416 : decode cL_law 416 = .ok (.aload_n 0, 1) := by decide +kernel
theorem dL_law_417 : decode cL_law 417 = .ok (.iload 5, 2) := by decide +kernel
theorem dL_law_419 : decode cL_law 419 = .ok (.iconst 1, 1) := by decide +kernel
theorem dL_law_420 : decode cL_law 420 = .ok (.iadd, 1) := by decide +kernel
theorem dL_law_421 : decode cL_law 421 = .ok (.iaload, 1) := by decide +kernel
theorem dL_law_422 : decode cL_law 422 = .ok (.aload_n 0, 1) := by decide +kernel
theorem dL_law_423 : decode cL_law 423 = .ok (.iload 5, 2) := by decide +kernel
theorem dL_law_425 : decode cL_law 425 = .ok (.iconst 2, 1) := by decide +kernel
theorem dL_law_426 : decode cL_law 426 = .ok (.iadd, 1) := by decide +kernel
theorem dL_law_427 : decode cL_law 427 = .ok (.iaload, 1) := by decide +kernel
theorem dL_law_428 : decode cL_law 428 = .ok (.invokevirtual 181, 3) := by decide +kernel
theorem dL_law_431 : decode cL_law 431 = .ok (.istore 7, 2) := by decide +kernel
theorem dL_law_433 : decode cL_law 433 = .ok (.aload_n 2, 1) := by decide +kernel
theorem dL_law_434 : decode cL_law 434 = .ok (.invokevirtual 172, 3) := by decide +kernel
theorem dL_law_437 : decode cL_law 437 = .ok (.iload 6, 2) := by decide +kernel
theorem dL_law_439 : decode cL_law 439 = .ok (.if_icmp .eq 5, 3) := by decide +kernel
theorem dL_law_442 : decode cL_law 442 = .ok (.iconst 0, 1) := by decide +kernel
theorem dL_law_443 : decode cL_law 443 = .ok (.ireturn, 1) := by decide +kernel
theorem dL_law_444 : decode cL_law 444 = .ok (.iload 6, 2) := by decide +kernel
theorem dL_law_446 : decode cL_law 446 = .ok (.ifCond .ne 15, 3) := by decide +kernel
theorem dL_law_449 : decode cL_law 449 = .ok (.aload_n 3, 1) := by decide +kernel
theorem dL_law_450 : decode cL_law 450 = .ok (.iconst 0, 1) := by decide +kernel
theorem dL_law_451 : decode cL_law 451 = .ok (.laload, 1) := by decide +kernel
theorem dL_law_452 : decode cL_law 452 = .ok (.iload 7, 2) := by decide +kernel
theorem dL_law_454 : decode cL_law 454 = .ok (.i2l, 1) := by decide +kernel
theorem dL_law_455 : decode cL_law 455 = .ok (.lcmp, 1) := by decide +kernel
theorem dL_law_456 : decode cL_law 456 = .ok (.ifCond .eq 5, 3) := by decide +kernel
theorem dL_law_459 : decode cL_law 459 = .ok (.iconst 0, 1) := by decide +kernel
theorem dL_law_460 : decode cL_law 460 = .ok (.ireturn, 1) := by decide +kernel
theorem dL_law_461 : decode cL_law 461 = .ok (.goto 2528, 3) := by decide +kernel
theorem dL_law_464 : decode cL_law 464 = .ok (.aload_n 1, 1) := by decide +kernel
theorem dL_law_465 : decode cL_law 465 = .ok (.aload_n 0, 1) := by decide +kernel
theorem dL_law_466 : decode cL_law 466 = .ok (.iload 5, 2) := by decide +kernel
theorem dL_law_468 : decode cL_law 468 = .ok (.iconst 1, 1) := by decide +kernel
theorem dL_law_469 : decode cL_law 469 = .ok (.iadd, 1) := by decide +kernel
theorem dL_law_470 : decode cL_law 470 = .ok (.iaload, 1) := by decide +kernel
theorem dL_law_471 : decode cL_law 471 = .ok (.aload_n 0, 1) := by decide +kernel
theorem dL_law_472 : decode cL_law 472 = .ok (.iload 5, 2) := by decide +kernel
theorem dL_law_474 : decode cL_law 474 = .ok (.iconst 2, 1) := by decide +kernel
theorem dL_law_475 : decode cL_law 475 = .ok (.iadd, 1) := by decide +kernel
theorem dL_law_476 : decode cL_law 476 = .ok (.iaload, 1) := by decide +kernel
theorem dL_law_477 : decode cL_law 477 = .ok (.aload_n 3, 1) := by decide +kernel
theorem dL_law_478 : decode cL_law 478 = .ok (.invokestatic 182, 3) := by decide +kernel
theorem dL_law_481 : decode cL_law 481 = .ok (.istore 6, 2) := by decide +kernel
theorem dL_law_483 : decode cL_law 483 = .ok (.aload_n 2, 1) := by decide +kernel
theorem dL_law_484 : decode cL_law 484 = .ok (.aload_n 0, 1) := by decide +kernel
theorem dL_law_485 : decode cL_law 485 = .ok (.iload 5, 2) := by decide +kernel
theorem dL_law_487 : decode cL_law 487 = .ok (.iconst 1, 1) := by decide +kernel
theorem dL_law_488 : decode cL_law 488 = .ok (.iadd, 1) := by decide +kernel
theorem dL_law_489 : decode cL_law 489 = .ok (.iaload, 1) := by decide +kernel
theorem dL_law_490 : decode cL_law 490 = .ok (.aload_n 0, 1) := by decide +kernel
theorem dL_law_491 : decode cL_law 491 = .ok (.iload 5, 2) := by decide +kernel
theorem dL_law_493 : decode cL_law 493 = .ok (.iconst 2, 1) := by decide +kernel
theorem dL_law_494 : decode cL_law 494 = .ok (.iadd, 1) := by decide +kernel
theorem dL_law_495 : decode cL_law 495 = .ok (.iaload, 1) := by decide +kernel
theorem dL_law_496 : decode cL_law 496 = .ok (.invokevirtual 184, 3) := by decide +kernel
theorem dL_law_499 : decode cL_law 499 = .ok (.istore 7, 2) := by decide +kernel
theorem dL_law_501 : decode cL_law 501 = .ok (.aload_n 2, 1) := by decide +kernel
theorem dL_law_502 : decode cL_law 502 = .ok (.invokevirtual 172, 3) := by decide +kernel
theorem dL_law_505 : decode cL_law 505 = .ok (.iload 6, 2) := by decide +kernel
theorem dL_law_507 : decode cL_law 507 = .ok (.if_icmp .eq 5, 3) := by decide +kernel
theorem dL_law_510 : decode cL_law 510 = .ok (.iconst 0, 1) := by decide +kernel
theorem dL_law_511 : decode cL_law 511 = .ok (.ireturn, 1) := by decide +kernel
theorem dL_law_512 : decode cL_law 512 = .ok (.iload 6, 2) := by decide +kernel
theorem dL_law_514 : decode cL_law 514 = .ok (.ifCond .ne 15, 3) := by decide +kernel
theorem dL_law_517 : decode cL_law 517 = .ok (.aload_n 3, 1) := by decide +kernel
theorem dL_law_518 : decode cL_law 518 = .ok (.iconst 0, 1) := by decide +kernel
theorem dL_law_519 : decode cL_law 519 = .ok (.laload, 1) := by decide +kernel
theorem dL_law_520 : decode cL_law 520 = .ok (.iload 7, 2) := by decide +kernel
theorem dL_law_522 : decode cL_law 522 = .ok (.i2l, 1) := by decide +kernel
theorem dL_law_523 : decode cL_law 523 = .ok (.lcmp, 1) := by decide +kernel
theorem dL_law_524 : decode cL_law 524 = .ok (.ifCond .eq 5, 3) := by decide +kernel
theorem dL_law_527 : decode cL_law 527 = .ok (.iconst 0, 1) := by decide +kernel
theorem dL_law_528 : decode cL_law 528 = .ok (.ireturn, 1) := by decide +kernel
theorem dL_law_529 : decode cL_law 529 = .ok (.goto 2460, 3) := by decide +kernel
theorem dL_law_532 : decode cL_law 532 = .ok (.aload_n 1, 1) := by decide +kernel
theorem dL_law_533 : decode cL_law 533 = .ok (.aload_n 0, 1) := by decide +kernel
theorem dL_law_534 : decode cL_law 534 = .ok (.iload 5, 2) := by decide +kernel
theorem dL_law_536 : decode cL_law 536 = .ok (.iconst 1, 1) := by decide +kernel
theorem dL_law_537 : decode cL_law 537 = .ok (.iadd, 1) := by decide +kernel
theorem dL_law_538 : decode cL_law 538 = .ok (.iaload, 1) := by decide +kernel
theorem dL_law_539 : decode cL_law 539 = .ok (.aload_n 3, 1) := by decide +kernel
theorem dL_law_540 : decode cL_law 540 = .ok (.invokestatic 185, 3) := by decide +kernel
theorem dL_law_543 : decode cL_law 543 = .ok (.istore 6, 2) := by decide +kernel
theorem dL_law_545 : decode cL_law 545 = .ok (.aload_n 2, 1) := by decide +kernel
theorem dL_law_546 : decode cL_law 546 = .ok (.aload_n 0, 1) := by decide +kernel
theorem dL_law_547 : decode cL_law 547 = .ok (.iload 5, 2) := by decide +kernel
theorem dL_law_549 : decode cL_law 549 = .ok (.iconst 1, 1) := by decide +kernel
theorem dL_law_550 : decode cL_law 550 = .ok (.iadd, 1) := by decide +kernel
theorem dL_law_551 : decode cL_law 551 = .ok (.iaload, 1) := by decide +kernel
theorem dL_law_552 : decode cL_law 552 = .ok (.invokevirtual 187, 3) := by decide +kernel
theorem dL_law_555 : decode cL_law 555 = .ok (.istore 7, 2) := by decide +kernel
theorem dL_law_557 : decode cL_law 557 = .ok (.aload_n 2, 1) := by decide +kernel
theorem dL_law_558 : decode cL_law 558 = .ok (.invokevirtual 172, 3) := by decide +kernel
theorem dL_law_561 : decode cL_law 561 = .ok (.iload 6, 2) := by decide +kernel
theorem dL_law_563 : decode cL_law 563 = .ok (.if_icmp .eq 5, 3) := by decide +kernel
theorem dL_law_566 : decode cL_law 566 = .ok (.iconst 0, 1) := by decide +kernel
theorem dL_law_567 : decode cL_law 567 = .ok (.ireturn, 1) := by decide +kernel
theorem dL_law_568 : decode cL_law 568 = .ok (.iload 6, 2) := by decide +kernel
theorem dL_law_570 : decode cL_law 570 = .ok (.ifCond .ne 15, 3) := by decide +kernel
theorem dL_law_573 : decode cL_law 573 = .ok (.aload_n 3, 1) := by decide +kernel
theorem dL_law_574 : decode cL_law 574 = .ok (.iconst 0, 1) := by decide +kernel
theorem dL_law_575 : decode cL_law 575 = .ok (.laload, 1) := by decide +kernel
theorem dL_law_576 : decode cL_law 576 = .ok (.iload 7, 2) := by decide +kernel
theorem dL_law_578 : decode cL_law 578 = .ok (.i2l, 1) := by decide +kernel
theorem dL_law_579 : decode cL_law 579 = .ok (.lcmp, 1) := by decide +kernel
theorem dL_law_580 : decode cL_law 580 = .ok (.ifCond .eq 5, 3) := by decide +kernel
theorem dL_law_583 : decode cL_law 583 = .ok (.iconst 0, 1) := by decide +kernel
theorem dL_law_584 : decode cL_law 584 = .ok (.ireturn, 1) := by decide +kernel
theorem dL_law_585 : decode cL_law 585 = .ok (.goto 2404, 3) := by decide +kernel
theorem dL_law_588 : decode cL_law 588 = .ok (.aload_n 1, 1) := by decide +kernel
theorem dL_law_589 : decode cL_law 589 = .ok (.aload_n 0, 1) := by decide +kernel
theorem dL_law_590 : decode cL_law 590 = .ok (.iload 5, 2) := by decide +kernel
theorem dL_law_592 : decode cL_law 592 = .ok (.iconst 1, 1) := by decide +kernel
theorem dL_law_593 : decode cL_law 593 = .ok (.iadd, 1) := by decide +kernel
theorem dL_law_594 : decode cL_law 594 = .ok (.iaload, 1) := by decide +kernel
theorem dL_law_595 : decode cL_law 595 = .ok (.aload_n 3, 1) := by decide +kernel
theorem dL_law_596 : decode cL_law 596 = .ok (.invokestatic 188, 3) := by decide +kernel
theorem dL_law_599 : decode cL_law 599 = .ok (.istore 6, 2) := by decide +kernel
theorem dL_law_601 : decode cL_law 601 = .ok (.aload_n 2, 1) := by decide +kernel
theorem dL_law_602 : decode cL_law 602 = .ok (.aload_n 0, 1) := by decide +kernel
theorem dL_law_603 : decode cL_law 603 = .ok (.iload 5, 2) := by decide +kernel
theorem dL_law_605 : decode cL_law 605 = .ok (.iconst 1, 1) := by decide +kernel
theorem dL_law_606 : decode cL_law 606 = .ok (.iadd, 1) := by decide +kernel
theorem dL_law_607 : decode cL_law 607 = .ok (.iaload, 1) := by decide +kernel
theorem dL_law_608 : decode cL_law 608 = .ok (.invokevirtual 190, 3) := by decide +kernel
theorem dL_law_611 : decode cL_law 611 = .ok (.istore 7, 2) := by decide +kernel
theorem dL_law_613 : decode cL_law 613 = .ok (.aload_n 2, 1) := by decide +kernel
theorem dL_law_614 : decode cL_law 614 = .ok (.invokevirtual 172, 3) := by decide +kernel
theorem dL_law_617 : decode cL_law 617 = .ok (.iload 6, 2) := by decide +kernel
theorem dL_law_619 : decode cL_law 619 = .ok (.if_icmp .eq 5, 3) := by decide +kernel
theorem dL_law_622 : decode cL_law 622 = .ok (.iconst 0, 1) := by decide +kernel
theorem dL_law_623 : decode cL_law 623 = .ok (.ireturn, 1) := by decide +kernel
theorem dL_law_624 : decode cL_law 624 = .ok (.iload 6, 2) := by decide +kernel
theorem dL_law_626 : decode cL_law 626 = .ok (.ifCond .ne 15, 3) := by decide +kernel
theorem dL_law_629 : decode cL_law 629 = .ok (.aload_n 3, 1) := by decide +kernel
theorem dL_law_630 : decode cL_law 630 = .ok (.iconst 0, 1) := by decide +kernel
theorem dL_law_631 : decode cL_law 631 = .ok (.laload, 1) := by decide +kernel
theorem dL_law_632 : decode cL_law 632 = .ok (.iload 7, 2) := by decide +kernel
theorem dL_law_634 : decode cL_law 634 = .ok (.i2l, 1) := by decide +kernel
theorem dL_law_635 : decode cL_law 635 = .ok (.lcmp, 1) := by decide +kernel
theorem dL_law_636 : decode cL_law 636 = .ok (.ifCond .eq 5, 3) := by decide +kernel
theorem dL_law_639 : decode cL_law 639 = .ok (.iconst 0, 1) := by decide +kernel
theorem dL_law_640 : decode cL_law 640 = .ok (.ireturn, 1) := by decide +kernel
theorem dL_law_641 : decode cL_law 641 = .ok (.goto 2348, 3) := by decide +kernel
theorem dL_law_644 : decode cL_law 644 = .ok (.aload_n 1, 1) := by decide +kernel
theorem dL_law_645 : decode cL_law 645 = .ok (.invokevirtual 191, 3) := by decide +kernel
theorem dL_law_648 : decode cL_law 648 = .ok (.aload_n 2, 1) := by decide +kernel
theorem dL_law_649 : decode cL_law 649 = .ok (.invokevirtual 194, 3) := by decide +kernel
theorem dL_law_652 : decode cL_law 652 = .ok (.if_icmp .eq 2337, 3) := by decide +kernel
theorem dL_law_655 : decode cL_law 655 = .ok (.iconst 0, 1) := by decide +kernel
theorem dL_law_656 : decode cL_law 656 = .ok (.ireturn, 1) := by decide +kernel
theorem dL_law_657 : decode cL_law 657 = .ok (.aload_n 1, 1) := by decide +kernel
theorem dL_law_658 : decode cL_law 658 = .ok (.aload_n 0, 1) := by decide +kernel
theorem dL_law_659 : decode cL_law 659 = .ok (.iload 5, 2) := by decide +kernel
theorem dL_law_661 : decode cL_law 661 = .ok (.iconst 1, 1) := by decide +kernel
theorem dL_law_662 : decode cL_law 662 = .ok (.iadd, 1) := by decide +kernel
theorem dL_law_663 : decode cL_law 663 = .ok (.iaload, 1) := by decide +kernel
theorem dL_law_664 : decode cL_law 664 = .ok (.aload_n 3, 1) := by decide +kernel
theorem dL_law_665 : decode cL_law 665 = .ok (.invokestatic 195, 3) := by decide +kernel
theorem dL_law_668 : decode cL_law 668 = .ok (.istore 6, 2) := by decide +kernel
theorem dL_law_670 : decode cL_law 670 = .ok (.aload_n 2, 1) := by decide +kernel
theorem dL_law_671 : decode cL_law 671 = .ok (.aload_n 0, 1) := by decide +kernel
theorem dL_law_672 : decode cL_law 672 = .ok (.iload 5, 2) := by decide +kernel
theorem dL_law_674 : decode cL_law 674 = .ok (.iconst 1, 1) := by decide +kernel
theorem dL_law_675 : decode cL_law 675 = .ok (.iadd, 1) := by decide +kernel
theorem dL_law_676 : decode cL_law 676 = .ok (.iaload, 1) := by decide +kernel
theorem dL_law_677 : decode cL_law 677 = .ok (.invokevirtual 197, 3) := by decide +kernel
theorem dL_law_680 : decode cL_law 680 = .ok (.istore 7, 2) := by decide +kernel
theorem dL_law_682 : decode cL_law 682 = .ok (.aload_n 2, 1) := by decide +kernel
theorem dL_law_683 : decode cL_law 683 = .ok (.invokevirtual 172, 3) := by decide +kernel
theorem dL_law_686 : decode cL_law 686 = .ok (.iload 6, 2) := by decide +kernel
theorem dL_law_688 : decode cL_law 688 = .ok (.if_icmp .eq 5, 3) := by decide +kernel
theorem dL_law_691 : decode cL_law 691 = .ok (.iconst 0, 1) := by decide +kernel
theorem dL_law_692 : decode cL_law 692 = .ok (.ireturn, 1) := by decide +kernel
theorem dL_law_693 : decode cL_law 693 = .ok (.iload 6, 2) := by decide +kernel
theorem dL_law_695 : decode cL_law 695 = .ok (.ifCond .ne 15, 3) := by decide +kernel
theorem dL_law_698 : decode cL_law 698 = .ok (.aload_n 3, 1) := by decide +kernel
theorem dL_law_699 : decode cL_law 699 = .ok (.iconst 0, 1) := by decide +kernel
theorem dL_law_700 : decode cL_law 700 = .ok (.laload, 1) := by decide +kernel
theorem dL_law_701 : decode cL_law 701 = .ok (.iload 7, 2) := by decide +kernel
theorem dL_law_703 : decode cL_law 703 = .ok (.i2l, 1) := by decide +kernel
theorem dL_law_704 : decode cL_law 704 = .ok (.lcmp, 1) := by decide +kernel
theorem dL_law_705 : decode cL_law 705 = .ok (.ifCond .eq 5, 3) := by decide +kernel
theorem dL_law_708 : decode cL_law 708 = .ok (.iconst 0, 1) := by decide +kernel
theorem dL_law_709 : decode cL_law 709 = .ok (.ireturn, 1) := by decide +kernel
theorem dL_law_710 : decode cL_law 710 = .ok (.goto 2279, 3) := by decide +kernel
theorem dL_law_713 : decode cL_law 713 = .ok (.aload_n 1, 1) := by decide +kernel
theorem dL_law_714 : decode cL_law 714 = .ok (.aload_n 0, 1) := by decide +kernel
theorem dL_law_715 : decode cL_law 715 = .ok (.iload 5, 2) := by decide +kernel
theorem dL_law_717 : decode cL_law 717 = .ok (.iconst 1, 1) := by decide +kernel
theorem dL_law_718 : decode cL_law 718 = .ok (.iadd, 1) := by decide +kernel
theorem dL_law_719 : decode cL_law 719 = .ok (.iaload, 1) := by decide +kernel
theorem dL_law_720 : decode cL_law 720 = .ok (.aload_n 3, 1) := by decide +kernel
theorem dL_law_721 : decode cL_law 721 = .ok (.invokestatic 198, 3) := by decide +kernel
theorem dL_law_724 : decode cL_law 724 = .ok (.istore 6, 2) := by decide +kernel
theorem dL_law_726 : decode cL_law 726 = .ok (.aload_n 2, 1) := by decide +kernel
theorem dL_law_727 : decode cL_law 727 = .ok (.aload_n 0, 1) := by decide +kernel
theorem dL_law_728 : decode cL_law 728 = .ok (.iload 5, 2) := by decide +kernel
theorem dL_law_730 : decode cL_law 730 = .ok (.iconst 1, 1) := by decide +kernel
theorem dL_law_731 : decode cL_law 731 = .ok (.iadd, 1) := by decide +kernel
theorem dL_law_732 : decode cL_law 732 = .ok (.iaload, 1) := by decide +kernel
theorem dL_law_733 : decode cL_law 733 = .ok (.invokevirtual 200, 3) := by decide +kernel
theorem dL_law_736 : decode cL_law 736 = .ok (.istore 7, 2) := by decide +kernel
theorem dL_law_738 : decode cL_law 738 = .ok (.aload_n 2, 1) := by decide +kernel
theorem dL_law_739 : decode cL_law 739 = .ok (.invokevirtual 172, 3) := by decide +kernel
theorem dL_law_742 : decode cL_law 742 = .ok (.iload 6, 2) := by decide +kernel
theorem dL_law_744 : decode cL_law 744 = .ok (.if_icmp .eq 5, 3) := by decide +kernel
theorem dL_law_747 : decode cL_law 747 = .ok (.iconst 0, 1) := by decide +kernel
theorem dL_law_748 : decode cL_law 748 = .ok (.ireturn, 1) := by decide +kernel
theorem dL_law_749 : decode cL_law 749 = .ok (.iload 6, 2) := by decide +kernel
theorem dL_law_751 : decode cL_law 751 = .ok (.ifCond .ne 22, 3) := by decide +kernel
theorem dL_law_754 : decode cL_law 754 = .ok (.aload_n 3, 1) := by decide +kernel
theorem dL_law_755 : decode cL_law 755 = .ok (.iconst 0, 1) := by decide +kernel
theorem dL_law_756 : decode cL_law 756 = .ok (.laload, 1) := by decide +kernel
theorem dL_law_757 : decode cL_law 757 = .ok (.iload 7, 2) := by decide +kernel
theorem dL_law_759 : decode cL_law 759 = .ok (.ifCond .eq 7, 3) := by decide +kernel
theorem dL_law_762 : decode cL_law 762 = .ok (.lconst 1, 1) := by decide +kernel
theorem dL_law_763 : decode cL_law 763 = .ok (.goto 4, 3) := by decide +kernel
theorem dL_law_766 : decode cL_law 766 = .ok (.lconst 0, 1) := by decide +kernel
theorem dL_law_767 : decode cL_law 767 = .ok (.lcmp, 1) := by decide +kernel
theorem dL_law_768 : decode cL_law 768 = .ok (.ifCond .eq 5, 3) := by decide +kernel
theorem dL_law_771 : decode cL_law 771 = .ok (.iconst 0, 1) := by decide +kernel
theorem dL_law_772 : decode cL_law 772 = .ok (.ireturn, 1) := by decide +kernel
theorem dL_law_773 : decode cL_law 773 = .ok (.goto 2216, 3) := by decide +kernel
theorem dL_law_776 : decode cL_law 776 = .ok (.aload_n 1, 1) := by decide +kernel
theorem dL_law_777 : decode cL_law 777 = .ok (.aload_n 0, 1) := by decide +kernel
theorem dL_law_778 : decode cL_law 778 = .ok (.iload 5, 2) := by decide +kernel
theorem dL_law_780 : decode cL_law 780 = .ok (.iconst 1, 1) := by decide +kernel
theorem dL_law_781 : decode cL_law 781 = .ok (.iadd, 1) := by decide +kernel
theorem dL_law_782 : decode cL_law 782 = .ok (.iaload, 1) := by decide +kernel
theorem dL_law_783 : decode cL_law 783 = .ok (.aload_n 3, 1) := by decide +kernel
theorem dL_law_784 : decode cL_law 784 = .ok (.invokestatic 201, 3) := by decide +kernel
theorem dL_law_787 : decode cL_law 787 = .ok (.istore 6, 2) := by decide +kernel
theorem dL_law_789 : decode cL_law 789 = .ok (.aload_n 2, 1) := by decide +kernel
theorem dL_law_790 : decode cL_law 790 = .ok (.aload_n 0, 1) := by decide +kernel
theorem dL_law_791 : decode cL_law 791 = .ok (.iload 5, 2) := by decide +kernel
theorem dL_law_793 : decode cL_law 793 = .ok (.iconst 1, 1) := by decide +kernel
theorem dL_law_794 : decode cL_law 794 = .ok (.iadd, 1) := by decide +kernel
theorem dL_law_795 : decode cL_law 795 = .ok (.iaload, 1) := by decide +kernel
theorem dL_law_796 : decode cL_law 796 = .ok (.invokevirtual 203, 3) := by decide +kernel
theorem dL_law_799 : decode cL_law 799 = .ok (.istore 7, 2) := by decide +kernel
theorem dL_law_801 : decode cL_law 801 = .ok (.aload_n 2, 1) := by decide +kernel
theorem dL_law_802 : decode cL_law 802 = .ok (.invokevirtual 172, 3) := by decide +kernel
theorem dL_law_805 : decode cL_law 805 = .ok (.iload 6, 2) := by decide +kernel
theorem dL_law_807 : decode cL_law 807 = .ok (.if_icmp .eq 5, 3) := by decide +kernel
theorem dL_law_810 : decode cL_law 810 = .ok (.iconst 0, 1) := by decide +kernel
theorem dL_law_811 : decode cL_law 811 = .ok (.ireturn, 1) := by decide +kernel
theorem dL_law_812 : decode cL_law 812 = .ok (.iload 6, 2) := by decide +kernel
theorem dL_law_814 : decode cL_law 814 = .ok (.ifCond .ne 22, 3) := by decide +kernel
theorem dL_law_817 : decode cL_law 817 = .ok (.aload_n 3, 1) := by decide +kernel
theorem dL_law_818 : decode cL_law 818 = .ok (.iconst 0, 1) := by decide +kernel
theorem dL_law_819 : decode cL_law 819 = .ok (.laload, 1) := by decide +kernel
theorem dL_law_820 : decode cL_law 820 = .ok (.iload 7, 2) := by decide +kernel
theorem dL_law_822 : decode cL_law 822 = .ok (.ifCond .eq 7, 3) := by decide +kernel
theorem dL_law_825 : decode cL_law 825 = .ok (.lconst 1, 1) := by decide +kernel
theorem dL_law_826 : decode cL_law 826 = .ok (.goto 4, 3) := by decide +kernel
theorem dL_law_829 : decode cL_law 829 = .ok (.lconst 0, 1) := by decide +kernel
theorem dL_law_830 : decode cL_law 830 = .ok (.lcmp, 1) := by decide +kernel
theorem dL_law_831 : decode cL_law 831 = .ok (.ifCond .eq 5, 3) := by decide +kernel
theorem dL_law_834 : decode cL_law 834 = .ok (.iconst 0, 1) := by decide +kernel
theorem dL_law_835 : decode cL_law 835 = .ok (.ireturn, 1) := by decide +kernel
theorem dL_law_836 : decode cL_law 836 = .ok (.goto 2153, 3) := by decide +kernel
theorem dL_law_839 : decode cL_law 839 = .ok (.aload_n 1, 1) := by decide +kernel
theorem dL_law_840 : decode cL_law 840 = .ok (.aload_n 0, 1) := by decide +kernel
theorem dL_law_841 : decode cL_law 841 = .ok (.iload 5, 2) := by decide +kernel
theorem dL_law_843 : decode cL_law 843 = .ok (.iconst 1, 1) := by decide +kernel
theorem dL_law_844 : decode cL_law 844 = .ok (.iadd, 1) := by decide +kernel
theorem dL_law_845 : decode cL_law 845 = .ok (.iaload, 1) := by decide +kernel
theorem dL_law_846 : decode cL_law 846 = .ok (.aload_n 0, 1) := by decide +kernel
theorem dL_law_847 : decode cL_law 847 = .ok (.iload 5, 2) := by decide +kernel
theorem dL_law_849 : decode cL_law 849 = .ok (.iconst 2, 1) := by decide +kernel
theorem dL_law_850 : decode cL_law 850 = .ok (.iadd, 1) := by decide +kernel
theorem dL_law_851 : decode cL_law 851 = .ok (.iaload, 1) := by decide +kernel
theorem dL_law_852 : decode cL_law 852 = .ok (.aload_n 3, 1) := by decide +kernel
theorem dL_law_853 : decode cL_law 853 = .ok (.invokestatic 204, 3) := by decide +kernel
theorem dL_law_856 : decode cL_law 856 = .ok (.istore 6, 2) := by decide +kernel
theorem dL_law_858 : decode cL_law 858 = .ok (.aload_n 2, 1) := by decide +kernel
theorem dL_law_859 : decode cL_law 859 = .ok (.aload_n 0, 1) := by decide +kernel
theorem dL_law_860 : decode cL_law 860 = .ok (.iload 5, 2) := by decide +kernel
theorem dL_law_862 : decode cL_law 862 = .ok (.iconst 1, 1) := by decide +kernel
theorem dL_law_863 : decode cL_law 863 = .ok (.iadd, 1) := by decide +kernel
theorem dL_law_864 : decode cL_law 864 = .ok (.iaload, 1) := by decide +kernel
theorem dL_law_865 : decode cL_law 865 = .ok (.aload_n 0, 1) := by decide +kernel
theorem dL_law_866 : decode cL_law 866 = .ok (.iload 5, 2) := by decide +kernel
theorem dL_law_868 : decode cL_law 868 = .ok (.iconst 2, 1) := by decide +kernel
theorem dL_law_869 : decode cL_law 869 = .ok (.iadd, 1) := by decide +kernel
theorem dL_law_870 : decode cL_law 870 = .ok (.iaload, 1) := by decide +kernel
theorem dL_law_871 : decode cL_law 871 = .ok (.invokevirtual 206, 3) := by decide +kernel
theorem dL_law_874 : decode cL_law 874 = .ok (.istore 7, 2) := by decide +kernel
theorem dL_law_876 : decode cL_law 876 = .ok (.aload_n 2, 1) := by decide +kernel
theorem dL_law_877 : decode cL_law 877 = .ok (.invokevirtual 172, 3) := by decide +kernel
theorem dL_law_880 : decode cL_law 880 = .ok (.iload 6, 2) := by decide +kernel
theorem dL_law_882 : decode cL_law 882 = .ok (.if_icmp .eq 5, 3) := by decide +kernel
theorem dL_law_885 : decode cL_law 885 = .ok (.iconst 0, 1) := by decide +kernel
theorem dL_law_886 : decode cL_law 886 = .ok (.ireturn, 1) := by decide +kernel
theorem dL_law_887 : decode cL_law 887 = .ok (.iload 6, 2) := by decide +kernel
theorem dL_law_889 : decode cL_law 889 = .ok (.ifCond .ne 22, 3) := by decide +kernel
theorem dL_law_892 : decode cL_law 892 = .ok (.aload_n 3, 1) := by decide +kernel
theorem dL_law_893 : decode cL_law 893 = .ok (.iconst 0, 1) := by decide +kernel
theorem dL_law_894 : decode cL_law 894 = .ok (.laload, 1) := by decide +kernel
theorem dL_law_895 : decode cL_law 895 = .ok (.iload 7, 2) := by decide +kernel
theorem dL_law_897 : decode cL_law 897 = .ok (.ifCond .eq 7, 3) := by decide +kernel
theorem dL_law_900 : decode cL_law 900 = .ok (.lconst 1, 1) := by decide +kernel
theorem dL_law_901 : decode cL_law 901 = .ok (.goto 4, 3) := by decide +kernel
theorem dL_law_904 : decode cL_law 904 = .ok (.lconst 0, 1) := by decide +kernel
theorem dL_law_905 : decode cL_law 905 = .ok (.lcmp, 1) := by decide +kernel
theorem dL_law_906 : decode cL_law 906 = .ok (.ifCond .eq 5, 3) := by decide +kernel
theorem dL_law_909 : decode cL_law 909 = .ok (.iconst 0, 1) := by decide +kernel
theorem dL_law_910 : decode cL_law 910 = .ok (.ireturn, 1) := by decide +kernel
theorem dL_law_911 : decode cL_law 911 = .ok (.goto 2078, 3) := by decide +kernel
theorem dL_law_914 : decode cL_law 914 = .ok (.aload_n 1, 1) := by decide +kernel
theorem dL_law_915 : decode cL_law 915 = .ok (.aload_n 0, 1) := by decide +kernel
theorem dL_law_916 : decode cL_law 916 = .ok (.iload 5, 2) := by decide +kernel
theorem dL_law_918 : decode cL_law 918 = .ok (.iconst 1, 1) := by decide +kernel
theorem dL_law_919 : decode cL_law 919 = .ok (.iadd, 1) := by decide +kernel
theorem dL_law_920 : decode cL_law 920 = .ok (.iaload, 1) := by decide +kernel
theorem dL_law_921 : decode cL_law 921 = .ok (.aload_n 3, 1) := by decide +kernel
theorem dL_law_922 : decode cL_law 922 = .ok (.invokestatic 207, 3) := by decide +kernel
theorem dL_law_925 : decode cL_law 925 = .ok (.istore 6, 2) := by decide +kernel
theorem dL_law_927 : decode cL_law 927 = .ok (.aload_n 2, 1) := by decide +kernel
theorem dL_law_928 : decode cL_law 928 = .ok (.aload_n 0, 1) := by decide +kernel
theorem dL_law_929 : decode cL_law 929 = .ok (.iload 5, 2) := by decide +kernel
theorem dL_law_931 : decode cL_law 931 = .ok (.iconst 1, 1) := by decide +kernel
theorem dL_law_932 : decode cL_law 932 = .ok (.iadd, 1) := by decide +kernel
theorem dL_law_933 : decode cL_law 933 = .ok (.iaload, 1) := by decide +kernel
theorem dL_law_934 : decode cL_law 934 = .ok (.invokevirtual 209, 3) := by decide +kernel
theorem dL_law_937 : decode cL_law 937 = .ok (.istore 7, 2) := by decide +kernel
theorem dL_law_939 : decode cL_law 939 = .ok (.aload_n 2, 1) := by decide +kernel
theorem dL_law_940 : decode cL_law 940 = .ok (.invokevirtual 172, 3) := by decide +kernel
theorem dL_law_943 : decode cL_law 943 = .ok (.iload 6, 2) := by decide +kernel
theorem dL_law_945 : decode cL_law 945 = .ok (.if_icmp .eq 5, 3) := by decide +kernel
theorem dL_law_948 : decode cL_law 948 = .ok (.iconst 0, 1) := by decide +kernel
theorem dL_law_949 : decode cL_law 949 = .ok (.ireturn, 1) := by decide +kernel
theorem dL_law_950 : decode cL_law 950 = .ok (.iload 6, 2) := by decide +kernel
theorem dL_law_952 : decode cL_law 952 = .ok (.ifCond .ne 15, 3) := by decide +kernel
theorem dL_law_955 : decode cL_law 955 = .ok (.aload_n 3, 1) := by decide +kernel
theorem dL_law_956 : decode cL_law 956 = .ok (.iconst 0, 1) := by decide +kernel
theorem dL_law_957 : decode cL_law 957 = .ok (.laload, 1) := by decide +kernel
theorem dL_law_958 : decode cL_law 958 = .ok (.iload 7, 2) := by decide +kernel
theorem dL_law_960 : decode cL_law 960 = .ok (.i2l, 1) := by decide +kernel
theorem dL_law_961 : decode cL_law 961 = .ok (.lcmp, 1) := by decide +kernel
theorem dL_law_962 : decode cL_law 962 = .ok (.ifCond .eq 5, 3) := by decide +kernel
theorem dL_law_965 : decode cL_law 965 = .ok (.iconst 0, 1) := by decide +kernel
theorem dL_law_966 : decode cL_law 966 = .ok (.ireturn, 1) := by decide +kernel
theorem dL_law_967 : decode cL_law 967 = .ok (.goto 2022, 3) := by decide +kernel
theorem dL_law_970 : decode cL_law 970 = .ok (.aload_n 1, 1) := by decide +kernel
theorem dL_law_971 : decode cL_law 971 = .ok (.aload_n 0, 1) := by decide +kernel
theorem dL_law_972 : decode cL_law 972 = .ok (.iload 5, 2) := by decide +kernel
theorem dL_law_974 : decode cL_law 974 = .ok (.iconst 1, 1) := by decide +kernel
theorem dL_law_975 : decode cL_law 975 = .ok (.iadd, 1) := by decide +kernel
theorem dL_law_976 : decode cL_law 976 = .ok (.iaload, 1) := by decide +kernel
theorem dL_law_977 : decode cL_law 977 = .ok (.aload_n 3, 1) := by decide +kernel
theorem dL_law_978 : decode cL_law 978 = .ok (.invokestatic 210, 3) := by decide +kernel
theorem dL_law_981 : decode cL_law 981 = .ok (.istore 6, 2) := by decide +kernel
theorem dL_law_983 : decode cL_law 983 = .ok (.aload_n 2, 1) := by decide +kernel
theorem dL_law_984 : decode cL_law 984 = .ok (.aload_n 0, 1) := by decide +kernel
theorem dL_law_985 : decode cL_law 985 = .ok (.iload 5, 2) := by decide +kernel
theorem dL_law_987 : decode cL_law 987 = .ok (.iconst 1, 1) := by decide +kernel
theorem dL_law_988 : decode cL_law 988 = .ok (.iadd, 1) := by decide +kernel
theorem dL_law_989 : decode cL_law 989 = .ok (.iaload, 1) := by decide +kernel
theorem dL_law_990 : decode cL_law 990 = .ok (.invokevirtual 212, 3) := by decide +kernel
theorem dL_law_993 : decode cL_law 993 = .ok (.istore 7, 2) := by decide +kernel
theorem dL_law_995 : decode cL_law 995 = .ok (.aload_n 2, 1) := by decide +kernel
theorem dL_law_996 : decode cL_law 996 = .ok (.invokevirtual 172, 3) := by decide +kernel
theorem dL_law_999 : decode cL_law 999 = .ok (.iload 6, 2) := by decide +kernel
theorem dL_law_1001 : decode cL_law 1001 = .ok (.if_icmp .eq 5, 3) := by decide +kernel
theorem dL_law_1004 : decode cL_law 1004 = .ok (.iconst 0, 1) := by decide +kernel
theorem dL_law_1005 : decode cL_law 1005 = .ok (.ireturn, 1) := by decide +kernel
theorem dL_law_1006 : decode cL_law 1006 = .ok (.iload 6, 2) := by decide +kernel
theorem dL_law_1008 : decode cL_law 1008 = .ok (.ifCond .ne 15, 3) := by decide +kernel
theorem dL_law_1011 : decode cL_law 1011 = .ok (.aload_n 3, 1) := by decide +kernel
theorem dL_law_1012 : decode cL_law 1012 = .ok (.iconst 0, 1) := by decide +kernel
theorem dL_law_1013 : decode cL_law 1013 = .ok (.laload, 1) := by decide +kernel
theorem dL_law_1014 : decode cL_law 1014 = .ok (.iload 7, 2) := by decide +kernel
theorem dL_law_1016 : decode cL_law 1016 = .ok (.i2l, 1) := by decide +kernel
theorem dL_law_1017 : decode cL_law 1017 = .ok (.lcmp, 1) := by decide +kernel
theorem dL_law_1018 : decode cL_law 1018 = .ok (.ifCond .eq 5, 3) := by decide +kernel
theorem dL_law_1021 : decode cL_law 1021 = .ok (.iconst 0, 1) := by decide +kernel
theorem dL_law_1022 : decode cL_law 1022 = .ok (.ireturn, 1) := by decide +kernel
theorem dL_law_1023 : decode cL_law 1023 = .ok (.goto 1966, 3) := by decide +kernel
theorem dL_law_1026 : decode cL_law 1026 = .ok (.aload_n 1, 1) := by decide +kernel
theorem dL_law_1027 : decode cL_law 1027 = .ok (.aload_n 0, 1) := by decide +kernel
theorem dL_law_1028 : decode cL_law 1028 = .ok (.iload 5, 2) := by decide +kernel
theorem dL_law_1030 : decode cL_law 1030 = .ok (.iconst 1, 1) := by decide +kernel
theorem dL_law_1031 : decode cL_law 1031 = .ok (.iadd, 1) := by decide +kernel
theorem dL_law_1032 : decode cL_law 1032 = .ok (.iaload, 1) := by decide +kernel
theorem dL_law_1033 : decode cL_law 1033 = .ok (.aload_n 3, 1) := by decide +kernel
theorem dL_law_1034 : decode cL_law 1034 = .ok (.invokestatic 213, 3) := by decide +kernel
theorem dL_law_1037 : decode cL_law 1037 = .ok (.istore 6, 2) := by decide +kernel
theorem dL_law_1039 : decode cL_law 1039 = .ok (.aload_n 2, 1) := by decide +kernel
theorem dL_law_1040 : decode cL_law 1040 = .ok (.aload_n 0, 1) := by decide +kernel
theorem dL_law_1041 : decode cL_law 1041 = .ok (.iload 5, 2) := by decide +kernel
theorem dL_law_1043 : decode cL_law 1043 = .ok (.iconst 1, 1) := by decide +kernel
theorem dL_law_1044 : decode cL_law 1044 = .ok (.iadd, 1) := by decide +kernel
theorem dL_law_1045 : decode cL_law 1045 = .ok (.iaload, 1) := by decide +kernel
theorem dL_law_1046 : decode cL_law 1046 = .ok (.invokevirtual 215, 3) := by decide +kernel
theorem dL_law_1049 : decode cL_law 1049 = .ok (.istore 7, 2) := by decide +kernel
theorem dL_law_1051 : decode cL_law 1051 = .ok (.aload_n 2, 1) := by decide +kernel
theorem dL_law_1052 : decode cL_law 1052 = .ok (.invokevirtual 172, 3) := by decide +kernel
theorem dL_law_1055 : decode cL_law 1055 = .ok (.iload 6, 2) := by decide +kernel
theorem dL_law_1057 : decode cL_law 1057 = .ok (.if_icmp .eq 5, 3) := by decide +kernel
theorem dL_law_1060 : decode cL_law 1060 = .ok (.iconst 0, 1) := by decide +kernel
theorem dL_law_1061 : decode cL_law 1061 = .ok (.ireturn, 1) := by decide +kernel
theorem dL_law_1062 : decode cL_law 1062 = .ok (.iload 6, 2) := by decide +kernel
theorem dL_law_1064 : decode cL_law 1064 = .ok (.ifCond .ne 15, 3) := by decide +kernel
theorem dL_law_1067 : decode cL_law 1067 = .ok (.aload_n 3, 1) := by decide +kernel
theorem dL_law_1068 : decode cL_law 1068 = .ok (.iconst 0, 1) := by decide +kernel
theorem dL_law_1069 : decode cL_law 1069 = .ok (.laload, 1) := by decide +kernel
theorem dL_law_1070 : decode cL_law 1070 = .ok (.iload 7, 2) := by decide +kernel
theorem dL_law_1072 : decode cL_law 1072 = .ok (.i2l, 1) := by decide +kernel
theorem dL_law_1073 : decode cL_law 1073 = .ok (.lcmp, 1) := by decide +kernel
theorem dL_law_1074 : decode cL_law 1074 = .ok (.ifCond .eq 5, 3) := by decide +kernel
theorem dL_law_1077 : decode cL_law 1077 = .ok (.iconst 0, 1) := by decide +kernel
theorem dL_law_1078 : decode cL_law 1078 = .ok (.ireturn, 1) := by decide +kernel
theorem dL_law_1079 : decode cL_law 1079 = .ok (.goto 1910, 3) := by decide +kernel
theorem dL_law_1082 : decode cL_law 1082 = .ok (.aload_n 1, 1) := by decide +kernel
theorem dL_law_1083 : decode cL_law 1083 = .ok (.aload_n 0, 1) := by decide +kernel
theorem dL_law_1084 : decode cL_law 1084 = .ok (.iload 5, 2) := by decide +kernel
theorem dL_law_1086 : decode cL_law 1086 = .ok (.iconst 1, 1) := by decide +kernel
theorem dL_law_1087 : decode cL_law 1087 = .ok (.iadd, 1) := by decide +kernel
theorem dL_law_1088 : decode cL_law 1088 = .ok (.iaload, 1) := by decide +kernel
theorem dL_law_1089 : decode cL_law 1089 = .ok (.aload_n 3, 1) := by decide +kernel
theorem dL_law_1090 : decode cL_law 1090 = .ok (.invokestatic 216, 3) := by decide +kernel
theorem dL_law_1093 : decode cL_law 1093 = .ok (.istore 6, 2) := by decide +kernel
theorem dL_law_1095 : decode cL_law 1095 = .ok (.aload_n 2, 1) := by decide +kernel
theorem dL_law_1096 : decode cL_law 1096 = .ok (.aload_n 0, 1) := by decide +kernel
theorem dL_law_1097 : decode cL_law 1097 = .ok (.iload 5, 2) := by decide +kernel
theorem dL_law_1099 : decode cL_law 1099 = .ok (.iconst 1, 1) := by decide +kernel
theorem dL_law_1100 : decode cL_law 1100 = .ok (.iadd, 1) := by decide +kernel
theorem dL_law_1101 : decode cL_law 1101 = .ok (.iaload, 1) := by decide +kernel
theorem dL_law_1102 : decode cL_law 1102 = .ok (.invokevirtual 218, 3) := by decide +kernel
theorem dL_law_1105 : decode cL_law 1105 = .ok (.istore 7, 2) := by decide +kernel
theorem dL_law_1107 : decode cL_law 1107 = .ok (.aload_n 2, 1) := by decide +kernel
theorem dL_law_1108 : decode cL_law 1108 = .ok (.invokevirtual 172, 3) := by decide +kernel
theorem dL_law_1111 : decode cL_law 1111 = .ok (.iload 6, 2) := by decide +kernel
theorem dL_law_1113 : decode cL_law 1113 = .ok (.if_icmp .eq 5, 3) := by decide +kernel
theorem dL_law_1116 : decode cL_law 1116 = .ok (.iconst 0, 1) := by decide +kernel
theorem dL_law_1117 : decode cL_law 1117 = .ok (.ireturn, 1) := by decide +kernel
theorem dL_law_1118 : decode cL_law 1118 = .ok (.iload 6, 2) := by decide +kernel
theorem dL_law_1120 : decode cL_law 1120 = .ok (.ifCond .ne 15, 3) := by decide +kernel
theorem dL_law_1123 : decode cL_law 1123 = .ok (.aload_n 3, 1) := by decide +kernel
theorem dL_law_1124 : decode cL_law 1124 = .ok (.iconst 0, 1) := by decide +kernel
theorem dL_law_1125 : decode cL_law 1125 = .ok (.laload, 1) := by decide +kernel
theorem dL_law_1126 : decode cL_law 1126 = .ok (.iload 7, 2) := by decide +kernel
theorem dL_law_1128 : decode cL_law 1128 = .ok (.i2l, 1) := by decide +kernel
theorem dL_law_1129 : decode cL_law 1129 = .ok (.lcmp, 1) := by decide +kernel
theorem dL_law_1130 : decode cL_law 1130 = .ok (.ifCond .eq 5, 3) := by decide +kernel
theorem dL_law_1133 : decode cL_law 1133 = .ok (.iconst 0, 1) := by decide +kernel
theorem dL_law_1134 : decode cL_law 1134 = .ok (.ireturn, 1) := by decide +kernel
theorem dL_law_1135 : decode cL_law 1135 = .ok (.goto 1854, 3) := by decide +kernel
theorem dL_law_1138 : decode cL_law 1138 = .ok (.aload_n 1, 1) := by decide +kernel
theorem dL_law_1139 : decode cL_law 1139 = .ok (.aload_n 0, 1) := by decide +kernel
theorem dL_law_1140 : decode cL_law 1140 = .ok (.iload 5, 2) := by decide +kernel
theorem dL_law_1142 : decode cL_law 1142 = .ok (.iconst 1, 1) := by decide +kernel
theorem dL_law_1143 : decode cL_law 1143 = .ok (.iadd, 1) := by decide +kernel
theorem dL_law_1144 : decode cL_law 1144 = .ok (.iaload, 1) := by decide +kernel
theorem dL_law_1145 : decode cL_law 1145 = .ok (.aload_n 0, 1) := by decide +kernel
theorem dL_law_1146 : decode cL_law 1146 = .ok (.iload 5, 2) := by decide +kernel
theorem dL_law_1148 : decode cL_law 1148 = .ok (.iconst 2, 1) := by decide +kernel
theorem dL_law_1149 : decode cL_law 1149 = .ok (.iadd, 1) := by decide +kernel
theorem dL_law_1150 : decode cL_law 1150 = .ok (.iaload, 1) := by decide +kernel
theorem dL_law_1151 : decode cL_law 1151 = .ok (.aload_n 3, 1) := by decide +kernel
theorem dL_law_1152 : decode cL_law 1152 = .ok (.invokestatic 219, 3) := by decide +kernel
theorem dL_law_1155 : decode cL_law 1155 = .ok (.istore 6, 2) := by decide +kernel
theorem dL_law_1157 : decode cL_law 1157 = .ok (.aload_n 2, 1) := by decide +kernel
theorem dL_law_1158 : decode cL_law 1158 = .ok (.aload_n 0, 1) := by decide +kernel
theorem dL_law_1159 : decode cL_law 1159 = .ok (.iload 5, 2) := by decide +kernel
theorem dL_law_1161 : decode cL_law 1161 = .ok (.iconst 1, 1) := by decide +kernel
theorem dL_law_1162 : decode cL_law 1162 = .ok (.iadd, 1) := by decide +kernel
theorem dL_law_1163 : decode cL_law 1163 = .ok (.iaload, 1) := by decide +kernel
theorem dL_law_1164 : decode cL_law 1164 = .ok (.aload_n 0, 1) := by decide +kernel
theorem dL_law_1165 : decode cL_law 1165 = .ok (.iload 5, 2) := by decide +kernel
theorem dL_law_1167 : decode cL_law 1167 = .ok (.iconst 2, 1) := by decide +kernel
theorem dL_law_1168 : decode cL_law 1168 = .ok (.iadd, 1) := by decide +kernel
theorem dL_law_1169 : decode cL_law 1169 = .ok (.iaload, 1) := by decide +kernel
theorem dL_law_1170 : decode cL_law 1170 = .ok (.invokevirtual 221, 3) := by decide +kernel
theorem dL_law_1173 : decode cL_law 1173 = .ok (.istore 7, 2) := by decide +kernel
theorem dL_law_1175 : decode cL_law 1175 = .ok (.aload_n 2, 1) := by decide +kernel
theorem dL_law_1176 : decode cL_law 1176 = .ok (.invokevirtual 172, 3) := by decide +kernel
theorem dL_law_1179 : decode cL_law 1179 = .ok (.iload 6, 2) := by decide +kernel
theorem dL_law_1181 : decode cL_law 1181 = .ok (.if_icmp .eq 5, 3) := by decide +kernel
theorem dL_law_1184 : decode cL_law 1184 = .ok (.iconst 0, 1) := by decide +kernel
theorem dL_law_1185 : decode cL_law 1185 = .ok (.ireturn, 1) := by decide +kernel
theorem dL_law_1186 : decode cL_law 1186 = .ok (.iload 6, 2) := by decide +kernel
theorem dL_law_1188 : decode cL_law 1188 = .ok (.ifCond .ne 15, 3) := by decide +kernel
theorem dL_law_1191 : decode cL_law 1191 = .ok (.aload_n 3, 1) := by decide +kernel
theorem dL_law_1192 : decode cL_law 1192 = .ok (.iconst 0, 1) := by decide +kernel
theorem dL_law_1193 : decode cL_law 1193 = .ok (.laload, 1) := by decide +kernel
theorem dL_law_1194 : decode cL_law 1194 = .ok (.iload 7, 2) := by decide +kernel
theorem dL_law_1196 : decode cL_law 1196 = .ok (.i2l, 1) := by decide +kernel
theorem dL_law_1197 : decode cL_law 1197 = .ok (.lcmp, 1) := by decide +kernel
theorem dL_law_1198 : decode cL_law 1198 = .ok (.ifCond .eq 5, 3) := by decide +kernel
theorem dL_law_1201 : decode cL_law 1201 = .ok (.iconst 0, 1) := by decide +kernel
theorem dL_law_1202 : decode cL_law 1202 = .ok (.ireturn, 1) := by decide +kernel
theorem dL_law_1203 : decode cL_law 1203 = .ok (.goto 1786, 3) := by decide +kernel
theorem dL_law_1206 : decode cL_law 1206 = .ok (.aload_n 1, 1) := by decide +kernel
theorem dL_law_1207 : decode cL_law 1207 = .ok (.aload_n 0, 1) := by decide +kernel
theorem dL_law_1208 : decode cL_law 1208 = .ok (.iload 5, 2) := by decide +kernel
theorem dL_law_1210 : decode cL_law 1210 = .ok (.iconst 1, 1) := by decide +kernel
theorem dL_law_1211 : decode cL_law 1211 = .ok (.iadd, 1) := by decide +kernel
theorem dL_law_1212 : decode cL_law 1212 = .ok (.iaload, 1) := by decide +kernel
theorem dL_law_1213 : decode cL_law 1213 = .ok (.aload_n 0, 1) := by decide +kernel
theorem dL_law_1214 : decode cL_law 1214 = .ok (.iload 5, 2) := by decide +kernel
theorem dL_law_1216 : decode cL_law 1216 = .ok (.iconst 2, 1) := by decide +kernel
theorem dL_law_1217 : decode cL_law 1217 = .ok (.iadd, 1) := by decide +kernel
theorem dL_law_1218 : decode cL_law 1218 = .ok (.iaload, 1) := by decide +kernel
theorem dL_law_1219 : decode cL_law 1219 = .ok (.aload_n 3, 1) := by decide +kernel
theorem dL_law_1220 : decode cL_law 1220 = .ok (.invokestatic 222, 3) := by decide +kernel
theorem dL_law_1223 : decode cL_law 1223 = .ok (.istore 6, 2) := by decide +kernel
theorem dL_law_1225 : decode cL_law 1225 = .ok (.aload_n 2, 1) := by decide +kernel
theorem dL_law_1226 : decode cL_law 1226 = .ok (.aload_n 0, 1) := by decide +kernel
theorem dL_law_1227 : decode cL_law 1227 = .ok (.iload 5, 2) := by decide +kernel
theorem dL_law_1229 : decode cL_law 1229 = .ok (.iconst 1, 1) := by decide +kernel
theorem dL_law_1230 : decode cL_law 1230 = .ok (.iadd, 1) := by decide +kernel
theorem dL_law_1231 : decode cL_law 1231 = .ok (.iaload, 1) := by decide +kernel
theorem dL_law_1232 : decode cL_law 1232 = .ok (.aload_n 0, 1) := by decide +kernel
theorem dL_law_1233 : decode cL_law 1233 = .ok (.iload 5, 2) := by decide +kernel
theorem dL_law_1235 : decode cL_law 1235 = .ok (.iconst 2, 1) := by decide +kernel
theorem dL_law_1236 : decode cL_law 1236 = .ok (.iadd, 1) := by decide +kernel
theorem dL_law_1237 : decode cL_law 1237 = .ok (.iaload, 1) := by decide +kernel
theorem dL_law_1238 : decode cL_law 1238 = .ok (.invokevirtual 224, 3) := by decide +kernel
theorem dL_law_1241 : decode cL_law 1241 = .ok (.istore 7, 2) := by decide +kernel
theorem dL_law_1243 : decode cL_law 1243 = .ok (.aload_n 2, 1) := by decide +kernel
theorem dL_law_1244 : decode cL_law 1244 = .ok (.invokevirtual 172, 3) := by decide +kernel
theorem dL_law_1247 : decode cL_law 1247 = .ok (.iload 6, 2) := by decide +kernel
theorem dL_law_1249 : decode cL_law 1249 = .ok (.if_icmp .eq 5, 3) := by decide +kernel
theorem dL_law_1252 : decode cL_law 1252 = .ok (.iconst 0, 1) := by decide +kernel
theorem dL_law_1253 : decode cL_law 1253 = .ok (.ireturn, 1) := by decide +kernel
theorem dL_law_1254 : decode cL_law 1254 = .ok (.iload 6, 2) := by decide +kernel
theorem dL_law_1256 : decode cL_law 1256 = .ok (.ifCond .ne 15, 3) := by decide +kernel
theorem dL_law_1259 : decode cL_law 1259 = .ok (.aload_n 3, 1) := by decide +kernel
theorem dL_law_1260 : decode cL_law 1260 = .ok (.iconst 0, 1) := by decide +kernel
theorem dL_law_1261 : decode cL_law 1261 = .ok (.laload, 1) := by decide +kernel
theorem dL_law_1262 : decode cL_law 1262 = .ok (.iload 7, 2) := by decide +kernel
theorem dL_law_1264 : decode cL_law 1264 = .ok (.i2l, 1) := by decide +kernel
theorem dL_law_1265 : decode cL_law 1265 = .ok (.lcmp, 1) := by decide +kernel
theorem dL_law_1266 : decode cL_law 1266 = .ok (.ifCond .eq 5, 3) := by decide +kernel
theorem dL_law_1269 : decode cL_law 1269 = .ok (.iconst 0, 1) := by decide +kernel
theorem dL_law_1270 : decode cL_law 1270 = .ok (.ireturn, 1) := by decide +kernel
theorem dL_law_1271 : decode cL_law 1271 = .ok (.goto 1718, 3) := by decide +kernel
theorem dL_law_1274 : decode cL_law 1274 = .ok (.aload_n 1, 1) := by decide +kernel
theorem dL_law_1275 : decode cL_law 1275 = .ok (.aload_n 0, 1) := by decide +kernel
theorem dL_law_1276 : decode cL_law 1276 = .ok (.iload 5, 2) := by decide +kernel
theorem dL_law_1278 : decode cL_law 1278 = .ok (.iconst 1, 1) := by decide +kernel
theorem dL_law_1279 : decode cL_law 1279 = .ok (.iadd, 1) := by decide +kernel
theorem dL_law_1280 : decode cL_law 1280 = .ok (.iaload, 1) := by decide +kernel
theorem dL_law_1281 : decode cL_law 1281 = .ok (.aload_n 3, 1) := by decide +kernel
theorem dL_law_1282 : decode cL_law 1282 = .ok (.invokestatic 225, 3) := by decide +kernel
theorem dL_law_1285 : decode cL_law 1285 = .ok (.istore 6, 2) := by decide +kernel
theorem dL_law_1287 : decode cL_law 1287 = .ok (.aload_n 2, 1) := by decide +kernel
theorem dL_law_1288 : decode cL_law 1288 = .ok (.aload_n 0, 1) := by decide +kernel
theorem dL_law_1289 : decode cL_law 1289 = .ok (.iload 5, 2) := by decide +kernel
theorem dL_law_1291 : decode cL_law 1291 = .ok (.iconst 1, 1) := by decide +kernel
theorem dL_law_1292 : decode cL_law 1292 = .ok (.iadd, 1) := by decide +kernel
theorem dL_law_1293 : decode cL_law 1293 = .ok (.iaload, 1) := by decide +kernel
theorem dL_law_1294 : decode cL_law 1294 = .ok (.invokevirtual 227, 3) := by decide +kernel
theorem dL_law_1297 : decode cL_law 1297 = .ok (.istore 7, 2) := by decide +kernel
theorem dL_law_1299 : decode cL_law 1299 = .ok (.aload_n 2, 1) := by decide +kernel
theorem dL_law_1300 : decode cL_law 1300 = .ok (.invokevirtual 172, 3) := by decide +kernel
theorem dL_law_1303 : decode cL_law 1303 = .ok (.iload 6, 2) := by decide +kernel
theorem dL_law_1305 : decode cL_law 1305 = .ok (.if_icmp .eq 5, 3) := by decide +kernel
theorem dL_law_1308 : decode cL_law 1308 = .ok (.iconst 0, 1) := by decide +kernel
theorem dL_law_1309 : decode cL_law 1309 = .ok (.ireturn, 1) := by decide +kernel
theorem dL_law_1310 : decode cL_law 1310 = .ok (.iload 6, 2) := by decide +kernel
theorem dL_law_1312 : decode cL_law 1312 = .ok (.ifCond .ne 15, 3) := by decide +kernel
theorem dL_law_1315 : decode cL_law 1315 = .ok (.aload_n 3, 1) := by decide +kernel
theorem dL_law_1316 : decode cL_law 1316 = .ok (.iconst 0, 1) := by decide +kernel
theorem dL_law_1317 : decode cL_law 1317 = .ok (.laload, 1) := by decide +kernel
theorem dL_law_1318 : decode cL_law 1318 = .ok (.iload 7, 2) := by decide +kernel
theorem dL_law_1320 : decode cL_law 1320 = .ok (.i2l, 1) := by decide +kernel
theorem dL_law_1321 : decode cL_law 1321 = .ok (.lcmp, 1) := by decide +kernel
theorem dL_law_1322 : decode cL_law 1322 = .ok (.ifCond .eq 5, 3) := by decide +kernel
theorem dL_law_1325 : decode cL_law 1325 = .ok (.iconst 0, 1) := by decide +kernel
theorem dL_law_1326 : decode cL_law 1326 = .ok (.ireturn, 1) := by decide +kernel
theorem dL_law_1327 : decode cL_law 1327 = .ok (.goto 1662, 3) := by decide +kernel
theorem dL_law_1330 : decode cL_law 1330 = .ok (.aload_n 1, 1) := by decide +kernel
theorem dL_law_1331 : decode cL_law 1331 = .ok (.invokevirtual 228, 3) := by decide +kernel
theorem dL_law_1334 : decode cL_law 1334 = .ok (.aload_n 2, 1) := by decide +kernel
theorem dL_law_1335 : decode cL_law 1335 = .ok (.invokevirtual 231, 3) := by decide +kernel
theorem dL_law_1338 : decode cL_law 1338 = .ok (.if_icmp .eq 1651, 3) := by decide +kernel
theorem dL_law_1341 : decode cL_law 1341 = .ok (.iconst 0, 1) := by decide +kernel
theorem dL_law_1342 : decode cL_law 1342 = .ok (.ireturn, 1) := by decide +kernel
theorem dL_law_1343 : decode cL_law 1343 = .ok (.aload_n 1, 1) := by decide +kernel
theorem dL_law_1344 : decode cL_law 1344 = .ok (.invokevirtual 232, 3) := by decide +kernel
theorem dL_law_1347 : decode cL_law 1347 = .ok (.aload_n 2, 1) := by decide +kernel
theorem dL_law_1348 : decode cL_law 1348 = .ok (.invokevirtual 235, 3) := by decide +kernel
theorem dL_law_1351 : decode cL_law 1351 = .ok (.if_icmp .eq 1638, 3) := by decide +kernel
theorem dL_law_1354 : decode cL_law 1354 = .ok (.iconst 0, 1) := by decide +kernel
theorem dL_law_1355 : decode cL_law 1355 = .ok (.ireturn, 1) := by decide +kernel
theorem dL_law_1356 : decode cL_law 1356 = .ok (.aload_n 1, 1) := by decide +kernel
theorem dL_law_1357 : decode cL_law 1357 = .ok (.aload_n 0, 1) := by decide +kernel
theorem dL_law_1358 : decode cL_law 1358 = .ok (.iload 5, 2) := by decide +kernel
theorem dL_law_1360 : decode cL_law 1360 = .ok (.iconst 1, 1) := by decide +kernel
theorem dL_law_1361 : decode cL_law 1361 = .ok (.iadd, 1) := by decide +kernel
theorem dL_law_1362 : decode cL_law 1362 = .ok (.iaload, 1) := by decide +kernel
theorem dL_law_1363 : decode cL_law 1363 = .ok (.aload_n 3, 1) := by decide +kernel
theorem dL_law_1364 : decode cL_law 1364 = .ok (.invokestatic 236, 3) := by decide +kernel
theorem dL_law_1367 : decode cL_law 1367 = .ok (.istore 6, 2) := by decide +kernel
theorem dL_law_1369 : decode cL_law 1369 = .ok (.aload_n 2, 1) := by decide +kernel
theorem dL_law_1370 : decode cL_law 1370 = .ok (.aload_n 0, 1) := by decide +kernel
theorem dL_law_1371 : decode cL_law 1371 = .ok (.iload 5, 2) := by decide +kernel
theorem dL_law_1373 : decode cL_law 1373 = .ok (.iconst 1, 1) := by decide +kernel
theorem dL_law_1374 : decode cL_law 1374 = .ok (.iadd, 1) := by decide +kernel
theorem dL_law_1375 : decode cL_law 1375 = .ok (.iaload, 1) := by decide +kernel
theorem dL_law_1376 : decode cL_law 1376 = .ok (.invokevirtual 238, 3) := by decide +kernel
theorem dL_law_1379 : decode cL_law 1379 = .ok (.istore 7, 2) := by decide +kernel
theorem dL_law_1381 : decode cL_law 1381 = .ok (.aload_n 2, 1) := by decide +kernel
theorem dL_law_1382 : decode cL_law 1382 = .ok (.invokevirtual 172, 3) := by decide +kernel
theorem dL_law_1385 : decode cL_law 1385 = .ok (.iload 6, 2) := by decide +kernel
theorem dL_law_1387 : decode cL_law 1387 = .ok (.if_icmp .eq 5, 3) := by decide +kernel
theorem dL_law_1390 : decode cL_law 1390 = .ok (.iconst 0, 1) := by decide +kernel
theorem dL_law_1391 : decode cL_law 1391 = .ok (.ireturn, 1) := by decide +kernel
theorem dL_law_1392 : decode cL_law 1392 = .ok (.iload 6, 2) := by decide +kernel
theorem dL_law_1394 : decode cL_law 1394 = .ok (.ifCond .ne 15, 3) := by decide +kernel
theorem dL_law_1397 : decode cL_law 1397 = .ok (.aload_n 3, 1) := by decide +kernel
theorem dL_law_1398 : decode cL_law 1398 = .ok (.iconst 0, 1) := by decide +kernel
theorem dL_law_1399 : decode cL_law 1399 = .ok (.laload, 1) := by decide +kernel
theorem dL_law_1400 : decode cL_law 1400 = .ok (.iload 7, 2) := by decide +kernel
theorem dL_law_1402 : decode cL_law 1402 = .ok (.i2l, 1) := by decide +kernel
theorem dL_law_1403 : decode cL_law 1403 = .ok (.lcmp, 1) := by decide +kernel
theorem dL_law_1404 : decode cL_law 1404 = .ok (.ifCond .eq 5, 3) := by decide +kernel
theorem dL_law_1407 : decode cL_law 1407 = .ok (.iconst 0, 1) := by decide +kernel
theorem dL_law_1408 : decode cL_law 1408 = .ok (.ireturn, 1) := by decide +kernel
theorem dL_law_1409 : decode cL_law 1409 = .ok (.goto 1580, 3) := by decide +kernel
theorem dL_law_1412 : decode cL_law 1412 = .ok (.aload_n 1, 1) := by decide +kernel
theorem dL_law_1413 : decode cL_law 1413 = .ok (.aload_n 0, 1) := by decide +kernel
theorem dL_law_1414 : decode cL_law 1414 = .ok (.iload 5, 2) := by decide +kernel
theorem dL_law_1416 : decode cL_law 1416 = .ok (.iconst 1, 1) := by decide +kernel
theorem dL_law_1417 : decode cL_law 1417 = .ok (.iadd, 1) := by decide +kernel
theorem dL_law_1418 : decode cL_law 1418 = .ok (.iaload, 1) := by decide +kernel
theorem dL_law_1419 : decode cL_law 1419 = .ok (.aload_n 0, 1) := by decide +kernel
theorem dL_law_1420 : decode cL_law 1420 = .ok (.iload 5, 2) := by decide +kernel
theorem dL_law_1422 : decode cL_law 1422 = .ok (.iconst 2, 1) := by decide +kernel
theorem dL_law_1423 : decode cL_law 1423 = .ok (.iadd, 1) := by decide +kernel
theorem dL_law_1424 : decode cL_law 1424 = .ok (.iaload, 1) := by decide +kernel
theorem dL_law_1425 : decode cL_law 1425 = .ok (.aload_n 3, 1) := by decide +kernel
theorem dL_law_1426 : decode cL_law 1426 = .ok (.invokestatic 239, 3) := by decide +kernel
theorem dL_law_1429 : decode cL_law 1429 = .ok (.istore 6, 2) := by decide +kernel
theorem dL_law_1431 : decode cL_law 1431 = .ok (.aload_n 2, 1) := by decide +kernel
theorem dL_law_1432 : decode cL_law 1432 = .ok (.aload_n 0, 1) := by decide +kernel
theorem dL_law_1433 : decode cL_law 1433 = .ok (.iload 5, 2) := by decide +kernel
theorem dL_law_1435 : decode cL_law 1435 = .ok (.iconst 1, 1) := by decide +kernel
theorem dL_law_1436 : decode cL_law 1436 = .ok (.iadd, 1) := by decide +kernel
theorem dL_law_1437 : decode cL_law 1437 = .ok (.iaload, 1) := by decide +kernel
theorem dL_law_1438 : decode cL_law 1438 = .ok (.aload_n 0, 1) := by decide +kernel
theorem dL_law_1439 : decode cL_law 1439 = .ok (.iload 5, 2) := by decide +kernel
theorem dL_law_1441 : decode cL_law 1441 = .ok (.iconst 2, 1) := by decide +kernel
theorem dL_law_1442 : decode cL_law 1442 = .ok (.iadd, 1) := by decide +kernel
theorem dL_law_1443 : decode cL_law 1443 = .ok (.iaload, 1) := by decide +kernel
theorem dL_law_1444 : decode cL_law 1444 = .ok (.invokevirtual 241, 3) := by decide +kernel
theorem dL_law_1447 : decode cL_law 1447 = .ok (.istore 7, 2) := by decide +kernel
theorem dL_law_1449 : decode cL_law 1449 = .ok (.aload_n 2, 1) := by decide +kernel
theorem dL_law_1450 : decode cL_law 1450 = .ok (.invokevirtual 172, 3) := by decide +kernel
theorem dL_law_1453 : decode cL_law 1453 = .ok (.iload 6, 2) := by decide +kernel
theorem dL_law_1455 : decode cL_law 1455 = .ok (.if_icmp .eq 5, 3) := by decide +kernel
theorem dL_law_1458 : decode cL_law 1458 = .ok (.iconst 0, 1) := by decide +kernel
theorem dL_law_1459 : decode cL_law 1459 = .ok (.ireturn, 1) := by decide +kernel
theorem dL_law_1460 : decode cL_law 1460 = .ok (.iload 6, 2) := by decide +kernel
theorem dL_law_1462 : decode cL_law 1462 = .ok (.ifCond .ne 15, 3) := by decide +kernel
theorem dL_law_1465 : decode cL_law 1465 = .ok (.aload_n 3, 1) := by decide +kernel
theorem dL_law_1466 : decode cL_law 1466 = .ok (.iconst 0, 1) := by decide +kernel
theorem dL_law_1467 : decode cL_law 1467 = .ok (.laload, 1) := by decide +kernel
theorem dL_law_1468 : decode cL_law 1468 = .ok (.iload 7, 2) := by decide +kernel
theorem dL_law_1470 : decode cL_law 1470 = .ok (.i2l, 1) := by decide +kernel
theorem dL_law_1471 : decode cL_law 1471 = .ok (.lcmp, 1) := by decide +kernel
theorem dL_law_1472 : decode cL_law 1472 = .ok (.ifCond .eq 5, 3) := by decide +kernel
theorem dL_law_1475 : decode cL_law 1475 = .ok (.iconst 0, 1) := by decide +kernel
theorem dL_law_1476 : decode cL_law 1476 = .ok (.ireturn, 1) := by decide +kernel
theorem dL_law_1477 : decode cL_law 1477 = .ok (.goto 1512, 3) := by decide +kernel
theorem dL_law_1480 : decode cL_law 1480 = .ok (.aload_n 1, 1) := by decide +kernel
theorem dL_law_1481 : decode cL_law 1481 = .ok (.aload_n 0, 1) := by decide +kernel
theorem dL_law_1482 : decode cL_law 1482 = .ok (.iload 5, 2) := by decide +kernel
theorem dL_law_1484 : decode cL_law 1484 = .ok (.iconst 1, 1) := by decide +kernel
theorem dL_law_1485 : decode cL_law 1485 = .ok (.iadd, 1) := by decide +kernel
theorem dL_law_1486 : decode cL_law 1486 = .ok (.iaload, 1) := by decide +kernel
theorem dL_law_1487 : decode cL_law 1487 = .ok (.aload_n 0, 1) := by decide +kernel
theorem dL_law_1488 : decode cL_law 1488 = .ok (.iload 5, 2) := by decide +kernel
theorem dL_law_1490 : decode cL_law 1490 = .ok (.iconst 2, 1) := by decide +kernel
theorem dL_law_1491 : decode cL_law 1491 = .ok (.iadd, 1) := by decide +kernel
theorem dL_law_1492 : decode cL_law 1492 = .ok (.iaload, 1) := by decide +kernel
theorem dL_law_1493 : decode cL_law 1493 = .ok (.aload_n 3, 1) := by decide +kernel
theorem dL_law_1494 : decode cL_law 1494 = .ok (.invokestatic 242, 3) := by decide +kernel
theorem dL_law_1497 : decode cL_law 1497 = .ok (.istore 6, 2) := by decide +kernel
theorem dL_law_1499 : decode cL_law 1499 = .ok (.aload_n 2, 1) := by decide +kernel
theorem dL_law_1500 : decode cL_law 1500 = .ok (.aload_n 0, 1) := by decide +kernel
theorem dL_law_1501 : decode cL_law 1501 = .ok (.iload 5, 2) := by decide +kernel
theorem dL_law_1503 : decode cL_law 1503 = .ok (.iconst 1, 1) := by decide +kernel
theorem dL_law_1504 : decode cL_law 1504 = .ok (.iadd, 1) := by decide +kernel
theorem dL_law_1505 : decode cL_law 1505 = .ok (.iaload, 1) := by decide +kernel
theorem dL_law_1506 : decode cL_law 1506 = .ok (.aload_n 0, 1) := by decide +kernel
theorem dL_law_1507 : decode cL_law 1507 = .ok (.iload 5, 2) := by decide +kernel
theorem dL_law_1509 : decode cL_law 1509 = .ok (.iconst 2, 1) := by decide +kernel
theorem dL_law_1510 : decode cL_law 1510 = .ok (.iadd, 1) := by decide +kernel
theorem dL_law_1511 : decode cL_law 1511 = .ok (.iaload, 1) := by decide +kernel
theorem dL_law_1512 : decode cL_law 1512 = .ok (.invokevirtual 244, 3) := by decide +kernel
theorem dL_law_1515 : decode cL_law 1515 = .ok (.istore 7, 2) := by decide +kernel
theorem dL_law_1517 : decode cL_law 1517 = .ok (.aload_n 2, 1) := by decide +kernel
theorem dL_law_1518 : decode cL_law 1518 = .ok (.invokevirtual 172, 3) := by decide +kernel
theorem dL_law_1521 : decode cL_law 1521 = .ok (.iload 6, 2) := by decide +kernel
theorem dL_law_1523 : decode cL_law 1523 = .ok (.if_icmp .eq 5, 3) := by decide +kernel
theorem dL_law_1526 : decode cL_law 1526 = .ok (.iconst 0, 1) := by decide +kernel
theorem dL_law_1527 : decode cL_law 1527 = .ok (.ireturn, 1) := by decide +kernel
theorem dL_law_1528 : decode cL_law 1528 = .ok (.iload 6, 2) := by decide +kernel
theorem dL_law_1530 : decode cL_law 1530 = .ok (.ifCond .ne 15, 3) := by decide +kernel
theorem dL_law_1533 : decode cL_law 1533 = .ok (.aload_n 3, 1) := by decide +kernel
theorem dL_law_1534 : decode cL_law 1534 = .ok (.iconst 0, 1) := by decide +kernel
theorem dL_law_1535 : decode cL_law 1535 = .ok (.laload, 1) := by decide +kernel
theorem dL_law_1536 : decode cL_law 1536 = .ok (.iload 7, 2) := by decide +kernel
theorem dL_law_1538 : decode cL_law 1538 = .ok (.i2l, 1) := by decide +kernel
theorem dL_law_1539 : decode cL_law 1539 = .ok (.lcmp, 1) := by decide +kernel
theorem dL_law_1540 : decode cL_law 1540 = .ok (.ifCond .eq 5, 3) := by decide +kernel
theorem dL_law_1543 : decode cL_law 1543 = .ok (.iconst 0, 1) := by decide +kernel
theorem dL_law_1544 : decode cL_law 1544 = .ok (.ireturn, 1) := by decide +kernel
theorem dL_law_1545 : decode cL_law 1545 = .ok (.goto 1444, 3) := by decide +kernel
theorem dL_law_1548 : decode cL_law 1548 = .ok (.aload_n 1, 1) := by decide +kernel
theorem dL_law_1549 : decode cL_law 1549 = .ok (.aload_n 0, 1) := by decide +kernel
theorem dL_law_1550 : decode cL_law 1550 = .ok (.iload 5, 2) := by decide +kernel
theorem dL_law_1552 : decode cL_law 1552 = .ok (.iconst 1, 1) := by decide +kernel
theorem dL_law_1553 : decode cL_law 1553 = .ok (.iadd, 1) := by decide +kernel
theorem dL_law_1554 : decode cL_law 1554 = .ok (.iaload, 1) := by decide +kernel
theorem dL_law_1555 : decode cL_law 1555 = .ok (.aload_n 3, 1) := by decide +kernel
theorem dL_law_1556 : decode cL_law 1556 = .ok (.invokestatic 245, 3) := by decide +kernel
theorem dL_law_1559 : decode cL_law 1559 = .ok (.istore 6, 2) := by decide +kernel
theorem dL_law_1561 : decode cL_law 1561 = .ok (.aload_n 2, 1) := by decide +kernel
theorem dL_law_1562 : decode cL_law 1562 = .ok (.aload_n 0, 1) := by decide +kernel
theorem dL_law_1563 : decode cL_law 1563 = .ok (.iload 5, 2) := by decide +kernel
theorem dL_law_1565 : decode cL_law 1565 = .ok (.iconst 1, 1) := by decide +kernel
theorem dL_law_1566 : decode cL_law 1566 = .ok (.iadd, 1) := by decide +kernel
theorem dL_law_1567 : decode cL_law 1567 = .ok (.iaload, 1) := by decide +kernel
theorem dL_law_1568 : decode cL_law 1568 = .ok (.invokevirtual 247, 3) := by decide +kernel
theorem dL_law_1571 : decode cL_law 1571 = .ok (.istore 7, 2) := by decide +kernel
theorem dL_law_1573 : decode cL_law 1573 = .ok (.aload_n 2, 1) := by decide +kernel
theorem dL_law_1574 : decode cL_law 1574 = .ok (.invokevirtual 172, 3) := by decide +kernel
theorem dL_law_1577 : decode cL_law 1577 = .ok (.iload 6, 2) := by decide +kernel
theorem dL_law_1579 : decode cL_law 1579 = .ok (.if_icmp .eq 5, 3) := by decide +kernel
theorem dL_law_1582 : decode cL_law 1582 = .ok (.iconst 0, 1) := by decide +kernel
theorem dL_law_1583 : decode cL_law 1583 = .ok (.ireturn, 1) := by decide +kernel
theorem dL_law_1584 : decode cL_law 1584 = .ok (.iload 6, 2) := by decide +kernel
theorem dL_law_1586 : decode cL_law 1586 = .ok (.ifCond .ne 15, 3) := by decide +kernel
theorem dL_law_1589 : decode cL_law 1589 = .ok (.aload_n 3, 1) := by decide +kernel
theorem dL_law_1590 : decode cL_law 1590 = .ok (.iconst 0, 1) := by decide +kernel
theorem dL_law_1591 : decode cL_law 1591 = .ok (.laload, 1) := by decide +kernel
theorem dL_law_1592 : decode cL_law 1592 = .ok (.iload 7, 2) := by decide +kernel
theorem dL_law_1594 : decode cL_law 1594 = .ok (.i2l, 1) := by decide +kernel
theorem dL_law_1595 : decode cL_law 1595 = .ok (.lcmp, 1) := by decide +kernel
theorem dL_law_1596 : decode cL_law 1596 = .ok (.ifCond .eq 5, 3) := by decide +kernel
theorem dL_law_1599 : decode cL_law 1599 = .ok (.iconst 0, 1) := by decide +kernel
theorem dL_law_1600 : decode cL_law 1600 = .ok (.ireturn, 1) := by decide +kernel
theorem dL_law_1601 : decode cL_law 1601 = .ok (.goto 1388, 3) := by decide +kernel
theorem dL_law_1604 : decode cL_law 1604 = .ok (.aload_n 1, 1) := by decide +kernel
theorem dL_law_1605 : decode cL_law 1605 = .ok (.aload_n 0, 1) := by decide +kernel
theorem dL_law_1606 : decode cL_law 1606 = .ok (.iload 5, 2) := by decide +kernel
theorem dL_law_1608 : decode cL_law 1608 = .ok (.iconst 1, 1) := by decide +kernel
theorem dL_law_1609 : decode cL_law 1609 = .ok (.iadd, 1) := by decide +kernel
theorem dL_law_1610 : decode cL_law 1610 = .ok (.iaload, 1) := by decide +kernel
theorem dL_law_1611 : decode cL_law 1611 = .ok (.aload_n 0, 1) := by decide +kernel
theorem dL_law_1612 : decode cL_law 1612 = .ok (.iload 5, 2) := by decide +kernel
theorem dL_law_1614 : decode cL_law 1614 = .ok (.iconst 2, 1) := by decide +kernel
theorem dL_law_1615 : decode cL_law 1615 = .ok (.iadd, 1) := by decide +kernel
theorem dL_law_1616 : decode cL_law 1616 = .ok (.iaload, 1) := by decide +kernel
theorem dL_law_1617 : decode cL_law 1617 = .ok (.aload_n 3, 1) := by decide +kernel
theorem dL_law_1618 : decode cL_law 1618 = .ok (.invokestatic 248, 3) := by decide +kernel
theorem dL_law_1621 : decode cL_law 1621 = .ok (.istore 6, 2) := by decide +kernel
theorem dL_law_1623 : decode cL_law 1623 = .ok (.aload_n 2, 1) := by decide +kernel
theorem dL_law_1624 : decode cL_law 1624 = .ok (.aload_n 0, 1) := by decide +kernel
theorem dL_law_1625 : decode cL_law 1625 = .ok (.iload 5, 2) := by decide +kernel
theorem dL_law_1627 : decode cL_law 1627 = .ok (.iconst 1, 1) := by decide +kernel
theorem dL_law_1628 : decode cL_law 1628 = .ok (.iadd, 1) := by decide +kernel
theorem dL_law_1629 : decode cL_law 1629 = .ok (.iaload, 1) := by decide +kernel
theorem dL_law_1630 : decode cL_law 1630 = .ok (.aload_n 0, 1) := by decide +kernel
theorem dL_law_1631 : decode cL_law 1631 = .ok (.iload 5, 2) := by decide +kernel
theorem dL_law_1633 : decode cL_law 1633 = .ok (.iconst 2, 1) := by decide +kernel
theorem dL_law_1634 : decode cL_law 1634 = .ok (.iadd, 1) := by decide +kernel
theorem dL_law_1635 : decode cL_law 1635 = .ok (.iaload, 1) := by decide +kernel
theorem dL_law_1636 : decode cL_law 1636 = .ok (.invokevirtual 250, 3) := by decide +kernel
theorem dL_law_1639 : decode cL_law 1639 = .ok (.istore 7, 2) := by decide +kernel
theorem dL_law_1641 : decode cL_law 1641 = .ok (.aload_n 2, 1) := by decide +kernel
theorem dL_law_1642 : decode cL_law 1642 = .ok (.invokevirtual 172, 3) := by decide +kernel
theorem dL_law_1645 : decode cL_law 1645 = .ok (.iload 6, 2) := by decide +kernel
theorem dL_law_1647 : decode cL_law 1647 = .ok (.if_icmp .eq 5, 3) := by decide +kernel
theorem dL_law_1650 : decode cL_law 1650 = .ok (.iconst 0, 1) := by decide +kernel
theorem dL_law_1651 : decode cL_law 1651 = .ok (.ireturn, 1) := by decide +kernel
theorem dL_law_1652 : decode cL_law 1652 = .ok (.iload 6, 2) := by decide +kernel
theorem dL_law_1654 : decode cL_law 1654 = .ok (.ifCond .ne 15, 3) := by decide +kernel
theorem dL_law_1657 : decode cL_law 1657 = .ok (.aload_n 3, 1) := by decide +kernel
theorem dL_law_1658 : decode cL_law 1658 = .ok (.iconst 0, 1) := by decide +kernel
theorem dL_law_1659 : decode cL_law 1659 = .ok (.laload, 1) := by decide +kernel
theorem dL_law_1660 : decode cL_law 1660 = .ok (.iload 7, 2) := by decide +kernel
theorem dL_law_1662 : decode cL_law 1662 = .ok (.i2l, 1) := by decide +kernel
theorem dL_law_1663 : decode cL_law 1663 = .ok (.lcmp, 1) := by decide +kernel
theorem dL_law_1664 : decode cL_law 1664 = .ok (.ifCond .eq 5, 3) := by decide +kernel
theorem dL_law_1667 : decode cL_law 1667 = .ok (.iconst 0, 1) := by decide +kernel
theorem dL_law_1668 : decode cL_law 1668 = .ok (.ireturn, 1) := by decide +kernel
theorem dL_law_1669 : decode cL_law 1669 = .ok (.goto 1320, 3) := by decide +kernel
theorem dL_law_1672 : decode cL_law 1672 = .ok (.aload_n 1, 1) := by decide +kernel
theorem dL_law_1673 : decode cL_law 1673 = .ok (.aload_n 0, 1) := by decide +kernel
theorem dL_law_1674 : decode cL_law 1674 = .ok (.iload 5, 2) := by decide +kernel
theorem dL_law_1676 : decode cL_law 1676 = .ok (.iconst 1, 1) := by decide +kernel
theorem dL_law_1677 : decode cL_law 1677 = .ok (.iadd, 1) := by decide +kernel
theorem dL_law_1678 : decode cL_law 1678 = .ok (.iaload, 1) := by decide +kernel
theorem dL_law_1679 : decode cL_law 1679 = .ok (.aload_n 3, 1) := by decide +kernel
theorem dL_law_1680 : decode cL_law 1680 = .ok (.invokestatic 251, 3) := by decide +kernel
theorem dL_law_1683 : decode cL_law 1683 = .ok (.istore 6, 2) := by decide +kernel
theorem dL_law_1685 : decode cL_law 1685 = .ok (.aload_n 2, 1) := by decide +kernel
theorem dL_law_1686 : decode cL_law 1686 = .ok (.aload_n 0, 1) := by decide +kernel
theorem dL_law_1687 : decode cL_law 1687 = .ok (.iload 5, 2) := by decide +kernel
theorem dL_law_1689 : decode cL_law 1689 = .ok (.iconst 1, 1) := by decide +kernel
theorem dL_law_1690 : decode cL_law 1690 = .ok (.iadd, 1) := by decide +kernel
theorem dL_law_1691 : decode cL_law 1691 = .ok (.iaload, 1) := by decide +kernel
theorem dL_law_1692 : decode cL_law 1692 = .ok (.invokevirtual 253, 3) := by decide +kernel
theorem dL_law_1695 : decode cL_law 1695 = .ok (.istore 7, 2) := by decide +kernel
theorem dL_law_1697 : decode cL_law 1697 = .ok (.aload_n 2, 1) := by decide +kernel
theorem dL_law_1698 : decode cL_law 1698 = .ok (.invokevirtual 172, 3) := by decide +kernel
theorem dL_law_1701 : decode cL_law 1701 = .ok (.iload 6, 2) := by decide +kernel
theorem dL_law_1703 : decode cL_law 1703 = .ok (.if_icmp .eq 5, 3) := by decide +kernel
theorem dL_law_1706 : decode cL_law 1706 = .ok (.iconst 0, 1) := by decide +kernel
theorem dL_law_1707 : decode cL_law 1707 = .ok (.ireturn, 1) := by decide +kernel
theorem dL_law_1708 : decode cL_law 1708 = .ok (.iload 6, 2) := by decide +kernel
theorem dL_law_1710 : decode cL_law 1710 = .ok (.ifCond .ne 15, 3) := by decide +kernel
theorem dL_law_1713 : decode cL_law 1713 = .ok (.aload_n 3, 1) := by decide +kernel
theorem dL_law_1714 : decode cL_law 1714 = .ok (.iconst 0, 1) := by decide +kernel
theorem dL_law_1715 : decode cL_law 1715 = .ok (.laload, 1) := by decide +kernel
theorem dL_law_1716 : decode cL_law 1716 = .ok (.iload 7, 2) := by decide +kernel
theorem dL_law_1718 : decode cL_law 1718 = .ok (.i2l, 1) := by decide +kernel
theorem dL_law_1719 : decode cL_law 1719 = .ok (.lcmp, 1) := by decide +kernel
theorem dL_law_1720 : decode cL_law 1720 = .ok (.ifCond .eq 5, 3) := by decide +kernel
theorem dL_law_1723 : decode cL_law 1723 = .ok (.iconst 0, 1) := by decide +kernel
theorem dL_law_1724 : decode cL_law 1724 = .ok (.ireturn, 1) := by decide +kernel
theorem dL_law_1725 : decode cL_law 1725 = .ok (.goto 1264, 3) := by decide +kernel
theorem dL_law_1728 : decode cL_law 1728 = .ok (.aload_n 1, 1) := by decide +kernel
theorem dL_law_1729 : decode cL_law 1729 = .ok (.aload_n 0, 1) := by decide +kernel
theorem dL_law_1730 : decode cL_law 1730 = .ok (.iload 5, 2) := by decide +kernel
theorem dL_law_1732 : decode cL_law 1732 = .ok (.iconst 1, 1) := by decide +kernel
theorem dL_law_1733 : decode cL_law 1733 = .ok (.iadd, 1) := by decide +kernel
theorem dL_law_1734 : decode cL_law 1734 = .ok (.iaload, 1) := by decide +kernel
theorem dL_law_1735 : decode cL_law 1735 = .ok (.aload_n 3, 1) := by decide +kernel
theorem dL_law_1736 : decode cL_law 1736 = .ok (.invokestatic 254, 3) := by decide +kernel
theorem dL_law_1739 : decode cL_law 1739 = .ok (.istore 6, 2) := by decide +kernel
theorem dL_law_1741 : decode cL_law 1741 = .ok (.aload_n 2, 1) := by decide +kernel
theorem dL_law_1742 : decode cL_law 1742 = .ok (.aload_n 0, 1) := by decide +kernel
theorem dL_law_1743 : decode cL_law 1743 = .ok (.iload 5, 2) := by decide +kernel
theorem dL_law_1745 : decode cL_law 1745 = .ok (.iconst 1, 1) := by decide +kernel
theorem dL_law_1746 : decode cL_law 1746 = .ok (.iadd, 1) := by decide +kernel
theorem dL_law_1747 : decode cL_law 1747 = .ok (.iaload, 1) := by decide +kernel
theorem dL_law_1748 : decode cL_law 1748 = .ok (.invokevirtual 256, 3) := by decide +kernel
theorem dL_law_1751 : decode cL_law 1751 = .ok (.istore 7, 2) := by decide +kernel
theorem dL_law_1753 : decode cL_law 1753 = .ok (.aload_n 2, 1) := by decide +kernel
theorem dL_law_1754 : decode cL_law 1754 = .ok (.invokevirtual 172, 3) := by decide +kernel
theorem dL_law_1757 : decode cL_law 1757 = .ok (.iload 6, 2) := by decide +kernel
theorem dL_law_1759 : decode cL_law 1759 = .ok (.if_icmp .eq 5, 3) := by decide +kernel
theorem dL_law_1762 : decode cL_law 1762 = .ok (.iconst 0, 1) := by decide +kernel
theorem dL_law_1763 : decode cL_law 1763 = .ok (.ireturn, 1) := by decide +kernel
theorem dL_law_1764 : decode cL_law 1764 = .ok (.iload 6, 2) := by decide +kernel
theorem dL_law_1766 : decode cL_law 1766 = .ok (.ifCond .ne 15, 3) := by decide +kernel
theorem dL_law_1769 : decode cL_law 1769 = .ok (.aload_n 3, 1) := by decide +kernel
theorem dL_law_1770 : decode cL_law 1770 = .ok (.iconst 0, 1) := by decide +kernel
theorem dL_law_1771 : decode cL_law 1771 = .ok (.laload, 1) := by decide +kernel
theorem dL_law_1772 : decode cL_law 1772 = .ok (.iload 7, 2) := by decide +kernel
theorem dL_law_1774 : decode cL_law 1774 = .ok (.i2l, 1) := by decide +kernel
theorem dL_law_1775 : decode cL_law 1775 = .ok (.lcmp, 1) := by decide +kernel
theorem dL_law_1776 : decode cL_law 1776 = .ok (.ifCond .eq 5, 3) := by decide +kernel
theorem dL_law_1779 : decode cL_law 1779 = .ok (.iconst 0, 1) := by decide +kernel
theorem dL_law_1780 : decode cL_law 1780 = .ok (.ireturn, 1) := by decide +kernel
theorem dL_law_1781 : decode cL_law 1781 = .ok (.goto 1208, 3) := by decide +kernel
theorem dL_law_1784 : decode cL_law 1784 = .ok (.aload_n 1, 1) := by decide +kernel
theorem dL_law_1785 : decode cL_law 1785 = .ok (.invokevirtual 257, 3) := by decide +kernel
theorem dL_law_1788 : decode cL_law 1788 = .ok (.aload_n 2, 1) := by decide +kernel
theorem dL_law_1789 : decode cL_law 1789 = .ok (.invokevirtual 260, 3) := by decide +kernel
theorem dL_law_1792 : decode cL_law 1792 = .ok (.if_icmp .eq 1197, 3) := by decide +kernel
theorem dL_law_1795 : decode cL_law 1795 = .ok (.iconst 0, 1) := by decide +kernel
theorem dL_law_1796 : decode cL_law 1796 = .ok (.ireturn, 1) := by decide +kernel
theorem dL_law_1797 : decode cL_law 1797 = .ok (.aload_n 1, 1) := by decide +kernel
theorem dL_law_1798 : decode cL_law 1798 = .ok (.aload_n 0, 1) := by decide +kernel
theorem dL_law_1799 : decode cL_law 1799 = .ok (.iload 5, 2) := by decide +kernel
theorem dL_law_1801 : decode cL_law 1801 = .ok (.iconst 1, 1) := by decide +kernel
theorem dL_law_1802 : decode cL_law 1802 = .ok (.iadd, 1) := by decide +kernel
theorem dL_law_1803 : decode cL_law 1803 = .ok (.iaload, 1) := by decide +kernel
theorem dL_law_1804 : decode cL_law 1804 = .ok (.aload_n 3, 1) := by decide +kernel
theorem dL_law_1805 : decode cL_law 1805 = .ok (.invokestatic 261, 3) := by decide +kernel
theorem dL_law_1808 : decode cL_law 1808 = .ok (.istore 6, 2) := by decide +kernel
theorem dL_law_1810 : decode cL_law 1810 = .ok (.aload_n 2, 1) := by decide +kernel
theorem dL_law_1811 : decode cL_law 1811 = .ok (.aload_n 0, 1) := by decide +kernel
theorem dL_law_1812 : decode cL_law 1812 = .ok (.iload 5, 2) := by decide +kernel
theorem dL_law_1814 : decode cL_law 1814 = .ok (.iconst 1, 1) := by decide +kernel
theorem dL_law_1815 : decode cL_law 1815 = .ok (.iadd, 1) := by decide +kernel
theorem dL_law_1816 : decode cL_law 1816 = .ok (.iaload, 1) := by decide +kernel
theorem dL_law_1817 : decode cL_law 1817 = .ok (.invokevirtual 263, 3) := by decide +kernel
theorem dL_law_1820 : decode cL_law 1820 = .ok (.istore 7, 2) := by decide +kernel
theorem dL_law_1822 : decode cL_law 1822 = .ok (.aload_n 2, 1) := by decide +kernel
theorem dL_law_1823 : decode cL_law 1823 = .ok (.invokevirtual 172, 3) := by decide +kernel
theorem dL_law_1826 : decode cL_law 1826 = .ok (.iload 6, 2) := by decide +kernel
theorem dL_law_1828 : decode cL_law 1828 = .ok (.if_icmp .eq 5, 3) := by decide +kernel
theorem dL_law_1831 : decode cL_law 1831 = .ok (.iconst 0, 1) := by decide +kernel
theorem dL_law_1832 : decode cL_law 1832 = .ok (.ireturn, 1) := by decide +kernel
theorem dL_law_1833 : decode cL_law 1833 = .ok (.iload 6, 2) := by decide +kernel
theorem dL_law_1835 : decode cL_law 1835 = .ok (.ifCond .ne 15, 3) := by decide +kernel
theorem dL_law_1838 : decode cL_law 1838 = .ok (.aload_n 3, 1) := by decide +kernel
theorem dL_law_1839 : decode cL_law 1839 = .ok (.iconst 0, 1) := by decide +kernel
theorem dL_law_1840 : decode cL_law 1840 = .ok (.laload, 1) := by decide +kernel
theorem dL_law_1841 : decode cL_law 1841 = .ok (.iload 7, 2) := by decide +kernel
theorem dL_law_1843 : decode cL_law 1843 = .ok (.i2l, 1) := by decide +kernel
theorem dL_law_1844 : decode cL_law 1844 = .ok (.lcmp, 1) := by decide +kernel
theorem dL_law_1845 : decode cL_law 1845 = .ok (.ifCond .eq 5, 3) := by decide +kernel
theorem dL_law_1848 : decode cL_law 1848 = .ok (.iconst 0, 1) := by decide +kernel
theorem dL_law_1849 : decode cL_law 1849 = .ok (.ireturn, 1) := by decide +kernel
theorem dL_law_1850 : decode cL_law 1850 = .ok (.goto 1139, 3) := by decide +kernel
theorem dL_law_1853 : decode cL_law 1853 = .ok (.aload_n 1, 1) := by decide +kernel
theorem dL_law_1854 : decode cL_law 1854 = .ok (.aload_n 0, 1) := by decide +kernel
theorem dL_law_1855 : decode cL_law 1855 = .ok (.iload 5, 2) := by decide +kernel
theorem dL_law_1857 : decode cL_law 1857 = .ok (.iconst 1, 1) := by decide +kernel
theorem dL_law_1858 : decode cL_law 1858 = .ok (.iadd, 1) := by decide +kernel
theorem dL_law_1859 : decode cL_law 1859 = .ok (.iaload, 1) := by decide +kernel
theorem dL_law_1860 : decode cL_law 1860 = .ok (.aload_n 3, 1) := by decide +kernel
theorem dL_law_1861 : decode cL_law 1861 = .ok (.invokestatic 264, 3) := by decide +kernel
theorem dL_law_1864 : decode cL_law 1864 = .ok (.istore 6, 2) := by decide +kernel
theorem dL_law_1866 : decode cL_law 1866 = .ok (.aload_n 2, 1) := by decide +kernel
theorem dL_law_1867 : decode cL_law 1867 = .ok (.aload_n 0, 1) := by decide +kernel
theorem dL_law_1868 : decode cL_law 1868 = .ok (.iload 5, 2) := by decide +kernel
theorem dL_law_1870 : decode cL_law 1870 = .ok (.iconst 1, 1) := by decide +kernel
theorem dL_law_1871 : decode cL_law 1871 = .ok (.iadd, 1) := by decide +kernel
theorem dL_law_1872 : decode cL_law 1872 = .ok (.iaload, 1) := by decide +kernel
theorem dL_law_1873 : decode cL_law 1873 = .ok (.invokevirtual 266, 3) := by decide +kernel
theorem dL_law_1876 : decode cL_law 1876 = .ok (.istore 7, 2) := by decide +kernel
theorem dL_law_1878 : decode cL_law 1878 = .ok (.aload_n 2, 1) := by decide +kernel
theorem dL_law_1879 : decode cL_law 1879 = .ok (.invokevirtual 172, 3) := by decide +kernel
theorem dL_law_1882 : decode cL_law 1882 = .ok (.iload 6, 2) := by decide +kernel
theorem dL_law_1884 : decode cL_law 1884 = .ok (.if_icmp .eq 5, 3) := by decide +kernel
theorem dL_law_1887 : decode cL_law 1887 = .ok (.iconst 0, 1) := by decide +kernel
theorem dL_law_1888 : decode cL_law 1888 = .ok (.ireturn, 1) := by decide +kernel
theorem dL_law_1889 : decode cL_law 1889 = .ok (.iload 6, 2) := by decide +kernel
theorem dL_law_1891 : decode cL_law 1891 = .ok (.ifCond .ne 15, 3) := by decide +kernel
theorem dL_law_1894 : decode cL_law 1894 = .ok (.aload_n 3, 1) := by decide +kernel
theorem dL_law_1895 : decode cL_law 1895 = .ok (.iconst 0, 1) := by decide +kernel
theorem dL_law_1896 : decode cL_law 1896 = .ok (.laload, 1) := by decide +kernel
theorem dL_law_1897 : decode cL_law 1897 = .ok (.iload 7, 2) := by decide +kernel
theorem dL_law_1899 : decode cL_law 1899 = .ok (.i2l, 1) := by decide +kernel
theorem dL_law_1900 : decode cL_law 1900 = .ok (.lcmp, 1) := by decide +kernel
theorem dL_law_1901 : decode cL_law 1901 = .ok (.ifCond .eq 5, 3) := by decide +kernel
theorem dL_law_1904 : decode cL_law 1904 = .ok (.iconst 0, 1) := by decide +kernel
theorem dL_law_1905 : decode cL_law 1905 = .ok (.ireturn, 1) := by decide +kernel
theorem dL_law_1906 : decode cL_law 1906 = .ok (.goto 1083, 3) := by decide +kernel
theorem dL_law_1909 : decode cL_law 1909 = .ok (.aload_n 1, 1) := by decide +kernel
theorem dL_law_1910 : decode cL_law 1910 = .ok (.aload_n 0, 1) := by decide +kernel
theorem dL_law_1911 : decode cL_law 1911 = .ok (.iload 5, 2) := by decide +kernel
theorem dL_law_1913 : decode cL_law 1913 = .ok (.iconst 1, 1) := by decide +kernel
theorem dL_law_1914 : decode cL_law 1914 = .ok (.iadd, 1) := by decide +kernel
theorem dL_law_1915 : decode cL_law 1915 = .ok (.iaload, 1) := by decide +kernel
theorem dL_law_1916 : decode cL_law 1916 = .ok (.aload_n 3, 1) := by decide +kernel
theorem dL_law_1917 : decode cL_law 1917 = .ok (.invokestatic 267, 3) := by decide +kernel
theorem dL_law_1920 : decode cL_law 1920 = .ok (.istore 6, 2) := by decide +kernel
theorem dL_law_1922 : decode cL_law 1922 = .ok (.aload_n 2, 1) := by decide +kernel
theorem dL_law_1923 : decode cL_law 1923 = .ok (.aload_n 0, 1) := by decide +kernel
theorem dL_law_1924 : decode cL_law 1924 = .ok (.iload 5, 2) := by decide +kernel
theorem dL_law_1926 : decode cL_law 1926 = .ok (.iconst 1, 1) := by decide +kernel
theorem dL_law_1927 : decode cL_law 1927 = .ok (.iadd, 1) := by decide +kernel
theorem dL_law_1928 : decode cL_law 1928 = .ok (.iaload, 1) := by decide +kernel
theorem dL_law_1929 : decode cL_law 1929 = .ok (.invokevirtual 269, 3) := by decide +kernel
theorem dL_law_1932 : decode cL_law 1932 = .ok (.istore 7, 2) := by decide +kernel
theorem dL_law_1934 : decode cL_law 1934 = .ok (.aload_n 2, 1) := by decide +kernel
theorem dL_law_1935 : decode cL_law 1935 = .ok (.invokevirtual 172, 3) := by decide +kernel
theorem dL_law_1938 : decode cL_law 1938 = .ok (.iload 6, 2) := by decide +kernel
theorem dL_law_1940 : decode cL_law 1940 = .ok (.if_icmp .eq 5, 3) := by decide +kernel
theorem dL_law_1943 : decode cL_law 1943 = .ok (.iconst 0, 1) := by decide +kernel
theorem dL_law_1944 : decode cL_law 1944 = .ok (.ireturn, 1) := by decide +kernel
theorem dL_law_1945 : decode cL_law 1945 = .ok (.iload 6, 2) := by decide +kernel
theorem dL_law_1947 : decode cL_law 1947 = .ok (.ifCond .ne 15, 3) := by decide +kernel
theorem dL_law_1950 : decode cL_law 1950 = .ok (.aload_n 3, 1) := by decide +kernel
theorem dL_law_1951 : decode cL_law 1951 = .ok (.iconst 0, 1) := by decide +kernel
theorem dL_law_1952 : decode cL_law 1952 = .ok (.laload, 1) := by decide +kernel
theorem dL_law_1953 : decode cL_law 1953 = .ok (.iload 7, 2) := by decide +kernel
theorem dL_law_1955 : decode cL_law 1955 = .ok (.i2l, 1) := by decide +kernel
theorem dL_law_1956 : decode cL_law 1956 = .ok (.lcmp, 1) := by decide +kernel
theorem dL_law_1957 : decode cL_law 1957 = .ok (.ifCond .eq 5, 3) := by decide +kernel
theorem dL_law_1960 : decode cL_law 1960 = .ok (.iconst 0, 1) := by decide +kernel
theorem dL_law_1961 : decode cL_law 1961 = .ok (.ireturn, 1) := by decide +kernel
theorem dL_law_1962 : decode cL_law 1962 = .ok (.goto 1027, 3) := by decide +kernel
theorem dL_law_1965 : decode cL_law 1965 = .ok (.aload_n 1, 1) := by decide +kernel
theorem dL_law_1966 : decode cL_law 1966 = .ok (.aload_n 0, 1) := by decide +kernel
theorem dL_law_1967 : decode cL_law 1967 = .ok (.iload 5, 2) := by decide +kernel
theorem dL_law_1969 : decode cL_law 1969 = .ok (.iconst 1, 1) := by decide +kernel
theorem dL_law_1970 : decode cL_law 1970 = .ok (.iadd, 1) := by decide +kernel
theorem dL_law_1971 : decode cL_law 1971 = .ok (.iaload, 1) := by decide +kernel
theorem dL_law_1972 : decode cL_law 1972 = .ok (.aload_n 3, 1) := by decide +kernel
theorem dL_law_1973 : decode cL_law 1973 = .ok (.invokestatic 270, 3) := by decide +kernel
theorem dL_law_1976 : decode cL_law 1976 = .ok (.istore 6, 2) := by decide +kernel
theorem dL_law_1978 : decode cL_law 1978 = .ok (.aload_n 2, 1) := by decide +kernel
theorem dL_law_1979 : decode cL_law 1979 = .ok (.aload_n 0, 1) := by decide +kernel
theorem dL_law_1980 : decode cL_law 1980 = .ok (.iload 5, 2) := by decide +kernel
theorem dL_law_1982 : decode cL_law 1982 = .ok (.iconst 1, 1) := by decide +kernel
theorem dL_law_1983 : decode cL_law 1983 = .ok (.iadd, 1) := by decide +kernel
theorem dL_law_1984 : decode cL_law 1984 = .ok (.iaload, 1) := by decide +kernel
theorem dL_law_1985 : decode cL_law 1985 = .ok (.invokevirtual 272, 3) := by decide +kernel
theorem dL_law_1988 : decode cL_law 1988 = .ok (.istore 7, 2) := by decide +kernel
theorem dL_law_1990 : decode cL_law 1990 = .ok (.aload_n 2, 1) := by decide +kernel
theorem dL_law_1991 : decode cL_law 1991 = .ok (.invokevirtual 172, 3) := by decide +kernel
theorem dL_law_1994 : decode cL_law 1994 = .ok (.iload 6, 2) := by decide +kernel
theorem dL_law_1996 : decode cL_law 1996 = .ok (.if_icmp .eq 5, 3) := by decide +kernel
theorem dL_law_1999 : decode cL_law 1999 = .ok (.iconst 0, 1) := by decide +kernel
theorem dL_law_2000 : decode cL_law 2000 = .ok (.ireturn, 1) := by decide +kernel
theorem dL_law_2001 : decode cL_law 2001 = .ok (.iload 6, 2) := by decide +kernel
theorem dL_law_2003 : decode cL_law 2003 = .ok (.ifCond .ne 15, 3) := by decide +kernel
theorem dL_law_2006 : decode cL_law 2006 = .ok (.aload_n 3, 1) := by decide +kernel
theorem dL_law_2007 : decode cL_law 2007 = .ok (.iconst 0, 1) := by decide +kernel
theorem dL_law_2008 : decode cL_law 2008 = .ok (.laload, 1) := by decide +kernel
theorem dL_law_2009 : decode cL_law 2009 = .ok (.iload 7, 2) := by decide +kernel
theorem dL_law_2011 : decode cL_law 2011 = .ok (.i2l, 1) := by decide +kernel
theorem dL_law_2012 : decode cL_law 2012 = .ok (.lcmp, 1) := by decide +kernel
theorem dL_law_2013 : decode cL_law 2013 = .ok (.ifCond .eq 5, 3) := by decide +kernel
theorem dL_law_2016 : decode cL_law 2016 = .ok (.iconst 0, 1) := by decide +kernel
theorem dL_law_2017 : decode cL_law 2017 = .ok (.ireturn, 1) := by decide +kernel
theorem dL_law_2018 : decode cL_law 2018 = .ok (.goto 971, 3) := by decide +kernel
theorem dL_law_2021 : decode cL_law 2021 = .ok (.aload_n 1, 1) := by decide +kernel
theorem dL_law_2022 : decode cL_law 2022 = .ok (.aload_n 0, 1) := by decide +kernel
theorem dL_law_2023 : decode cL_law 2023 = .ok (.iload 5, 2) := by decide +kernel
theorem dL_law_2025 : decode cL_law 2025 = .ok (.iconst 1, 1) := by decide +kernel
theorem dL_law_2026 : decode cL_law 2026 = .ok (.iadd, 1) := by decide +kernel
theorem dL_law_2027 : decode cL_law 2027 = .ok (.iaload, 1) := by decide +kernel
theorem dL_law_2028 : decode cL_law 2028 = .ok (.aload_n 3, 1) := by decide +kernel
theorem dL_law_2029 : decode cL_law 2029 = .ok (.invokestatic 273, 3) := by decide +kernel
theorem dL_law_2032 : decode cL_law 2032 = .ok (.istore 6, 2) := by decide +kernel
theorem dL_law_2034 : decode cL_law 2034 = .ok (.aload_n 2, 1) := by decide +kernel
theorem dL_law_2035 : decode cL_law 2035 = .ok (.aload_n 0, 1) := by decide +kernel
theorem dL_law_2036 : decode cL_law 2036 = .ok (.iload 5, 2) := by decide +kernel
theorem dL_law_2038 : decode cL_law 2038 = .ok (.iconst 1, 1) := by decide +kernel
theorem dL_law_2039 : decode cL_law 2039 = .ok (.iadd, 1) := by decide +kernel
theorem dL_law_2040 : decode cL_law 2040 = .ok (.iaload, 1) := by decide +kernel
theorem dL_law_2041 : decode cL_law 2041 = .ok (.invokevirtual 275, 3) := by decide +kernel
theorem dL_law_2044 : decode cL_law 2044 = .ok (.istore 7, 2) := by decide +kernel
theorem dL_law_2046 : decode cL_law 2046 = .ok (.aload_n 2, 1) := by decide +kernel
theorem dL_law_2047 : decode cL_law 2047 = .ok (.invokevirtual 172, 3) := by decide +kernel
theorem dL_law_2050 : decode cL_law 2050 = .ok (.iload 6, 2) := by decide +kernel
theorem dL_law_2052 : decode cL_law 2052 = .ok (.if_icmp .eq 5, 3) := by decide +kernel
theorem dL_law_2055 : decode cL_law 2055 = .ok (.iconst 0, 1) := by decide +kernel
theorem dL_law_2056 : decode cL_law 2056 = .ok (.ireturn, 1) := by decide +kernel
theorem dL_law_2057 : decode cL_law 2057 = .ok (.iload 6, 2) := by decide +kernel
theorem dL_law_2059 : decode cL_law 2059 = .ok (.ifCond .ne 22, 3) := by decide +kernel
theorem dL_law_2062 : decode cL_law 2062 = .ok (.aload_n 3, 1) := by decide +kernel
theorem dL_law_2063 : decode cL_law 2063 = .ok (.iconst 0, 1) := by decide +kernel
theorem dL_law_2064 : decode cL_law 2064 = .ok (.laload, 1) := by decide +kernel
theorem dL_law_2065 : decode cL_law 2065 = .ok (.iload 7, 2) := by decide +kernel
theorem dL_law_2067 : decode cL_law 2067 = .ok (.ifCond .eq 7, 3) := by decide +kernel
theorem dL_law_2070 : decode cL_law 2070 = .ok (.lconst 1, 1) := by decide +kernel
theorem dL_law_2071 : decode cL_law 2071 = .ok (.goto 4, 3) := by decide +kernel
theorem dL_law_2074 : decode cL_law 2074 = .ok (.lconst 0, 1) := by decide +kernel
theorem dL_law_2075 : decode cL_law 2075 = .ok (.lcmp, 1) := by decide +kernel
theorem dL_law_2076 : decode cL_law 2076 = .ok (.ifCond .eq 5, 3) := by decide +kernel
theorem dL_law_2079 : decode cL_law 2079 = .ok (.iconst 0, 1) := by decide +kernel
theorem dL_law_2080 : decode cL_law 2080 = .ok (.ireturn, 1) := by decide +kernel
theorem dL_law_2081 : decode cL_law 2081 = .ok (.goto 908, 3) := by decide +kernel
theorem dL_law_2084 : decode cL_law 2084 = .ok (.aload_n 1, 1) := by decide +kernel
theorem dL_law_2085 : decode cL_law 2085 = .ok (.aload_n 0, 1) := by decide +kernel
theorem dL_law_2086 : decode cL_law 2086 = .ok (.iload 5, 2) := by decide +kernel
theorem dL_law_2088 : decode cL_law 2088 = .ok (.iconst 1, 1) := by decide +kernel
theorem dL_law_2089 : decode cL_law 2089 = .ok (.iadd, 1) := by decide +kernel
theorem dL_law_2090 : decode cL_law 2090 = .ok (.iaload, 1) := by decide +kernel
theorem dL_law_2091 : decode cL_law 2091 = .ok (.aload_n 3, 1) := by decide +kernel
theorem dL_law_2092 : decode cL_law 2092 = .ok (.invokestatic 276, 3) := by decide +kernel
theorem dL_law_2095 : decode cL_law 2095 = .ok (.istore 6, 2) := by decide +kernel
theorem dL_law_2097 : decode cL_law 2097 = .ok (.aload_n 2, 1) := by decide +kernel
theorem dL_law_2098 : decode cL_law 2098 = .ok (.aload_n 0, 1) := by decide +kernel
theorem dL_law_2099 : decode cL_law 2099 = .ok (.iload 5, 2) := by decide +kernel
theorem dL_law_2101 : decode cL_law 2101 = .ok (.iconst 1, 1) := by decide +kernel
theorem dL_law_2102 : decode cL_law 2102 = .ok (.iadd, 1) := by decide +kernel
theorem dL_law_2103 : decode cL_law 2103 = .ok (.iaload, 1) := by decide +kernel
theorem dL_law_2104 : decode cL_law 2104 = .ok (.invokevirtual 278, 3) := by decide +kernel
theorem dL_law_2107 : decode cL_law 2107 = .ok (.istore 7, 2) := by decide +kernel
theorem dL_law_2109 : decode cL_law 2109 = .ok (.aload_n 2, 1) := by decide +kernel
theorem dL_law_2110 : decode cL_law 2110 = .ok (.invokevirtual 172, 3) := by decide +kernel
theorem dL_law_2113 : decode cL_law 2113 = .ok (.iload 6, 2) := by decide +kernel
theorem dL_law_2115 : decode cL_law 2115 = .ok (.if_icmp .eq 5, 3) := by decide +kernel
theorem dL_law_2118 : decode cL_law 2118 = .ok (.iconst 0, 1) := by decide +kernel
theorem dL_law_2119 : decode cL_law 2119 = .ok (.ireturn, 1) := by decide +kernel
theorem dL_law_2120 : decode cL_law 2120 = .ok (.iload 6, 2) := by decide +kernel
theorem dL_law_2122 : decode cL_law 2122 = .ok (.ifCond .ne 15, 3) := by decide +kernel
theorem dL_law_2125 : decode cL_law 2125 = .ok (.aload_n 3, 1) := by decide +kernel
theorem dL_law_2126 : decode cL_law 2126 = .ok (.iconst 0, 1) := by decide +kernel
theorem dL_law_2127 : decode cL_law 2127 = .ok (.laload, 1) := by decide +kernel
theorem dL_law_2128 : decode cL_law 2128 = .ok (.iload 7, 2) := by decide +kernel
theorem dL_law_2130 : decode cL_law 2130 = .ok (.i2l, 1) := by decide +kernel
theorem dL_law_2131 : decode cL_law 2131 = .ok (.lcmp, 1) := by decide +kernel
theorem dL_law_2132 : decode cL_law 2132 = .ok (.ifCond .eq 5, 3) := by decide +kernel
theorem dL_law_2135 : decode cL_law 2135 = .ok (.iconst 0, 1) := by decide +kernel
theorem dL_law_2136 : decode cL_law 2136 = .ok (.ireturn, 1) := by decide +kernel
theorem dL_law_2137 : decode cL_law 2137 = .ok (.goto 852, 3) := by decide +kernel
theorem dL_law_2140 : decode cL_law 2140 = .ok (.aload_n 1, 1) := by decide +kernel
theorem dL_law_2141 : decode cL_law 2141 = .ok (.aload_n 0, 1) := by decide +kernel
theorem dL_law_2142 : decode cL_law 2142 = .ok (.iload 5, 2) := by decide +kernel
theorem dL_law_2144 : decode cL_law 2144 = .ok (.iconst 1, 1) := by decide +kernel
theorem dL_law_2145 : decode cL_law 2145 = .ok (.iadd, 1) := by decide +kernel
theorem dL_law_2146 : decode cL_law 2146 = .ok (.iaload, 1) := by decide +kernel
theorem dL_law_2147 : decode cL_law 2147 = .ok (.aload_n 3, 1) := by decide +kernel
theorem dL_law_2148 : decode cL_law 2148 = .ok (.invokestatic 279, 3) := by decide +kernel
theorem dL_law_2151 : decode cL_law 2151 = .ok (.istore 6, 2) := by decide +kernel
theorem dL_law_2153 : decode cL_law 2153 = .ok (.aload_n 2, 1) := by decide +kernel
theorem dL_law_2154 : decode cL_law 2154 = .ok (.aload_n 0, 1) := by decide +kernel
theorem dL_law_2155 : decode cL_law 2155 = .ok (.iload 5, 2) := by decide +kernel
theorem dL_law_2157 : decode cL_law 2157 = .ok (.iconst 1, 1) := by decide +kernel
theorem dL_law_2158 : decode cL_law 2158 = .ok (.iadd, 1) := by decide +kernel
theorem dL_law_2159 : decode cL_law 2159 = .ok (.iaload, 1) := by decide +kernel
theorem dL_law_2160 : decode cL_law 2160 = .ok (.invokevirtual 281, 3) := by decide +kernel
theorem dL_law_2163 : decode cL_law 2163 = .ok (.istore 7, 2) := by decide +kernel
theorem dL_law_2165 : decode cL_law 2165 = .ok (.aload_n 2, 1) := by decide +kernel
theorem dL_law_2166 : decode cL_law 2166 = .ok (.invokevirtual 172, 3) := by decide +kernel
theorem dL_law_2169 : decode cL_law 2169 = .ok (.iload 6, 2) := by decide +kernel
theorem dL_law_2171 : decode cL_law 2171 = .ok (.if_icmp .eq 5, 3) := by decide +kernel
theorem dL_law_2174 : decode cL_law 2174 = .ok (.iconst 0, 1) := by decide +kernel
theorem dL_law_2175 : decode cL_law 2175 = .ok (.ireturn, 1) := by decide +kernel
theorem dL_law_2176 : decode cL_law 2176 = .ok (.iload 6, 2) := by decide +kernel
theorem dL_law_2178 : decode cL_law 2178 = .ok (.ifCond .ne 15, 3) := by decide +kernel
theorem dL_law_2181 : decode cL_law 2181 = .ok (.aload_n 3, 1) := by decide +kernel
theorem dL_law_2182 : decode cL_law 2182 = .ok (.iconst 0, 1) := by decide +kernel
theorem dL_law_2183 : decode cL_law 2183 = .ok (.laload, 1) := by decide +kernel
theorem dL_law_2184 : decode cL_law 2184 = .ok (.iload 7, 2) := by decide +kernel
theorem dL_law_2186 : decode cL_law 2186 = .ok (.i2l, 1) := by decide +kernel
theorem dL_law_2187 : decode cL_law 2187 = .ok (.lcmp, 1) := by decide +kernel
theorem dL_law_2188 : decode cL_law 2188 = .ok (.ifCond .eq 5, 3) := by decide +kernel
theorem dL_law_2191 : decode cL_law 2191 = .ok (.iconst 0, 1) := by decide +kernel
theorem dL_law_2192 : decode cL_law 2192 = .ok (.ireturn, 1) := by decide +kernel
theorem dL_law_2193 : decode cL_law 2193 = .ok (.goto 796, 3) := by decide +kernel
theorem dL_law_2196 : decode cL_law 2196 = .ok (.aload_n 1, 1) := by decide +kernel
theorem dL_law_2197 : decode cL_law 2197 = .ok (.aload_n 0, 1) := by decide +kernel
theorem dL_law_2198 : decode cL_law 2198 = .ok (.iload 5, 2) := by decide +kernel
theorem dL_law_2200 : decode cL_law 2200 = .ok (.iconst 1, 1) := by decide +kernel
theorem dL_law_2201 : decode cL_law 2201 = .ok (.iadd, 1) := by decide +kernel
theorem dL_law_2202 : decode cL_law 2202 = .ok (.iaload, 1) := by decide +kernel
theorem dL_law_2203 : decode cL_law 2203 = .ok (.aload_n 3, 1) := by decide +kernel
theorem dL_law_2204 : decode cL_law 2204 = .ok (.invokestatic 282, 3) := by decide +kernel
theorem dL_law_2207 : decode cL_law 2207 = .ok (.istore 6, 2) := by decide +kernel
theorem dL_law_2209 : decode cL_law 2209 = .ok (.aload_n 2, 1) := by decide +kernel
theorem dL_law_2210 : decode cL_law 2210 = .ok (.aload_n 0, 1) := by decide +kernel
theorem dL_law_2211 : decode cL_law 2211 = .ok (.iload 5, 2) := by decide +kernel
theorem dL_law_2213 : decode cL_law 2213 = .ok (.iconst 1, 1) := by decide +kernel
theorem dL_law_2214 : decode cL_law 2214 = .ok (.iadd, 1) := by decide +kernel
theorem dL_law_2215 : decode cL_law 2215 = .ok (.iaload, 1) := by decide +kernel
theorem dL_law_2216 : decode cL_law 2216 = .ok (.invokevirtual 284, 3) := by decide +kernel
theorem dL_law_2219 : decode cL_law 2219 = .ok (.istore 7, 2) := by decide +kernel
theorem dL_law_2221 : decode cL_law 2221 = .ok (.aload_n 2, 1) := by decide +kernel
theorem dL_law_2222 : decode cL_law 2222 = .ok (.invokevirtual 172, 3) := by decide +kernel
theorem dL_law_2225 : decode cL_law 2225 = .ok (.iload 6, 2) := by decide +kernel
theorem dL_law_2227 : decode cL_law 2227 = .ok (.if_icmp .eq 5, 3) := by decide +kernel
theorem dL_law_2230 : decode cL_law 2230 = .ok (.iconst 0, 1) := by decide +kernel
theorem dL_law_2231 : decode cL_law 2231 = .ok (.ireturn, 1) := by decide +kernel
theorem dL_law_2232 : decode cL_law 2232 = .ok (.iload 6, 2) := by decide +kernel
theorem dL_law_2234 : decode cL_law 2234 = .ok (.ifCond .ne 15, 3) := by decide +kernel
theorem dL_law_2237 : decode cL_law 2237 = .ok (.aload_n 3, 1) := by decide +kernel
theorem dL_law_2238 : decode cL_law 2238 = .ok (.iconst 0, 1) := by decide +kernel
theorem dL_law_2239 : decode cL_law 2239 = .ok (.laload, 1) := by decide +kernel
theorem dL_law_2240 : decode cL_law 2240 = .ok (.iload 7, 2) := by decide +kernel
theorem dL_law_2242 : decode cL_law 2242 = .ok (.i2l, 1) := by decide +kernel
theorem dL_law_2243 : decode cL_law 2243 = .ok (.lcmp, 1) := by decide +kernel
theorem dL_law_2244 : decode cL_law 2244 = .ok (.ifCond .eq 5, 3) := by decide +kernel
theorem dL_law_2247 : decode cL_law 2247 = .ok (.iconst 0, 1) := by decide +kernel
theorem dL_law_2248 : decode cL_law 2248 = .ok (.ireturn, 1) := by decide +kernel
theorem dL_law_2249 : decode cL_law 2249 = .ok (.goto 740, 3) := by decide +kernel
theorem dL_law_2252 : decode cL_law 2252 = .ok (.aload_n 1, 1) := by decide +kernel
theorem dL_law_2253 : decode cL_law 2253 = .ok (.invokevirtual 285, 3) := by decide +kernel
theorem dL_law_2256 : decode cL_law 2256 = .ok (.aload_n 2, 1) := by decide +kernel
theorem dL_law_2257 : decode cL_law 2257 = .ok (.invokevirtual 288, 3) := by decide +kernel
theorem dL_law_2260 : decode cL_law 2260 = .ok (.if_icmp .eq 729, 3) := by decide +kernel
theorem dL_law_2263 : decode cL_law 2263 = .ok (.iconst 0, 1) := by decide +kernel
theorem dL_law_2264 : decode cL_law 2264 = .ok (.ireturn, 1) := by decide +kernel
theorem dL_law_2265 : decode cL_law 2265 = .ok (.aload_n 1, 1) := by decide +kernel
theorem dL_law_2266 : decode cL_law 2266 = .ok (.invokevirtual 289, 3) := by decide +kernel
theorem dL_law_2269 : decode cL_law 2269 = .ok (.aload_n 2, 1) := by decide +kernel
theorem dL_law_2270 : decode cL_law 2270 = .ok (.invokevirtual 292, 3) := by decide +kernel
theorem dL_law_2273 : decode cL_law 2273 = .ok (.if_icmp .eq 716, 3) := by decide +kernel
theorem dL_law_2276 : decode cL_law 2276 = .ok (.iconst 0, 1) := by decide +kernel
theorem dL_law_2277 : decode cL_law 2277 = .ok (.ireturn, 1) := by decide +kernel
theorem dL_law_2278 : decode cL_law 2278 = .ok (.aload_n 1, 1) := by decide +kernel
theorem dL_law_2279 : decode cL_law 2279 = .ok (.aload_n 0, 1) := by decide +kernel
theorem dL_law_2280 : decode cL_law 2280 = .ok (.iload 5, 2) := by decide +kernel
theorem dL_law_2282 : decode cL_law 2282 = .ok (.iconst 1, 1) := by decide +kernel
theorem dL_law_2283 : decode cL_law 2283 = .ok (.iadd, 1) := by decide +kernel
theorem dL_law_2284 : decode cL_law 2284 = .ok (.iaload, 1) := by decide +kernel
theorem dL_law_2285 : decode cL_law 2285 = .ok (.aload_n 3, 1) := by decide +kernel
theorem dL_law_2286 : decode cL_law 2286 = .ok (.invokestatic 293, 3) := by decide +kernel
theorem dL_law_2289 : decode cL_law 2289 = .ok (.istore 6, 2) := by decide +kernel
theorem dL_law_2291 : decode cL_law 2291 = .ok (.aload_n 2, 1) := by decide +kernel
theorem dL_law_2292 : decode cL_law 2292 = .ok (.aload_n 0, 1) := by decide +kernel
theorem dL_law_2293 : decode cL_law 2293 = .ok (.iload 5, 2) := by decide +kernel
theorem dL_law_2295 : decode cL_law 2295 = .ok (.iconst 1, 1) := by decide +kernel
theorem dL_law_2296 : decode cL_law 2296 = .ok (.iadd, 1) := by decide +kernel
theorem dL_law_2297 : decode cL_law 2297 = .ok (.iaload, 1) := by decide +kernel
theorem dL_law_2298 : decode cL_law 2298 = .ok (.invokevirtual 295, 3) := by decide +kernel
theorem dL_law_2301 : decode cL_law 2301 = .ok (.istore 7, 2) := by decide +kernel
theorem dL_law_2303 : decode cL_law 2303 = .ok (.aload_n 2, 1) := by decide +kernel
theorem dL_law_2304 : decode cL_law 2304 = .ok (.invokevirtual 172, 3) := by decide +kernel
theorem dL_law_2307 : decode cL_law 2307 = .ok (.iload 6, 2) := by decide +kernel
theorem dL_law_2309 : decode cL_law 2309 = .ok (.if_icmp .eq 5, 3) := by decide +kernel
theorem dL_law_2312 : decode cL_law 2312 = .ok (.iconst 0, 1) := by decide +kernel
theorem dL_law_2313 : decode cL_law 2313 = .ok (.ireturn, 1) := by decide +kernel
theorem dL_law_2314 : decode cL_law 2314 = .ok (.iload 6, 2) := by decide +kernel
theorem dL_law_2316 : decode cL_law 2316 = .ok (.ifCond .ne 15, 3) := by decide +kernel
theorem dL_law_2319 : decode cL_law 2319 = .ok (.aload_n 3, 1) := by decide +kernel
theorem dL_law_2320 : decode cL_law 2320 = .ok (.iconst 0, 1) := by decide +kernel
theorem dL_law_2321 : decode cL_law 2321 = .ok (.laload, 1) := by decide +kernel
theorem dL_law_2322 : decode cL_law 2322 = .ok (.iload 7, 2) := by decide +kernel
theorem dL_law_2324 : decode cL_law 2324 = .ok (.i2l, 1) := by decide +kernel
theorem dL_law_2325 : decode cL_law 2325 = .ok (.lcmp, 1) := by decide +kernel
theorem dL_law_2326 : decode cL_law 2326 = .ok (.ifCond .eq 5, 3) := by decide +kernel
theorem dL_law_2329 : decode cL_law 2329 = .ok (.iconst 0, 1) := by decide +kernel
theorem dL_law_2330 : decode cL_law 2330 = .ok (.ireturn, 1) := by decide +kernel
theorem dL_law_2331 : decode cL_law 2331 = .ok (.goto 658, 3) := by decide +kernel
theorem dL_law_2334 : decode cL_law 2334 = .ok (.aload_n 1, 1) := by decide +kernel
theorem dL_law_2335 : decode cL_law 2335 = .ok (.invokevirtual 296, 3) := by decide +kernel
theorem dL_law_2338 : decode cL_law 2338 = .ok (.aload_n 2, 1) := by decide +kernel
theorem dL_law_2339 : decode cL_law 2339 = .ok (.invokevirtual 299, 3) := by decide +kernel
theorem dL_law_2342 : decode cL_law 2342 = .ok (.if_icmp .eq 647, 3) := by decide +kernel
theorem dL_law_2345 : decode cL_law 2345 = .ok (.iconst 0, 1) := by decide +kernel
theorem dL_law_2346 : decode cL_law 2346 = .ok (.ireturn, 1) := by decide +kernel
theorem dL_law_2347 : decode cL_law 2347 = .ok (.aload_n 1, 1) := by decide +kernel
theorem dL_law_2348 : decode cL_law 2348 = .ok (.invokevirtual 300, 3) := by decide +kernel
theorem dL_law_2351 : decode cL_law 2351 = .ok (.aload_n 2, 1) := by decide +kernel
theorem dL_law_2352 : decode cL_law 2352 = .ok (.invokevirtual 303, 3) := by decide +kernel
theorem dL_law_2355 : decode cL_law 2355 = .ok (.if_icmp .eq 634, 3) := by decide +kernel
theorem dL_law_2358 : decode cL_law 2358 = .ok (.iconst 0, 1) := by decide +kernel
theorem dL_law_2359 : decode cL_law 2359 = .ok (.ireturn, 1) := by decide +kernel
theorem dL_law_2360 : decode cL_law 2360 = .ok (.aload_n 1, 1) := by decide +kernel
theorem dL_law_2361 : decode cL_law 2361 = .ok (.aload_n 0, 1) := by decide +kernel
theorem dL_law_2362 : decode cL_law 2362 = .ok (.iload 5, 2) := by decide +kernel
theorem dL_law_2364 : decode cL_law 2364 = .ok (.iconst 1, 1) := by decide +kernel
theorem dL_law_2365 : decode cL_law 2365 = .ok (.iadd, 1) := by decide +kernel
theorem dL_law_2366 : decode cL_law 2366 = .ok (.iaload, 1) := by decide +kernel
theorem dL_law_2367 : decode cL_law 2367 = .ok (.aload_n 3, 1) := by decide +kernel
theorem dL_law_2368 : decode cL_law 2368 = .ok (.invokestatic 304, 3) := by decide +kernel
theorem dL_law_2371 : decode cL_law 2371 = .ok (.istore 6, 2) := by decide +kernel
theorem dL_law_2373 : decode cL_law 2373 = .ok (.aload_n 2, 1) := by decide +kernel
theorem dL_law_2374 : decode cL_law 2374 = .ok (.aload_n 0, 1) := by decide +kernel
theorem dL_law_2375 : decode cL_law 2375 = .ok (.iload 5, 2) := by decide +kernel
theorem dL_law_2377 : decode cL_law 2377 = .ok (.iconst 1, 1) := by decide +kernel
theorem dL_law_2378 : decode cL_law 2378 = .ok (.iadd, 1) := by decide +kernel
theorem dL_law_2379 : decode cL_law 2379 = .ok (.iaload, 1) := by decide +kernel
theorem dL_law_2380 : decode cL_law 2380 = .ok (.invokevirtual 306, 3) := by decide +kernel
theorem dL_law_2383 : decode cL_law 2383 = .ok (.istore 7, 2) := by decide +kernel
theorem dL_law_2385 : decode cL_law 2385 = .ok (.aload_n 2, 1) := by decide +kernel
theorem dL_law_2386 : decode cL_law 2386 = .ok (.invokevirtual 172, 3) := by decide +kernel
theorem dL_law_2389 : decode cL_law 2389 = .ok (.iload 6, 2) := by decide +kernel
theorem dL_law_2391 : decode cL_law 2391 = .ok (.if_icmp .eq 5, 3) := by decide +kernel
theorem dL_law_2394 : decode cL_law 2394 = .ok (.iconst 0, 1) := by decide +kernel
theorem dL_law_2395 : decode cL_law 2395 = .ok (.ireturn, 1) := by decide +kernel
theorem dL_law_2396 : decode cL_law 2396 = .ok (.iload 6, 2) := by decide +kernel
theorem dL_law_2398 : decode cL_law 2398 = .ok (.ifCond .ne 15, 3) := by decide +kernel
theorem dL_law_2401 : decode cL_law 2401 = .ok (.aload_n 3, 1) := by decide +kernel
theorem dL_law_2402 : decode cL_law 2402 = .ok (.iconst 0, 1) := by decide +kernel
theorem dL_law_2403 : decode cL_law 2403 = .ok (.laload, 1) := by decide +kernel
theorem dL_law_2404 : decode cL_law 2404 = .ok (.iload 7, 2) := by decide +kernel
theorem dL_law_2406 : decode cL_law 2406 = .ok (.i2l, 1) := by decide +kernel
theorem dL_law_2407 : decode cL_law 2407 = .ok (.lcmp, 1) := by decide +kernel
theorem dL_law_2408 : decode cL_law 2408 = .ok (.ifCond .eq 5, 3) := by decide +kernel
theorem dL_law_2411 : decode cL_law 2411 = .ok (.iconst 0, 1) := by decide +kernel
theorem dL_law_2412 : decode cL_law 2412 = .ok (.ireturn, 1) := by decide +kernel
theorem dL_law_2413 : decode cL_law 2413 = .ok (.goto 576, 3) := by decide +kernel
theorem dL_law_2416 : decode cL_law 2416 = .ok (.aload_n 1, 1) := by decide +kernel
theorem dL_law_2417 : decode cL_law 2417 = .ok (.aload 4, 2) := by decide +kernel
theorem dL_law_2419 : decode cL_law 2419 = .ok (.invokestatic 307, 3) := by decide +kernel
theorem dL_law_2422 : decode cL_law 2422 = .ok (.istore 6, 2) := by decide +kernel
theorem dL_law_2424 : decode cL_law 2424 = .ok (.aload_n 2, 1) := by decide +kernel
theorem dL_law_2425 : decode cL_law 2425 = .ok (.invokevirtual 310, 3) := by decide +kernel
theorem dL_law_2428 : decode cL_law 2428 = .ok (.dstore 7, 2) := by decide +kernel
theorem dL_law_2430 : decode cL_law 2430 = .ok (.aload_n 2, 1) := by decide +kernel
theorem dL_law_2431 : decode cL_law 2431 = .ok (.invokevirtual 172, 3) := by decide +kernel
theorem dL_law_2434 : decode cL_law 2434 = .ok (.iload 6, 2) := by decide +kernel
theorem dL_law_2436 : decode cL_law 2436 = .ok (.if_icmp .eq 5, 3) := by decide +kernel
theorem dL_law_2439 : decode cL_law 2439 = .ok (.iconst 0, 1) := by decide +kernel
theorem dL_law_2440 : decode cL_law 2440 = .ok (.ireturn, 1) := by decide +kernel
theorem dL_law_2441 : decode cL_law 2441 = .ok (.iload 6, 2) := by decide +kernel
theorem dL_law_2443 : decode cL_law 2443 = .ok (.ifCond .ne 35, 3) := by decide +kernel
theorem dL_law_2446 : decode cL_law 2446 = .ok (.aload 4, 2) := by decide +kernel
theorem dL_law_2448 : decode cL_law 2448 = .ok (.iconst 0, 1) := by decide +kernel
theorem dL_law_2449 : decode cL_law 2449 = .ok (.daload, 1) := by decide +kernel
theorem dL_law_2450 : decode cL_law 2450 = .ok (.dload 7, 2) := by decide +kernel
theorem dL_law_2452 : decode cL_law 2452 = .ok (.dcmp .l, 1) := by decide +kernel
theorem dL_law_2453 : decode cL_law 2453 = .ok (.ifCond .eq 25, 3) := by decide +kernel
theorem dL_law_2456 : decode cL_law 2456 = .ok (.aload 4, 2) := by decide +kernel
theorem dL_law_2458 : decode cL_law 2458 = .ok (.iconst 0, 1) := by decide +kernel
theorem dL_law_2459 : decode cL_law 2459 = .ok (.daload, 1) := by decide +kernel
theorem dL_law_2460 : decode cL_law 2460 = .ok (.aload 4, 2) := by decide +kernel
theorem dL_law_2462 : decode cL_law 2462 = .ok (.iconst 0, 1) := by decide +kernel
theorem dL_law_2463 : decode cL_law 2463 = .ok (.daload, 1) := by decide +kernel
theorem dL_law_2464 : decode cL_law 2464 = .ok (.dcmp .l, 1) := by decide +kernel
theorem dL_law_2465 : decode cL_law 2465 = .ok (.ifCond .eq 11, 3) := by decide +kernel
theorem dL_law_2468 : decode cL_law 2468 = .ok (.dload 7, 2) := by decide +kernel
theorem dL_law_2470 : decode cL_law 2470 = .ok (.dload 7, 2) := by decide +kernel
theorem dL_law_2472 : decode cL_law 2472 = .ok (.dcmp .l, 1) := by decide +kernel
theorem dL_law_2473 : decode cL_law 2473 = .ok (.ifCond .ne 5, 3) := by decide +kernel
theorem dL_law_2476 : decode cL_law 2476 = .ok (.iconst 0, 1) := by decide +kernel
theorem dL_law_2477 : decode cL_law 2477 = .ok (.ireturn, 1) := by decide +kernel
theorem dL_law_2478 : decode cL_law 2478 = .ok (.goto 511, 3) := by decide +kernel
theorem dL_law_2481 : decode cL_law 2481 = .ok (.aload_n 1, 1) := by decide +kernel
theorem dL_law_2482 : decode cL_law 2482 = .ok (.aload 4, 2) := by decide +kernel
theorem dL_law_2484 : decode cL_law 2484 = .ok (.invokestatic 311, 3) := by decide +kernel
theorem dL_law_2487 : decode cL_law 2487 = .ok (.istore 6, 2) := by decide +kernel
theorem dL_law_2489 : decode cL_law 2489 = .ok (.aload_n 2, 1) := by decide +kernel
theorem dL_law_2490 : decode cL_law 2490 = .ok (.invokevirtual 313, 3) := by decide +kernel
theorem dL_law_2493 : decode cL_law 2493 = .ok (.fstore 7, 2) := by decide +kernel
theorem dL_law_2495 : decode cL_law 2495 = .ok (.aload_n 2, 1) := by decide +kernel
theorem dL_law_2496 : decode cL_law 2496 = .ok (.invokevirtual 172, 3) := by decide +kernel
theorem dL_law_2499 : decode cL_law 2499 = .ok (.iload 6, 2) := by decide +kernel
theorem dL_law_2501 : decode cL_law 2501 = .ok (.if_icmp .eq 5, 3) := by decide +kernel
theorem dL_law_2504 : decode cL_law 2504 = .ok (.iconst 0, 1) := by decide +kernel
theorem dL_law_2505 : decode cL_law 2505 = .ok (.ireturn, 1) := by decide +kernel
theorem dL_law_2506 : decode cL_law 2506 = .ok (.iload 6, 2) := by decide +kernel
theorem dL_law_2508 : decode cL_law 2508 = .ok (.ifCond .ne 36, 3) := by decide +kernel
theorem dL_law_2511 : decode cL_law 2511 = .ok (.aload 4, 2) := by decide +kernel
theorem dL_law_2513 : decode cL_law 2513 = .ok (.iconst 0, 1) := by decide +kernel
theorem dL_law_2514 : decode cL_law 2514 = .ok (.daload, 1) := by decide +kernel
theorem dL_law_2515 : decode cL_law 2515 = .ok (.fload 7, 2) := by decide +kernel
theorem dL_law_2517 : decode cL_law 2517 = .ok (.f2d, 1) := by decide +kernel
theorem dL_law_2518 : decode cL_law 2518 = .ok (.dcmp .l, 1) := by decide +kernel
theorem dL_law_2519 : decode cL_law 2519 = .ok (.ifCond .eq 25, 3) := by decide +kernel
theorem dL_law_2522 : decode cL_law 2522 = .ok (.aload 4, 2) := by decide +kernel
theorem dL_law_2524 : decode cL_law 2524 = .ok (.iconst 0, 1) := by decide +kernel
theorem dL_law_2525 : decode cL_law 2525 = .ok (.daload, 1) := by decide +kernel
theorem dL_law_2526 : decode cL_law 2526 = .ok (.aload 4, 2) := by decide +kernel
theorem dL_law_2528 : decode cL_law 2528 = .ok (.iconst 0, 1) := by decide +kernel
theorem dL_law_2529 : decode cL_law 2529 = .ok (.daload, 1) := by decide +kernel
theorem dL_law_2530 : decode cL_law 2530 = .ok (.dcmp .l, 1) := by decide +kernel
theorem dL_law_2531 : decode cL_law 2531 = .ok (.ifCond .eq 11, 3) := by decide +kernel
theorem dL_law_2534 : decode cL_law 2534 = .ok (.fload 7, 2) := by decide +kernel
theorem dL_law_2536 : decode cL_law 2536 = .ok (.fload 7, 2) := by decide +kernel
theorem dL_law_2538 : decode cL_law 2538 = .ok (.fcmp .l, 1) := by decide +kernel
theorem dL_law_2539 : decode cL_law 2539 = .ok (.ifCond .ne 5, 3) := by decide +kernel
theorem dL_law_2542 : decode cL_law 2542 = .ok (.iconst 0, 1) := by decide +kernel
theorem dL_law_2543 : decode cL_law 2543 = .ok (.ireturn, 1) := by decide +kernel
theorem dL_law_2544 : decode cL_law 2544 = .ok (.goto 445, 3) := by decide +kernel
theorem dL_law_2547 : decode cL_law 2547 = .ok (.aload_n 1, 1) := by decide +kernel
theorem dL_law_2548 : decode cL_law 2548 = .ok (.aload_n 0, 1) := by decide +kernel
theorem dL_law_2549 : decode cL_law 2549 = .ok (.iload 5, 2) := by decide +kernel
theorem dL_law_2551 : decode cL_law 2551 = .ok (.iconst 1, 1) := by decide +kernel
theorem dL_law_2552 : decode cL_law 2552 = .ok (.iadd, 1) := by decide +kernel
theorem dL_law_2553 : decode cL_law 2553 = .ok (.iaload, 1) := by decide +kernel
theorem dL_law_2554 : decode cL_law 2554 = .ok (.aload_n 3, 1) := by decide +kernel
theorem dL_law_2555 : decode cL_law 2555 = .ok (.invokestatic 314, 3) := by decide +kernel
theorem dL_law_2558 : decode cL_law 2558 = .ok (.istore 6, 2) := by decide +kernel
theorem dL_law_2560 : decode cL_law 2560 = .ok (.aload_n 2, 1) := by decide +kernel
theorem dL_law_2561 : decode cL_law 2561 = .ok (.aload_n 0, 1) := by decide +kernel
theorem dL_law_2562 : decode cL_law 2562 = .ok (.iload 5, 2) := by decide +kernel
theorem dL_law_2564 : decode cL_law 2564 = .ok (.iconst 1, 1) := by decide +kernel
theorem dL_law_2565 : decode cL_law 2565 = .ok (.iadd, 1) := by decide +kernel
theorem dL_law_2566 : decode cL_law 2566 = .ok (.iaload, 1) := by decide +kernel
theorem dL_law_2567 : decode cL_law 2567 = .ok (.invokevirtual 316, 3) := by decide +kernel
theorem dL_law_2570 : decode cL_law 2570 = .ok (.istore 7, 2) := by decide +kernel
theorem dL_law_2572 : decode cL_law 2572 = .ok (.aload_n 2, 1) := by decide +kernel
theorem dL_law_2573 : decode cL_law 2573 = .ok (.invokevirtual 172, 3) := by decide +kernel
theorem dL_law_2576 : decode cL_law 2576 = .ok (.iload 6, 2) := by decide +kernel
theorem dL_law_2578 : decode cL_law 2578 = .ok (.if_icmp .eq 5, 3) := by decide +kernel
theorem dL_law_2581 : decode cL_law 2581 = .ok (.iconst 0, 1) := by decide +kernel
theorem dL_law_2582 : decode cL_law 2582 = .ok (.ireturn, 1) := by decide +kernel
theorem dL_law_2583 : decode cL_law 2583 = .ok (.iload 6, 2) := by decide +kernel
theorem dL_law_2585 : decode cL_law 2585 = .ok (.ifCond .ne 15, 3) := by decide +kernel
theorem dL_law_2588 : decode cL_law 2588 = .ok (.aload_n 3, 1) := by decide +kernel
theorem dL_law_2589 : decode cL_law 2589 = .ok (.iconst 0, 1) := by decide +kernel
theorem dL_law_2590 : decode cL_law 2590 = .ok (.laload, 1) := by decide +kernel
theorem dL_law_2591 : decode cL_law 2591 = .ok (.iload 7, 2) := by decide +kernel
theorem dL_law_2593 : decode cL_law 2593 = .ok (.i2l, 1) := by decide +kernel
theorem dL_law_2594 : decode cL_law 2594 = .ok (.lcmp, 1) := by decide +kernel
theorem dL_law_2595 : decode cL_law 2595 = .ok (.ifCond .eq 5, 3) := by decide +kernel
theorem dL_law_2598 : decode cL_law 2598 = .ok (.iconst 0, 1) := by decide +kernel
theorem dL_law_2599 : decode cL_law 2599 = .ok (.ireturn, 1) := by decide +kernel
theorem dL_law_2600 : decode cL_law 2600 = .ok (.goto 389, 3) := by decide +kernel
theorem dL_law_2603 : decode cL_law 2603 = .ok (.aload_n 1, 1) := by decide +kernel
theorem dL_law_2604 : decode cL_law 2604 = .ok (.invokevirtual 317, 3) := by decide +kernel
theorem dL_law_2607 : decode cL_law 2607 = .ok (.aload_n 2, 1) := by decide +kernel
theorem dL_law_2608 : decode cL_law 2608 = .ok (.invokevirtual 320, 3) := by decide +kernel
theorem dL_law_2611 : decode cL_law 2611 = .ok (.if_icmp .eq 378, 3) := by decide +kernel
theorem dL_law_2614 : decode cL_law 2614 = .ok (.iconst 0, 1) := by decide +kernel
theorem dL_law_2615 : decode cL_law 2615 = .ok (.ireturn, 1) := by decide +kernel
theorem dL_law_2616 : decode cL_law 2616 = .ok (.aload_n 1, 1) := by decide +kernel
theorem dL_law_2617 : decode cL_law 2617 = .ok (.aload_n 0, 1) := by decide +kernel
theorem dL_law_2618 : decode cL_law 2618 = .ok (.iload 5, 2) := by decide +kernel
theorem dL_law_2620 : decode cL_law 2620 = .ok (.iconst 1, 1) := by decide +kernel
theorem dL_law_2621 : decode cL_law 2621 = .ok (.iadd, 1) := by decide +kernel
theorem dL_law_2622 : decode cL_law 2622 = .ok (.iaload, 1) := by decide +kernel
theorem dL_law_2623 : decode cL_law 2623 = .ok (.aload_n 3, 1) := by decide +kernel
theorem dL_law_2624 : decode cL_law 2624 = .ok (.invokestatic 321, 3) := by decide +kernel
theorem dL_law_2627 : decode cL_law 2627 = .ok (.istore 6, 2) := by decide +kernel
theorem dL_law_2629 : decode cL_law 2629 = .ok (.aload_n 2, 1) := by decide +kernel
theorem dL_law_2630 : decode cL_law 2630 = .ok (.aload_n 0, 1) := by decide +kernel
theorem dL_law_2631 : decode cL_law 2631 = .ok (.iload 5, 2) := by decide +kernel
theorem dL_law_2633 : decode cL_law 2633 = .ok (.iconst 1, 1) := by decide +kernel
theorem dL_law_2634 : decode cL_law 2634 = .ok (.iadd, 1) := by decide +kernel
theorem dL_law_2635 : decode cL_law 2635 = .ok (.iaload, 1) := by decide +kernel
theorem dL_law_2636 : decode cL_law 2636 = .ok (.invokevirtual 323, 3) := by decide +kernel
theorem dL_law_2639 : decode cL_law 2639 = .ok (.istore 7, 2) := by decide +kernel
theorem dL_law_2641 : decode cL_law 2641 = .ok (.aload_n 2, 1) := by decide +kernel
theorem dL_law_2642 : decode cL_law 2642 = .ok (.invokevirtual 172, 3) := by decide +kernel
theorem dL_law_2645 : decode cL_law 2645 = .ok (.iload 6, 2) := by decide +kernel
theorem dL_law_2647 : decode cL_law 2647 = .ok (.if_icmp .eq 5, 3) := by decide +kernel
theorem dL_law_2650 : decode cL_law 2650 = .ok (.iconst 0, 1) := by decide +kernel
theorem dL_law_2651 : decode cL_law 2651 = .ok (.ireturn, 1) := by decide +kernel
theorem dL_law_2652 : decode cL_law 2652 = .ok (.iload 6, 2) := by decide +kernel
theorem dL_law_2654 : decode cL_law 2654 = .ok (.ifCond .ne 15, 3) := by decide +kernel
theorem dL_law_2657 : decode cL_law 2657 = .ok (.aload_n 3, 1) := by decide +kernel
theorem dL_law_2658 : decode cL_law 2658 = .ok (.iconst 0, 1) := by decide +kernel
theorem dL_law_2659 : decode cL_law 2659 = .ok (.laload, 1) := by decide +kernel
theorem dL_law_2660 : decode cL_law 2660 = .ok (.iload 7, 2) := by decide +kernel
theorem dL_law_2662 : decode cL_law 2662 = .ok (.i2l, 1) := by decide +kernel
theorem dL_law_2663 : decode cL_law 2663 = .ok (.lcmp, 1) := by decide +kernel
theorem dL_law_2664 : decode cL_law 2664 = .ok (.ifCond .eq 5, 3) := by decide +kernel
theorem dL_law_2667 : decode cL_law 2667 = .ok (.iconst 0, 1) := by decide +kernel
theorem dL_law_2668 : decode cL_law 2668 = .ok (.ireturn, 1) := by decide +kernel
theorem dL_law_2669 : decode cL_law 2669 = .ok (.goto 320, 3) := by decide +kernel
theorem dL_law_2672 : decode cL_law 2672 = .ok (.aload_n 1, 1) := by decide +kernel
theorem dL_law_2673 : decode cL_law 2673 = .ok (.invokevirtual 324, 3) := by decide +kernel
theorem dL_law_2676 : decode cL_law 2676 = .ok (.aload_n 2, 1) := by decide +kernel
theorem dL_law_2677 : decode cL_law 2677 = .ok (.invokevirtual 328, 3) := by decide +kernel
theorem dL_law_2680 : decode cL_law 2680 = .ok (.if_icmp .eq 309, 3) := by decide +kernel
theorem dL_law_2683 : decode cL_law 2683 = .ok (.iconst 0, 1) := by decide +kernel
theorem dL_law_2684 : decode cL_law 2684 = .ok (.ireturn, 1) := by decide +kernel
theorem dL_law_2685 : decode cL_law 2685 = .ok (.aload_n 1, 1) := by decide +kernel
theorem dL_law_2686 : decode cL_law 2686 = .ok (.aload_n 0, 1) := by decide +kernel
theorem dL_law_2687 : decode cL_law 2687 = .ok (.iload 5, 2) := by decide +kernel
theorem dL_law_2689 : decode cL_law 2689 = .ok (.iconst 1, 1) := by decide +kernel
theorem dL_law_2690 : decode cL_law 2690 = .ok (.iadd, 1) := by decide +kernel
theorem dL_law_2691 : decode cL_law 2691 = .ok (.iaload, 1) := by decide +kernel
theorem dL_law_2692 : decode cL_law 2692 = .ok (.i2c, 1) := by decide +kernel
theorem dL_law_2693 : decode cL_law 2693 = .ok (.aload_n 3, 1) := by decide +kernel
theorem dL_law_2694 : decode cL_law 2694 = .ok (.invokestatic 329, 3) := by decide +kernel
theorem dL_law_2697 : decode cL_law 2697 = .ok (.istore 6, 2) := by decide +kernel
theorem dL_law_2699 : decode cL_law 2699 = .ok (.aload_n 2, 1) := by decide +kernel
theorem dL_law_2700 : decode cL_law 2700 = .ok (.aload_n 0, 1) := by decide +kernel
theorem dL_law_2701 : decode cL_law 2701 = .ok (.iload 5, 2) := by decide +kernel
theorem dL_law_2703 : decode cL_law 2703 = .ok (.iconst 1, 1) := by decide +kernel
theorem dL_law_2704 : decode cL_law 2704 = .ok (.iadd, 1) := by decide +kernel
theorem dL_law_2705 : decode cL_law 2705 = .ok (.iaload, 1) := by decide +kernel
theorem dL_law_2706 : decode cL_law 2706 = .ok (.i2c, 1) := by decide +kernel
theorem dL_law_2707 : decode cL_law 2707 = .ok (.invokevirtual 332, 3) := by decide +kernel
theorem dL_law_2710 : decode cL_law 2710 = .ok (.istore 7, 2) := by decide +kernel
theorem dL_law_2712 : decode cL_law 2712 = .ok (.aload_n 2, 1) := by decide +kernel
theorem dL_law_2713 : decode cL_law 2713 = .ok (.invokevirtual 172, 3) := by decide +kernel
theorem dL_law_2716 : decode cL_law 2716 = .ok (.iload 6, 2) := by decide +kernel
theorem dL_law_2718 : decode cL_law 2718 = .ok (.if_icmp .eq 5, 3) := by decide +kernel
theorem dL_law_2721 : decode cL_law 2721 = .ok (.iconst 0, 1) := by decide +kernel
theorem dL_law_2722 : decode cL_law 2722 = .ok (.ireturn, 1) := by decide +kernel
theorem dL_law_2723 : decode cL_law 2723 = .ok (.iload 6, 2) := by decide +kernel
theorem dL_law_2725 : decode cL_law 2725 = .ok (.ifCond .ne 15, 3) := by decide +kernel
theorem dL_law_2728 : decode cL_law 2728 = .ok (.aload_n 3, 1) := by decide +kernel
theorem dL_law_2729 : decode cL_law 2729 = .ok (.iconst 0, 1) := by decide +kernel
theorem dL_law_2730 : decode cL_law 2730 = .ok (.laload, 1) := by decide +kernel
theorem dL_law_2731 : decode cL_law 2731 = .ok (.iload 7, 2) := by decide +kernel
theorem dL_law_2733 : decode cL_law 2733 = .ok (.i2l, 1) := by decide +kernel
theorem dL_law_2734 : decode cL_law 2734 = .ok (.lcmp, 1) := by decide +kernel
theorem dL_law_2735 : decode cL_law 2735 = .ok (.ifCond .eq 5, 3) := by decide +kernel
theorem dL_law_2738 : decode cL_law 2738 = .ok (.iconst 0, 1) := by decide +kernel
theorem dL_law_2739 : decode cL_law 2739 = .ok (.ireturn, 1) := by decide +kernel
theorem dL_law_2740 : decode cL_law 2740 = .ok (.goto 249, 3) := by decide +kernel
theorem dL_law_2743 : decode cL_law 2743 = .ok (.aload_n 1, 1) := by decide +kernel
theorem dL_law_2744 : decode cL_law 2744 = .ok (.aload_n 3, 1) := by decide +kernel
theorem dL_law_2745 : decode cL_law 2745 = .ok (.invokestatic 333, 3) := by decide +kernel
theorem dL_law_2748 : decode cL_law 2748 = .ok (.istore 6, 2) := by decide +kernel
theorem dL_law_2750 : decode cL_law 2750 = .ok (.aload_n 2, 1) := by decide +kernel
theorem dL_law_2751 : decode cL_law 2751 = .ok (.invokevirtual 336, 3) := by decide +kernel
theorem dL_law_2754 : decode cL_law 2754 = .ok (.istore 7, 2) := by decide +kernel
theorem dL_law_2756 : decode cL_law 2756 = .ok (.aload_n 2, 1) := by decide +kernel
theorem dL_law_2757 : decode cL_law 2757 = .ok (.invokevirtual 172, 3) := by decide +kernel
theorem dL_law_2760 : decode cL_law 2760 = .ok (.iload 6, 2) := by decide +kernel
theorem dL_law_2762 : decode cL_law 2762 = .ok (.if_icmp .eq 5, 3) := by decide +kernel
theorem dL_law_2765 : decode cL_law 2765 = .ok (.iconst 0, 1) := by decide +kernel
theorem dL_law_2766 : decode cL_law 2766 = .ok (.ireturn, 1) := by decide +kernel
theorem dL_law_2767 : decode cL_law 2767 = .ok (.iload 6, 2) := by decide +kernel
theorem dL_law_2769 : decode cL_law 2769 = .ok (.ifCond .ne 15, 3) := by decide +kernel
theorem dL_law_2772 : decode cL_law 2772 = .ok (.aload_n 3, 1) := by decide +kernel
theorem dL_law_2773 : decode cL_law 2773 = .ok (.iconst 0, 1) := by decide +kernel
theorem dL_law_2774 : decode cL_law 2774 = .ok (.laload, 1) := by decide +kernel
theorem dL_law_2775 : decode cL_law 2775 = .ok (.iload 7, 2) := by decide +kernel
theorem dL_law_2777 : decode cL_law 2777 = .ok (.i2l, 1) := by decide +kernel
theorem dL_law_2778 : decode cL_law 2778 = .ok (.lcmp, 1) := by decide +kernel
theorem dL_law_2779 : decode cL_law 2779 = .ok (.ifCond .eq 5, 3) := by decide +kernel
theorem dL_law_2782 : decode cL_law 2782 = .ok (.iconst 0, 1) := by decide +kernel
theorem dL_law_2783 : decode cL_law 2783 = .ok (.ireturn, 1) := by decide +kernel
theorem dL_law_2784 : decode cL_law 2784 = .ok (.goto 205, 3) := by decide +kernel
theorem dL_law_2787 : decode cL_law 2787 = .ok (.aload_n 1, 1) := by decide +kernel
theorem dL_law_2788 : decode cL_law 2788 = .ok (.aload_n 3, 1) := by decide +kernel
theorem dL_law_2789 : decode cL_law 2789 = .ok (.invokestatic 337, 3) := by decide +kernel
theorem dL_law_2792 : decode cL_law 2792 = .ok (.istore 6, 2) := by decide +kernel
theorem dL_law_2794 : decode cL_law 2794 = .ok (.aload_n 2, 1) := by decide +kernel
theorem dL_law_2795 : decode cL_law 2795 = .ok (.invokevirtual 339, 3) := by decide +kernel
theorem dL_law_2798 : decode cL_law 2798 = .ok (.istore 7, 2) := by decide +kernel
theorem dL_law_2800 : decode cL_law 2800 = .ok (.aload_n 2, 1) := by decide +kernel
theorem dL_law_2801 : decode cL_law 2801 = .ok (.invokevirtual 172, 3) := by decide +kernel
theorem dL_law_2804 : decode cL_law 2804 = .ok (.iload 6, 2) := by decide +kernel
theorem dL_law_2806 : decode cL_law 2806 = .ok (.if_icmp .eq 5, 3) := by decide +kernel
theorem dL_law_2809 : decode cL_law 2809 = .ok (.iconst 0, 1) := by decide +kernel
theorem dL_law_2810 : decode cL_law 2810 = .ok (.ireturn, 1) := by decide +kernel
theorem dL_law_2811 : decode cL_law 2811 = .ok (.iload 6, 2) := by decide +kernel
theorem dL_law_2813 : decode cL_law 2813 = .ok (.ifCond .ne 15, 3) := by decide +kernel
theorem dL_law_2816 : decode cL_law 2816 = .ok (.aload_n 3, 1) := by decide +kernel
theorem dL_law_2817 : decode cL_law 2817 = .ok (.iconst 0, 1) := by decide +kernel
theorem dL_law_2818 : decode cL_law 2818 = .ok (.laload, 1) := by decide +kernel
theorem dL_law_2819 : decode cL_law 2819 = .ok (.iload 7, 2) := by decide +kernel
theorem dL_law_2821 : decode cL_law 2821 = .ok (.i2l, 1) := by decide +kernel
theorem dL_law_2822 : decode cL_law 2822 = .ok (.lcmp, 1) := by decide +kernel
theorem dL_law_2823 : decode cL_law 2823 = .ok (.ifCond .eq 5, 3) := by decide +kernel
theorem dL_law_2826 : decode cL_law 2826 = .ok (.iconst 0, 1) := by decide +kernel
theorem dL_law_2827 : decode cL_law 2827 = .ok (.ireturn, 1) := by decide +kernel
theorem dL_law_2828 : decode cL_law 2828 = .ok (.goto 161, 3) := by decide +kernel
theorem dL_law_2831 : decode cL_law 2831 = .ok (.aload_n 1, 1) := by decide +kernel
theorem dL_law_2832 : decode cL_law 2832 = .ok (.aload_n 3, 1) := by decide +kernel
theorem dL_law_2833 : decode cL_law 2833 = .ok (.invokestatic 340, 3) := by decide +kernel
theorem dL_law_2836 : decode cL_law 2836 = .ok (.istore 6, 2) := by decide +kernel
theorem dL_law_2838 : decode cL_law 2838 = .ok (.aload_n 2, 1) := by decide +kernel
theorem dL_law_2839 : decode cL_law 2839 = .ok (.invokevirtual 342, 3) := by decide +kernel
theorem dL_law_2842 : decode cL_law 2842 = .ok (.istore 7, 2) := by decide +kernel
theorem dL_law_2844 : decode cL_law 2844 = .ok (.aload_n 2, 1) := by decide +kernel
theorem dL_law_2845 : decode cL_law 2845 = .ok (.invokevirtual 172, 3) := by decide +kernel
theorem dL_law_2848 : decode cL_law 2848 = .ok (.iload 6, 2) := by decide +kernel
theorem dL_law_2850 : decode cL_law 2850 = .ok (.if_icmp .eq 5, 3) := by decide +kernel
theorem dL_law_2853 : decode cL_law 2853 = .ok (.iconst 0, 1) := by decide +kernel
theorem dL_law_2854 : decode cL_law 2854 = .ok (.ireturn, 1) := by decide +kernel
theorem dL_law_2855 : decode cL_law 2855 = .ok (.iload 6, 2) := by decide +kernel
theorem dL_law_2857 : decode cL_law 2857 = .ok (.ifCond .ne 15, 3) := by decide +kernel
theorem dL_law_2860 : decode cL_law 2860 = .ok (.aload_n 3, 1) := by decide +kernel
theorem dL_law_2861 : decode cL_law 2861 = .ok (.iconst 0, 1) := by decide +kernel
theorem dL_law_2862 : decode cL_law 2862 = .ok (.laload, 1) := by decide +kernel
theorem dL_law_2863 : decode cL_law 2863 = .ok (.iload 7, 2) := by decide +kernel
theorem dL_law_2865 : decode cL_law 2865 = .ok (.i2l, 1) := by decide +kernel
theorem dL_law_2866 : decode cL_law 2866 = .ok (.lcmp, 1) := by decide +kernel
theorem dL_law_2867 : decode cL_law 2867 = .ok (.ifCond .eq 5, 3) := by decide +kernel
theorem dL_law_2870 : decode cL_law 2870 = .ok (.iconst 0, 1) := by decide +kernel
theorem dL_law_2871 : decode cL_law 2871 = .ok (.ireturn, 1) := by decide +kernel
theorem dL_law_2872 : decode cL_law 2872 = .ok (.goto 117, 3) := by decide +kernel
theorem dL_law_2875 : decode cL_law 2875 = .ok (.aload_n 1, 1) := by decide +kernel
theorem dL_law_2876 : decode cL_law 2876 = .ok (.aload_n 3, 1) := by decide +kernel
theorem dL_law_2877 : decode cL_law 2877 = .ok (.invokestatic 343, 3) := by decide +kernel
theorem dL_law_2880 : decode cL_law 2880 = .ok (.istore 6, 2) := by decide +kernel
theorem dL_law_2882 : decode cL_law 2882 = .ok (.aload_n 2, 1) := by decide +kernel
theorem dL_law_2883 : decode cL_law 2883 = .ok (.invokevirtual 345, 3) := by decide +kernel
theorem dL_law_2886 : decode cL_law 2886 = .ok (.istore 7, 2) := by decide +kernel
theorem dL_law_2888 : decode cL_law 2888 = .ok (.aload_n 2, 1) := by decide +kernel
theorem dL_law_2889 : decode cL_law 2889 = .ok (.invokevirtual 172, 3) := by decide +kernel
theorem dL_law_2892 : decode cL_law 2892 = .ok (.iload 6, 2) := by decide +kernel
theorem dL_law_2894 : decode cL_law 2894 = .ok (.if_icmp .eq 5, 3) := by decide +kernel
theorem dL_law_2897 : decode cL_law 2897 = .ok (.iconst 0, 1) := by decide +kernel
theorem dL_law_2898 : decode cL_law 2898 = .ok (.ireturn, 1) := by decide +kernel
theorem dL_law_2899 : decode cL_law 2899 = .ok (.iload 6, 2) := by decide +kernel
theorem dL_law_2901 : decode cL_law 2901 = .ok (.ifCond .ne 15, 3) := by decide +kernel
theorem dL_law_2904 : decode cL_law 2904 = .ok (.aload_n 3, 1) := by decide +kernel
theorem dL_law_2905 : decode cL_law 2905 = .ok (.iconst 0, 1) := by decide +kernel
theorem dL_law_2906 : decode cL_law 2906 = .ok (.laload, 1) := by decide +kernel
theorem dL_law_2907 : decode cL_law 2907 = .ok (.iload 7, 2) := by decide +kernel
theorem dL_law_2909 : decode cL_law 2909 = .ok (.i2l, 1) := by decide +kernel
theorem dL_law_2910 : decode cL_law 2910 = .ok (.lcmp, 1) := by decide +kernel
theorem dL_law_2911 : decode cL_law 2911 = .ok (.ifCond .eq 5, 3) := by decide +kernel
theorem dL_law_2914 : decode cL_law 2914 = .ok (.iconst 0, 1) := by decide +kernel
theorem dL_law_2915 : decode cL_law 2915 = .ok (.ireturn, 1) := by decide +kernel
theorem dL_law_2916 : decode cL_law 2916 = .ok (.goto 73, 3) := by decide +kernel
theorem dL_law_2919 : decode cL_law 2919 = .ok (.aload_n 1, 1) := by decide +kernel
theorem dL_law_2920 : decode cL_law 2920 = .ok (.invokevirtual 346, 3) := by decide +kernel
theorem dL_law_2923 : decode cL_law 2923 = .ok (.aload_n 2, 1) := by decide +kernel
theorem dL_law_2924 : decode cL_law 2924 = .ok (.invokevirtual 349, 3) := by decide +kernel
theorem dL_law_2927 : decode cL_law 2927 = .ok (.if_icmp .eq 62, 3) := by decide +kernel
theorem dL_law_2930 : decode cL_law 2930 = .ok (.iconst 0, 1) := by decide +kernel
theorem dL_law_2931 : decode cL_law 2931 = .ok (.ireturn, 1) := by decide +kernel
theorem dL_law_2932 : decode cL_law 2932 = .ok (.aload_n 1, 1) := by decide +kernel
theorem dL_law_2933 : decode cL_law 2933 = .ok (.invokevirtual 350, 3) := by decide +kernel
theorem dL_law_2936 : decode cL_law 2936 = .ok (.aload_n 2, 1) := by decide +kernel
theorem dL_law_2937 : decode cL_law 2937 = .ok (.invokevirtual 353, 3) := by decide +kernel
theorem dL_law_2940 : decode cL_law 2940 = .ok (.if_icmp .eq 49, 3) := by decide +kernel
theorem dL_law_2943 : decode cL_law 2943 = .ok (.iconst 0, 1) := by decide +kernel
theorem dL_law_2944 : decode cL_law 2944 = .ok (.ireturn, 1) := by decide +kernel
theorem dL_law_2945 : decode cL_law 2945 = .ok (.aload_n 1, 1) := by decide +kernel
theorem dL_law_2946 : decode cL_law 2946 = .ok (.aload_n 3, 1) := by decide +kernel
theorem dL_law_2947 : decode cL_law 2947 = .ok (.invokestatic 354, 3) := by decide +kernel
theorem dL_law_2950 : decode cL_law 2950 = .ok (.istore 6, 2) := by decide +kernel
theorem dL_law_2952 : decode cL_law 2952 = .ok (.aload_n 2, 1) := by decide +kernel
theorem dL_law_2953 : decode cL_law 2953 = .ok (.invokevirtual 356, 3) := by decide +kernel
theorem dL_law_2956 : decode cL_law 2956 = .ok (.istore 7, 2) := by decide +kernel
theorem dL_law_2958 : decode cL_law 2958 = .ok (.aload_n 2, 1) := by decide +kernel
theorem dL_law_2959 : decode cL_law 2959 = .ok (.invokevirtual 172, 3) := by decide +kernel
theorem dL_law_2962 : decode cL_law 2962 = .ok (.iload 6, 2) := by decide +kernel
theorem dL_law_2964 : decode cL_law 2964 = .ok (.if_icmp .eq 5, 3) := by decide +kernel
theorem dL_law_2967 : decode cL_law 2967 = .ok (.iconst 0, 1) := by decide +kernel
theorem dL_law_2968 : decode cL_law 2968 = .ok (.ireturn, 1) := by decide +kernel
theorem dL_law_2969 : decode cL_law 2969 = .ok (.iload 6, 2) := by decide +kernel
theorem dL_law_2971 : decode cL_law 2971 = .ok (.ifCond .ne 15, 3) := by decide +kernel
theorem dL_law_2974 : decode cL_law 2974 = .ok (.aload_n 3, 1) := by decide +kernel
theorem dL_law_2975 : decode cL_law 2975 = .ok (.iconst 0, 1) := by decide +kernel
theorem dL_law_2976 : decode cL_law 2976 = .ok (.laload, 1) := by decide +kernel
theorem dL_law_2977 : decode cL_law 2977 = .ok (.iload 7, 2) := by decide +kernel
theorem dL_law_2979 : decode cL_law 2979 = .ok (.i2l, 1) := by decide +kernel
theorem dL_law_2980 : decode cL_law 2980 = .ok (.lcmp, 1) := by decide +kernel
theorem dL_law_2981 : decode cL_law 2981 = .ok (.ifCond .eq 5, 3) := by decide +kernel
theorem dL_law_2984 : decode cL_law 2984 = .ok (.iconst 0, 1) := by decide +kernel
theorem dL_law_2985 : decode cL_law 2985 = .ok (.ireturn, 1) := by decide +kernel
theorem dL_law_2986 : decode cL_law 2986 = .ok (.goto 3, 3) := by decide +kernel
theorem dL_law_2989 : decode cL_law 2989 = .ok (.iinc 5 3, 3) := by decide +kernel
theorem dL_law_2992 : decode cL_law 2992 = .ok (.goto (-2964), 3) := by decide +kernel
theorem dL_law_2995 : decode cL_law 2995 = .ok (.iconst 1, 1) := by decide +kernel
theorem dL_law_2996 : decode cL_law 2996 = .ok (.ireturn, 1) := by decide +kernel
