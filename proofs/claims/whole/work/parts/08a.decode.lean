theorem dX2_init_0 : decode cX2_init 0 = .ok (.aload_n 0, 1) := by decide +kernel
theorem dX2_init_1 : decode cX2_init 1 = .ok (.invokespecial 3, 3) := by decide +kernel
theorem dX2_init_4 : decode cX2_init 4 = .ok (.aload_n 0, 1) := by decide +kernel
theorem dX2_init_5 : decode cX2_init 5 = .ok (.bipush 60, 2) := by decide +kernel
theorem dX2_init_7 : decode cX2_init 7 = .ok (.newarray .char, 2) := by decide +kernel
theorem dX2_init_9 : decode cX2_init 9 = .ok (.putfield 9, 3) := by decide +kernel
theorem dX2_init_12 : decode cX2_init 12 = .ok (.aload_n 0, 1) := by decide +kernel
theorem dX2_init_13 : decode cX2_init 13 = .ok (.iconst 0, 1) := by decide +kernel
theorem dX2_init_14 : decode cX2_init 14 = .ok (.putfield 15, 3) := by decide +kernel
theorem dX2_init_17 : decode cX2_init 17 = .ok (.aload_n 0, 1) := by decide +kernel
theorem dX2_init_18 : decode cX2_init 18 = .ok (.iconst 0, 1) := by decide +kernel
theorem dX2_init_19 : decode cX2_init 19 = .ok (.putfield 19, 3) := by decide +kernel
theorem dX2_init_22 : decode cX2_init 22 = .ok (.aload_n 0, 1) := by decide +kernel
theorem dX2_init_23 : decode cX2_init 23 = .ok (.iconst 0, 1) := by decide +kernel
theorem dX2_init_24 : decode cX2_init 24 = .ok (.putfield 22, 3) := by decide +kernel
theorem dX2_init_27 : decode cX2_init 27 = .ok (.aload_n 0, 1) := by decide +kernel
theorem dX2_init_28 : decode cX2_init 28 = .ok (.getstatic 26, 3) := by decide +kernel
theorem dX2_init_31 : decode cX2_init 31 = .ok (.putfield 32, 3) := by decide +kernel
theorem dX2_init_34 : decode cX2_init 34 = .ok (.aload_n 0, 1) := by decide +kernel
theorem dX2_init_35 : decode cX2_init 35 = .ok (.iconst 0, 1) := by decide +kernel
theorem dX2_init_36 : decode cX2_init 36 = .ok (.putfield 35, 3) := by decide +kernel
theorem dX2_init_39 : decode cX2_init 39 = .ok (.aload_n 0, 1) := by decide +kernel
theorem dX2_init_40 : decode cX2_init 40 = .ok (.iconst 0, 1) := by decide +kernel
theorem dX2_init_41 : decode cX2_init 41 = .ok (.putfield 38, 3) := by decide +kernel
theorem dX2_init_44 : decode cX2_init 44 = .ok (.return_, 1) := by decide +kernel
theorem dX2_append_0 : decode cX2_append 0 = .ok (.aload_n 0, 1) := by decide +kernel
theorem dX2_append_1 : decode cX2_append 1 = .ok (.getfield 15, 3) := by decide +kernel
theorem dX2_append_4 : decode cX2_append 4 = .ok (.bipush 60, 2) := by decide +kernel
theorem dX2_append_6 : decode cX2_append 6 = .ok (.if_icmp .lt 5, 3) := by decide +kernel
theorem dX2_append_9 : decode cX2_append 9 = .ok (.iconst 0, 1) := by decide +kernel
theorem dX2_append_10 : decode cX2_append 10 = .ok (.ireturn, 1) := by decide +kernel
theorem dX2_append_11 : decode cX2_append 11 = .ok (.aload_n 0, 1) := by decide +kernel
theorem dX2_append_12 : decode cX2_append 12 = .ok (.getfield 9, 3) := by decide +kernel
theorem dX2_append_15 : decode cX2_append 15 = .ok (.aload_n 0, 1) := by decide +kernel
theorem dX2_append_16 : decode cX2_append 16 = .ok (.getfield 15, 3) := by decide +kernel
theorem dX2_append_19 : decode cX2_append 19 = .ok (.iload_n 1, 1) := by decide +kernel
theorem dX2_append_20 : decode cX2_append 20 = .ok (.castore, 1) := by decide +kernel
theorem dX2_append_21 : decode cX2_append 21 = .ok (.aload_n 0, 1) := by decide +kernel
theorem dX2_append_22 : decode cX2_append 22 = .ok (.dup, 1) := by decide +kernel
theorem dX2_append_23 : decode cX2_append 23 = .ok (.getfield 15, 3) := by decide +kernel
theorem dX2_append_26 : decode cX2_append 26 = .ok (.iconst 1, 1) := by decide +kernel
theorem dX2_append_27 : decode cX2_append 27 = .ok (.iadd, 1) := by decide +kernel
theorem dX2_append_28 : decode cX2_append 28 = .ok (.putfield 15, 3) := by decide +kernel
theorem dX2_append_31 : decode cX2_append 31 = .ok (.iconst 1, 1) := by decide +kernel
theorem dX2_append_32 : decode cX2_append 32 = .ok (.ireturn, 1) := by decide +kernel
theorem dX2_clear_0 : decode cX2_clear 0 = .ok (.aload_n 0, 1) := by decide +kernel
theorem dX2_clear_1 : decode cX2_clear 1 = .ok (.iconst 0, 1) := by decide +kernel
theorem dX2_clear_2 : decode cX2_clear 2 = .ok (.putfield 15, 3) := by decide +kernel
theorem dX2_clear_5 : decode cX2_clear 5 = .ok (.return_, 1) := by decide +kernel
theorem dX2_rewind_0 : decode cX2_rewind 0 = .ok (.aload_n 0, 1) := by decide +kernel
theorem dX2_rewind_1 : decode cX2_rewind 1 = .ok (.iconst 0, 1) := by decide +kernel
theorem dX2_rewind_2 : decode cX2_rewind 2 = .ok (.putfield 19, 3) := by decide +kernel
theorem dX2_rewind_5 : decode cX2_rewind 5 = .ok (.aload_n 0, 1) := by decide +kernel
theorem dX2_rewind_6 : decode cX2_rewind 6 = .ok (.iconst 0, 1) := by decide +kernel
theorem dX2_rewind_7 : decode cX2_rewind 7 = .ok (.putfield 22, 3) := by decide +kernel
theorem dX2_rewind_10 : decode cX2_rewind 10 = .ok (.return_, 1) := by decide +kernel
theorem dX2_findError_0 : decode cX2_findError 0 = .ok (.aload_n 0, 1) := by decide +kernel
theorem dX2_findError_1 : decode cX2_findError 1 = .ok (.invokevirtual 41, 3) := by decide +kernel
theorem dX2_findError_4 : decode cX2_findError 4 = .ok (.iconst 0, 1) := by decide +kernel
theorem dX2_findError_5 : decode cX2_findError 5 = .ok (.istore_n 1, 1) := by decide +kernel
theorem dX2_findError_6 : decode cX2_findError 6 = .ok (.iload_n 1, 1) := by decide +kernel
theorem dX2_findError_7 : decode cX2_findError 7 = .ok (.bipush 60, 2) := by decide +kernel
theorem dX2_findError_9 : decode cX2_findError 9 = .ok (.if_icmp .gt 28, 3) := by decide +kernel
theorem dX2_findError_12 : decode cX2_findError 12 = .ok (.aload_n 0, 1) := by decide +kernel
theorem dX2_findError_13 : decode cX2_findError 13 = .ok (.getfield 22, 3) := by decide +kernel
theorem dX2_findError_16 : decode cX2_findError 16 = .ok (.ifCond .ne 21, 3) := by decide +kernel
theorem dX2_findError_19 : decode cX2_findError 19 = .ok (.aload_n 0, 1) := by decide +kernel
theorem dX2_findError_20 : decode cX2_findError 20 = .ok (.invokevirtual 44, 3) := by decide +kernel
theorem dX2_findError_23 : decode cX2_findError 23 = .ok (.ifCond .ne 8, 3) := by decide +kernel
theorem dX2_findError_26 : decode cX2_findError 26 = .ok (.aload_n 0, 1) := by decide +kernel
theorem dX2_findError_27 : decode cX2_findError 27 = .ok (.getfield 19, 3) := by decide +kernel
theorem dX2_findError_30 : decode cX2_findError 30 = .ok (.ireturn, 1) := by decide +kernel
theorem dX2_findError_31 : decode cX2_findError 31 = .ok (.iinc 1 1, 3) := by decide +kernel
theorem dX2_findError_34 : decode cX2_findError 34 = .ok (.goto (-28), 3) := by decide +kernel
theorem dX2_findError_37 : decode cX2_findError 37 = .ok (.iconst (-1), 1) := by decide +kernel
theorem dX2_findError_38 : decode cX2_findError 38 = .ok (.ireturn, 1) := by decide +kernel
theorem dX2_readCommand_0 : decode cX2_readCommand 0 = .ok (.aload_n 0, 1) := by decide +kernel
theorem dX2_readCommand_1 : decode cX2_readCommand 1 = .ok (.getfield 22, 3) := by decide +kernel
theorem dX2_readCommand_4 : decode cX2_readCommand 4 = .ok (.ifCond .eq 5, 3) := by decide +kernel
theorem dX2_readCommand_7 : decode cX2_readCommand 7 = .ok (.iconst 0, 1) := by decide +kernel
theorem dX2_readCommand_8 : decode cX2_readCommand 8 = .ok (.ireturn, 1) := by decide +kernel
theorem dX2_readCommand_9 : decode cX2_readCommand 9 = .ok (.aload_n 0, 1) := by decide +kernel
theorem dX2_readCommand_10 : decode cX2_readCommand 10 = .ok (.getfield 19, 3) := by decide +kernel
theorem dX2_readCommand_13 : decode cX2_readCommand 13 = .ok (.istore_n 1, 1) := by decide +kernel
theorem dX2_readCommand_14 : decode cX2_readCommand 14 = .ok (.getstatic 48, 3) := by decide +kernel
theorem dX2_readCommand_17 : decode cX2_readCommand 17 = .ok (.astore_n 2, 1) := by decide +kernel
theorem dX2_readCommand_18 : decode cX2_readCommand 18 = .ok (.aload_n 2, 1) := by decide +kernel
theorem dX2_readCommand_19 : decode cX2_readCommand 19 = .ok (.arraylength, 1) := by decide +kernel
theorem dX2_readCommand_20 : decode cX2_readCommand 20 = .ok (.istore_n 3, 1) := by decide +kernel
theorem dX2_readCommand_21 : decode cX2_readCommand 21 = .ok (.iconst 0, 1) := by decide +kernel
theorem dX2_readCommand_22 : decode cX2_readCommand 22 = .ok (.istore 4, 2) := by decide +kernel
theorem dX2_readCommand_24 : decode cX2_readCommand 24 = .ok (.iload 4, 2) := by decide +kernel
theorem dX2_readCommand_26 : decode cX2_readCommand 26 = .ok (.iload_n 3, 1) := by decide +kernel
theorem dX2_readCommand_27 : decode cX2_readCommand 27 = .ok (.if_icmp .ge 57, 3) := by decide +kernel
theorem dX2_readCommand_30 : decode cX2_readCommand 30 = .ok (.aload_n 2, 1) := by decide +kernel
theorem dX2_readCommand_31 : decode cX2_readCommand 31 = .ok (.iload 4, 2) := by decide +kernel
theorem dX2_readCommand_33 : decode cX2_readCommand 33 = .ok (.aaload, 1) := by decide +kernel
theorem dX2_readCommand_34 : decode cX2_readCommand 34 = .ok (.astore 5, 2) := by decide +kernel
theorem dX2_readCommand_36 : decode cX2_readCommand 36 = .ok (.aload_n 0, 1) := by decide +kernel
theorem dX2_readCommand_37 : decode cX2_readCommand 37 = .ok (.aload 5, 2) := by decide +kernel
theorem dX2_readCommand_39 : decode cX2_readCommand 39 = .ok (.getfield 52, 3) := by decide +kernel
theorem dX2_readCommand_42 : decode cX2_readCommand 42 = .ok (.aload_n 0, 1) := by decide +kernel
theorem dX2_readCommand_43 : decode cX2_readCommand 43 = .ok (.getfield 19, 3) := by decide +kernel
theorem dX2_readCommand_46 : decode cX2_readCommand 46 = .ok (.invokevirtual 56, 3) := by decide +kernel
theorem dX2_readCommand_49 : decode cX2_readCommand 49 = .ok (.istore 6, 2) := by decide +kernel
theorem dX2_readCommand_51 : decode cX2_readCommand 51 = .ok (.iload 6, 2) := by decide +kernel
theorem dX2_readCommand_53 : decode cX2_readCommand 53 = .ok (.ifCond .lt 16, 3) := by decide +kernel
theorem dX2_readCommand_56 : decode cX2_readCommand 56 = .ok (.aload_n 0, 1) := by decide +kernel
theorem dX2_readCommand_57 : decode cX2_readCommand 57 = .ok (.aload 5, 2) := by decide +kernel
theorem dX2_readCommand_59 : decode cX2_readCommand 59 = .ok (.putfield 32, 3) := by decide +kernel
theorem dX2_readCommand_62 : decode cX2_readCommand 62 = .ok (.aload_n 0, 1) := by decide +kernel
theorem dX2_readCommand_63 : decode cX2_readCommand 63 = .ok (.iload 6, 2) := by decide +kernel
theorem dX2_readCommand_65 : decode cX2_readCommand 65 = .ok (.invokevirtual 60, 3) := by decide +kernel
theorem dX2_readCommand_68 : decode cX2_readCommand 68 = .ok (.ireturn, 1) := by decide +kernel
theorem dX2_readCommand_69 : decode cX2_readCommand 69 = .ok (.iload_n 1, 1) := by decide +kernel
theorem dX2_readCommand_70 : decode cX2_readCommand 70 = .ok (.iload 6, 2) := by decide +kernel
theorem dX2_readCommand_72 : decode cX2_readCommand 72 = .ok (.iconst (-1), 1) := by decide +kernel
theorem dX2_readCommand_73 : decode cX2_readCommand 73 = .ok (.ixor, 1) := by decide +kernel
theorem dX2_readCommand_74 : decode cX2_readCommand 74 = .ok (.invokestatic 64, 3) := by decide +kernel
theorem dX2_readCommand_77 : decode cX2_readCommand 77 = .ok (.istore_n 1, 1) := by decide +kernel
theorem dX2_readCommand_78 : decode cX2_readCommand 78 = .ok (.iinc 4 1, 3) := by decide +kernel
theorem dX2_readCommand_81 : decode cX2_readCommand 81 = .ok (.goto (-57), 3) := by decide +kernel
theorem dX2_readCommand_84 : decode cX2_readCommand 84 = .ok (.aload_n 0, 1) := by decide +kernel
theorem dX2_readCommand_85 : decode cX2_readCommand 85 = .ok (.iload_n 1, 1) := by decide +kernel
theorem dX2_readCommand_86 : decode cX2_readCommand 86 = .ok (.putfield 19, 3) := by decide +kernel
theorem dX2_readCommand_89 : decode cX2_readCommand 89 = .ok (.iconst 0, 1) := by decide +kernel
theorem dX2_readCommand_90 : decode cX2_readCommand 90 = .ok (.ireturn, 1) := by decide +kernel
theorem dX2_closeCommand_0 : decode cX2_closeCommand 0 = .ok (.aload_n 0, 1) := by decide +kernel
theorem dX2_closeCommand_1 : decode cX2_closeCommand 1 = .ok (.iload_n 1, 1) := by decide +kernel
theorem dX2_closeCommand_2 : decode cX2_closeCommand 2 = .ok (.putfield 19, 3) := by decide +kernel
theorem dX2_closeCommand_5 : decode cX2_closeCommand 5 = .ok (.iload_n 1, 1) := by decide +kernel
theorem dX2_closeCommand_6 : decode cX2_closeCommand 6 = .ok (.aload_n 0, 1) := by decide +kernel
theorem dX2_closeCommand_7 : decode cX2_closeCommand 7 = .ok (.getfield 15, 3) := by decide +kernel
theorem dX2_closeCommand_10 : decode cX2_closeCommand 10 = .ok (.if_icmp .lt 10, 3) := by decide +kernel
theorem dX2_closeCommand_13 : decode cX2_closeCommand 13 = .ok (.aload_n 0, 1) := by decide +kernel
theorem dX2_closeCommand_14 : decode cX2_closeCommand 14 = .ok (.iconst 1, 1) := by decide +kernel
theorem dX2_closeCommand_15 : decode cX2_closeCommand 15 = .ok (.putfield 22, 3) := by decide +kernel
theorem dX2_closeCommand_18 : decode cX2_closeCommand 18 = .ok (.iconst 1, 1) := by decide +kernel
theorem dX2_closeCommand_19 : decode cX2_closeCommand 19 = .ok (.ireturn, 1) := by decide +kernel
theorem dX2_closeCommand_20 : decode cX2_closeCommand 20 = .ok (.aload_n 0, 1) := by decide +kernel
theorem dX2_closeCommand_21 : decode cX2_closeCommand 21 = .ok (.getfield 9, 3) := by decide +kernel
theorem dX2_closeCommand_24 : decode cX2_closeCommand 24 = .ok (.iload_n 1, 1) := by decide +kernel
theorem dX2_closeCommand_25 : decode cX2_closeCommand 25 = .ok (.caload, 1) := by decide +kernel
theorem dX2_closeCommand_26 : decode cX2_closeCommand 26 = .ok (.bipush 59, 2) := by decide +kernel
theorem dX2_closeCommand_28 : decode cX2_closeCommand 28 = .ok (.if_icmp .eq 5, 3) := by decide +kernel
theorem dX2_closeCommand_31 : decode cX2_closeCommand 31 = .ok (.iconst 0, 1) := by decide +kernel
theorem dX2_closeCommand_32 : decode cX2_closeCommand 32 = .ok (.ireturn, 1) := by decide +kernel
theorem dX2_closeCommand_33 : decode cX2_closeCommand 33 = .ok (.aload_n 0, 1) := by decide +kernel
theorem dX2_closeCommand_34 : decode cX2_closeCommand 34 = .ok (.dup, 1) := by decide +kernel
theorem dX2_closeCommand_35 : decode cX2_closeCommand 35 = .ok (.getfield 19, 3) := by decide +kernel
theorem dX2_closeCommand_38 : decode cX2_closeCommand 38 = .ok (.iconst 1, 1) := by decide +kernel
theorem dX2_closeCommand_39 : decode cX2_closeCommand 39 = .ok (.iadd, 1) := by decide +kernel
theorem dX2_closeCommand_40 : decode cX2_closeCommand 40 = .ok (.putfield 19, 3) := by decide +kernel
theorem dX2_closeCommand_43 : decode cX2_closeCommand 43 = .ok (.iconst 1, 1) := by decide +kernel
theorem dX2_closeCommand_44 : decode cX2_closeCommand 44 = .ok (.ireturn, 1) := by decide +kernel
theorem dX2_match_0 : decode cX2_match 0 = .ok (.iload_n 2, 1) := by decide +kernel
theorem dX2_match_1 : decode cX2_match 1 = .ok (.istore_n 3, 1) := by decide +kernel
theorem dX2_match_2 : decode cX2_match 2 = .ok (.iconst 0, 1) := by decide +kernel
theorem dX2_match_3 : decode cX2_match 3 = .ok (.istore 4, 2) := by decide +kernel
theorem dX2_match_5 : decode cX2_match 5 = .ok (.iconst 0, 1) := by decide +kernel
theorem dX2_match_6 : decode cX2_match 6 = .ok (.istore 5, 2) := by decide +kernel
theorem dX2_match_8 : decode cX2_match 8 = .ok (.iload 5, 2) := by decide +kernel
theorem dX2_match_10 : decode cX2_match 10 = .ok (.aload_n 1, 1) := by decide +kernel
theorem dX2_match_11 : decode cX2_match 11 = .ok (.invokevirtual 70, 3) := by decide +kernel
theorem dX2_match_14 : decode cX2_match 14 = .ok (.if_icmp .ge 113, 3) := by decide +kernel
theorem dX2_match_17 : decode cX2_match 17 = .ok (.aload_n 1, 1) := by decide +kernel
theorem dX2_match_18 : decode cX2_match 18 = .ok (.iload 5, 2) := by decide +kernel
theorem dX2_match_20 : decode cX2_match 20 = .ok (.invokevirtual 76, 3) := by decide +kernel
theorem dX2_match_23 : decode cX2_match 23 = .ok (.istore 6, 2) := by decide +kernel
theorem dX2_match_25 : decode cX2_match 25 = .ok (.iload 6, 2) := by decide +kernel
theorem dX2_match_27 : decode cX2_match 27 = .ok (.bipush 49, 2) := by decide +kernel
theorem dX2_match_29 : decode cX2_match 29 = .ok (.if_icmp .eq 10, 3) := by decide +kernel
theorem dX2_match_32 : decode cX2_match 32 = .ok (.iload 6, 2) := by decide +kernel
theorem dX2_match_34 : decode cX2_match 34 = .ok (.bipush 50, 2) := by decide +kernel
theorem dX2_match_36 : decode cX2_match 36 = .ok (.if_icmp .ne 59, 3) := by decide +kernel
theorem dX2_match_39 : decode cX2_match 39 = .ok (.aload_n 0, 1) := by decide +kernel
theorem dX2_match_40 : decode cX2_match 40 = .ok (.iload_n 3, 1) := by decide +kernel
theorem dX2_match_41 : decode cX2_match 41 = .ok (.invokevirtual 80, 3) := by decide +kernel
theorem dX2_match_44 : decode cX2_match 44 = .ok (.ifCond .ne 7, 3) := by decide +kernel
theorem dX2_match_47 : decode cX2_match 47 = .ok (.iload_n 3, 1) := by decide +kernel
theorem dX2_match_48 : decode cX2_match 48 = .ok (.iconst (-1), 1) := by decide +kernel
theorem dX2_match_49 : decode cX2_match 49 = .ok (.ixor, 1) := by decide +kernel
theorem dX2_match_50 : decode cX2_match 50 = .ok (.ireturn, 1) := by decide +kernel
theorem dX2_match_51 : decode cX2_match 51 = .ok (.iload 6, 2) := by decide +kernel
theorem dX2_match_53 : decode cX2_match 53 = .ok (.bipush 50, 2) := by decide +kernel
theorem dX2_match_55 : decode cX2_match 55 = .ok (.if_icmp .ne 17, 3) := by decide +kernel
theorem dX2_match_58 : decode cX2_match 58 = .ok (.aload_n 0, 1) := by decide +kernel
theorem dX2_match_59 : decode cX2_match 59 = .ok (.iload_n 3, 1) := by decide +kernel
theorem dX2_match_60 : decode cX2_match 60 = .ok (.iconst 1, 1) := by decide +kernel
theorem dX2_match_61 : decode cX2_match 61 = .ok (.iadd, 1) := by decide +kernel
theorem dX2_match_62 : decode cX2_match 62 = .ok (.invokevirtual 80, 3) := by decide +kernel
theorem dX2_match_65 : decode cX2_match 65 = .ok (.ifCond .eq 7, 3) := by decide +kernel
theorem dX2_match_68 : decode cX2_match 68 = .ok (.iconst 2, 1) := by decide +kernel
theorem dX2_match_69 : decode cX2_match 69 = .ok (.goto 4, 3) := by decide +kernel
theorem dX2_match_72 : decode cX2_match 72 = .ok (.iconst 1, 1) := by decide +kernel
theorem dX2_match_73 : decode cX2_match 73 = .ok (.istore 7, 2) := by decide +kernel
theorem dX2_match_75 : decode cX2_match 75 = .ok (.aload_n 0, 1) := by decide +kernel
theorem dX2_match_76 : decode cX2_match 76 = .ok (.iload 4, 2) := by decide +kernel
theorem dX2_match_78 : decode cX2_match 78 = .ok (.iload_n 3, 1) := by decide +kernel
theorem dX2_match_79 : decode cX2_match 79 = .ok (.iload 7, 2) := by decide +kernel
theorem dX2_match_81 : decode cX2_match 81 = .ok (.invokevirtual 83, 3) := by decide +kernel
theorem dX2_match_84 : decode cX2_match 84 = .ok (.iinc 4 1, 3) := by decide +kernel
theorem dX2_match_87 : decode cX2_match 87 = .ok (.iload_n 3, 1) := by decide +kernel
theorem dX2_match_88 : decode cX2_match 88 = .ok (.iload 7, 2) := by decide +kernel
theorem dX2_match_90 : decode cX2_match 90 = .ok (.iadd, 1) := by decide +kernel
theorem dX2_match_91 : decode cX2_match 91 = .ok (.istore_n 3, 1) := by decide +kernel
theorem dX2_match_92 : decode cX2_match 92 = .ok (.goto 29, 3) := by decide +kernel
theorem dX2_match_95 : decode cX2_match 95 = .ok (.iload_n 3, 1) := by decide +kernel
theorem dX2_match_96 : decode cX2_match 96 = .ok (.aload_n 0, 1) := by decide +kernel
theorem dX2_match_97 : decode cX2_match 97 = .ok (.getfield 15, 3) := by decide +kernel
theorem dX2_match_100 : decode cX2_match 100 = .ok (.if_icmp .ge 14, 3) := by decide +kernel
theorem dX2_match_103 : decode cX2_match 103 = .ok (.aload_n 0, 1) := by decide +kernel
theorem dX2_match_104 : decode cX2_match 104 = .ok (.getfield 9, 3) := by decide +kernel
theorem dX2_match_107 : decode cX2_match 107 = .ok (.iload_n 3, 1) := by decide +kernel
theorem dX2_match_108 : decode cX2_match 108 = .ok (.caload, 1) := by decide +kernel
theorem dX2_match_109 : decode cX2_match 109 = .ok (.iload 6, 2) := by decide +kernel
theorem dX2_match_111 : decode cX2_match 111 = .ok (.if_icmp .eq 7, 3) := by decide +kernel
theorem dX2_match_114 : decode cX2_match 114 = .ok (.iload_n 3, 1) := by decide +kernel
theorem dX2_match_115 : decode cX2_match 115 = .ok (.iconst (-1), 1) := by decide +kernel
theorem dX2_match_116 : decode cX2_match 116 = .ok (.ixor, 1) := by decide +kernel
theorem dX2_match_117 : decode cX2_match 117 = .ok (.ireturn, 1) := by decide +kernel
theorem dX2_match_118 : decode cX2_match 118 = .ok (.iinc 3 1, 3) := by decide +kernel
theorem dX2_match_121 : decode cX2_match 121 = .ok (.iinc 5 1, 3) := by decide +kernel
theorem dX2_match_124 : decode cX2_match 124 = .ok (.goto (-116), 3) := by decide +kernel
theorem dX2_match_127 : decode cX2_match 127 = .ok (.iload_n 3, 1) := by decide +kernel
theorem dX2_match_128 : decode cX2_match 128 = .ok (.ireturn, 1) := by decide +kernel
theorem dX2_putNumber_0 : decode cX2_putNumber 0 = .ok (.iconst 0, 1) := by decide +kernel
theorem dX2_putNumber_1 : decode cX2_putNumber 1 = .ok (.istore 4, 2) := by decide +kernel
theorem dX2_putNumber_3 : decode cX2_putNumber 3 = .ok (.iload_n 2, 1) := by decide +kernel
theorem dX2_putNumber_4 : decode cX2_putNumber 4 = .ok (.istore 5, 2) := by decide +kernel
theorem dX2_putNumber_6 : decode cX2_putNumber 6 = .ok (.iload 5, 2) := by decide +kernel
theorem dX2_putNumber_8 : decode cX2_putNumber 8 = .ok (.iload_n 2, 1) := by decide +kernel
theorem dX2_putNumber_9 : decode cX2_putNumber 9 = .ok (.iload_n 3, 1) := by decide +kernel
theorem dX2_putNumber_10 : decode cX2_putNumber 10 = .ok (.iadd, 1) := by decide +kernel
theorem dX2_putNumber_11 : decode cX2_putNumber 11 = .ok (.if_icmp .ge 27, 3) := by decide +kernel
theorem dX2_putNumber_14 : decode cX2_putNumber 14 = .ok (.bipush 10, 2) := by decide +kernel
theorem dX2_putNumber_16 : decode cX2_putNumber 16 = .ok (.iload 4, 2) := by decide +kernel
theorem dX2_putNumber_18 : decode cX2_putNumber 18 = .ok (.imul, 1) := by decide +kernel
theorem dX2_putNumber_19 : decode cX2_putNumber 19 = .ok (.aload_n 0, 1) := by decide +kernel
theorem dX2_putNumber_20 : decode cX2_putNumber 20 = .ok (.getfield 9, 3) := by decide +kernel
theorem dX2_putNumber_23 : decode cX2_putNumber 23 = .ok (.iload 5, 2) := by decide +kernel
theorem dX2_putNumber_25 : decode cX2_putNumber 25 = .ok (.caload, 1) := by decide +kernel
theorem dX2_putNumber_26 : decode cX2_putNumber 26 = .ok (.iadd, 1) := by decide +kernel
theorem dX2_putNumber_27 : decode cX2_putNumber 27 = .ok (.bipush 48, 2) := by decide +kernel
theorem dX2_putNumber_29 : decode cX2_putNumber 29 = .ok (.isub, 1) := by decide +kernel
theorem dX2_putNumber_30 : decode cX2_putNumber 30 = .ok (.istore 4, 2) := by decide +kernel
theorem dX2_putNumber_32 : decode cX2_putNumber 32 = .ok (.iinc 5 1, 3) := by decide +kernel
theorem dX2_putNumber_35 : decode cX2_putNumber 35 = .ok (.goto (-29), 3) := by decide +kernel
theorem dX2_putNumber_38 : decode cX2_putNumber 38 = .ok (.iload_n 1, 1) := by decide +kernel
theorem dX2_putNumber_39 : decode cX2_putNumber 39 = .ok (.ifCond .ne 12, 3) := by decide +kernel
theorem dX2_putNumber_42 : decode cX2_putNumber 42 = .ok (.aload_n 0, 1) := by decide +kernel
theorem dX2_putNumber_43 : decode cX2_putNumber 43 = .ok (.iload 4, 2) := by decide +kernel
theorem dX2_putNumber_45 : decode cX2_putNumber 45 = .ok (.putfield 35, 3) := by decide +kernel
theorem dX2_putNumber_48 : decode cX2_putNumber 48 = .ok (.goto 9, 3) := by decide +kernel
theorem dX2_putNumber_51 : decode cX2_putNumber 51 = .ok (.aload_n 0, 1) := by decide +kernel
theorem dX2_putNumber_52 : decode cX2_putNumber 52 = .ok (.iload 4, 2) := by decide +kernel
theorem dX2_putNumber_54 : decode cX2_putNumber 54 = .ok (.putfield 38, 3) := by decide +kernel
theorem dX2_putNumber_57 : decode cX2_putNumber 57 = .ok (.return_, 1) := by decide +kernel
theorem dX2_isDigit_0 : decode cX2_isDigit 0 = .ok (.iload_n 1, 1) := by decide +kernel
theorem dX2_isDigit_1 : decode cX2_isDigit 1 = .ok (.ifCond .lt 37, 3) := by decide +kernel
theorem dX2_isDigit_4 : decode cX2_isDigit 4 = .ok (.iload_n 1, 1) := by decide +kernel
theorem dX2_isDigit_5 : decode cX2_isDigit 5 = .ok (.aload_n 0, 1) := by decide +kernel
theorem dX2_isDigit_6 : decode cX2_isDigit 6 = .ok (.getfield 15, 3) := by decide +kernel
theorem dX2_isDigit_9 : decode cX2_isDigit 9 = .ok (.if_icmp .ge 29, 3) := by decide +kernel
theorem dX2_isDigit_12 : decode cX2_isDigit 12 = .ok (.aload_n 0, 1) := by decide +kernel
theorem dX2_isDigit_13 : decode cX2_isDigit 13 = .ok (.getfield 9, 3) := by decide +kernel
theorem dX2_isDigit_16 : decode cX2_isDigit 16 = .ok (.iload_n 1, 1) := by decide +kernel
theorem dX2_isDigit_17 : decode cX2_isDigit 17 = .ok (.caload, 1) := by decide +kernel
theorem dX2_isDigit_18 : decode cX2_isDigit 18 = .ok (.bipush 48, 2) := by decide +kernel
theorem dX2_isDigit_20 : decode cX2_isDigit 20 = .ok (.if_icmp .lt 18, 3) := by decide +kernel
theorem dX2_isDigit_23 : decode cX2_isDigit 23 = .ok (.aload_n 0, 1) := by decide +kernel
theorem dX2_isDigit_24 : decode cX2_isDigit 24 = .ok (.getfield 9, 3) := by decide +kernel
theorem dX2_isDigit_27 : decode cX2_isDigit 27 = .ok (.iload_n 1, 1) := by decide +kernel
theorem dX2_isDigit_28 : decode cX2_isDigit 28 = .ok (.caload, 1) := by decide +kernel
theorem dX2_isDigit_29 : decode cX2_isDigit 29 = .ok (.bipush 57, 2) := by decide +kernel
theorem dX2_isDigit_31 : decode cX2_isDigit 31 = .ok (.if_icmp .gt 7, 3) := by decide +kernel
theorem dX2_isDigit_34 : decode cX2_isDigit 34 = .ok (.iconst 1, 1) := by decide +kernel
theorem dX2_isDigit_35 : decode cX2_isDigit 35 = .ok (.goto 4, 3) := by decide +kernel
theorem dX2_isDigit_38 : decode cX2_isDigit 38 = .ok (.iconst 0, 1) := by decide +kernel
theorem dX2_isDigit_39 : decode cX2_isDigit 39 = .ok (.ireturn, 1) := by decide +kernel
theorem dX3_init_0 : decode cX3_init 0 = .ok (.aload_n 0, 1) := by decide +kernel
theorem dX3_init_1 : decode cX3_init 1 = .ok (.invokespecial 3, 3) := by decide +kernel
theorem dX3_init_4 : decode cX3_init 4 = .ok (.aload_n 0, 1) := by decide +kernel
theorem dX3_init_5 : decode cX3_init 5 = .ok (.bipush 9, 2) := by decide +kernel
theorem dX3_init_7 : decode cX3_init 7 = .ok (.anewarray 9, 3) := by decide +kernel
theorem dX3_init_10 : decode cX3_init 10 = .ok (.putfield 11, 3) := by decide +kernel
theorem dX3_init_13 : decode cX3_init 13 = .ok (.aload_n 0, 1) := by decide +kernel
theorem dX3_init_14 : decode cX3_init 14 = .ok (.iconst 0, 1) := by decide +kernel
theorem dX3_init_15 : decode cX3_init 15 = .ok (.putfield 17, 3) := by decide +kernel
theorem dX3_init_18 : decode cX3_init 18 = .ok (.aload_n 0, 1) := by decide +kernel
theorem dX3_init_19 : decode cX3_init 19 = .ok (.iconst 0, 1) := by decide +kernel
theorem dX3_init_20 : decode cX3_init 20 = .ok (.putfield 21, 3) := by decide +kernel
theorem dX3_init_23 : decode cX3_init 23 = .ok (.iconst 0, 1) := by decide +kernel
theorem dX3_init_24 : decode cX3_init 24 = .ok (.istore_n 1, 1) := by decide +kernel
theorem dX3_init_25 : decode cX3_init 25 = .ok (.iload_n 1, 1) := by decide +kernel
theorem dX3_init_26 : decode cX3_init 26 = .ok (.bipush 9, 2) := by decide +kernel
theorem dX3_init_28 : decode cX3_init 28 = .ok (.if_icmp .ge 22, 3) := by decide +kernel
theorem dX3_init_31 : decode cX3_init 31 = .ok (.aload_n 0, 1) := by decide +kernel
theorem dX3_init_32 : decode cX3_init 32 = .ok (.getfield 11, 3) := by decide +kernel
theorem dX3_init_35 : decode cX3_init 35 = .ok (.iload_n 1, 1) := by decide +kernel
theorem dX3_init_36 : decode cX3_init 36 = .ok (.new 9, 3) := by decide +kernel
theorem dX3_init_39 : decode cX3_init 39 = .ok (.dup, 1) := by decide +kernel
theorem dX3_init_40 : decode cX3_init 40 = .ok (.invokespecial 24, 3) := by decide +kernel
theorem dX3_init_43 : decode cX3_init 43 = .ok (.aastore, 1) := by decide +kernel
theorem dX3_init_44 : decode cX3_init 44 = .ok (.iinc 1 1, 3) := by decide +kernel
theorem dX3_init_47 : decode cX3_init 47 = .ok (.goto (-22), 3) := by decide +kernel
theorem dX3_init_50 : decode cX3_init 50 = .ok (.return_, 1) := by decide +kernel
theorem dX3_keep_0 : decode cX3_keep 0 = .ok (.aload_n 0, 1) := by decide +kernel
theorem dX3_keep_1 : decode cX3_keep 1 = .ok (.getfield 11, 3) := by decide +kernel
theorem dX3_keep_4 : decode cX3_keep 4 = .ok (.aload_n 0, 1) := by decide +kernel
theorem dX3_keep_5 : decode cX3_keep 5 = .ok (.getfield 17, 3) := by decide +kernel
theorem dX3_keep_8 : decode cX3_keep 8 = .ok (.aaload, 1) := by decide +kernel
theorem dX3_keep_9 : decode cX3_keep 9 = .ok (.aload_n 1, 1) := by decide +kernel
theorem dX3_keep_10 : decode cX3_keep 10 = .ok (.invokevirtual 25, 3) := by decide +kernel
theorem dX3_keep_13 : decode cX3_keep 13 = .ok (.return_, 1) := by decide +kernel
theorem dX3_confirm_0 : decode cX3_confirm 0 = .ok (.aload_n 0, 1) := by decide +kernel
theorem dX3_confirm_1 : decode cX3_confirm 1 = .ok (.aload_n 0, 1) := by decide +kernel
theorem dX3_confirm_2 : decode cX3_confirm 2 = .ok (.getfield 17, 3) := by decide +kernel
theorem dX3_confirm_5 : decode cX3_confirm 5 = .ok (.iconst 1, 1) := by decide +kernel
theorem dX3_confirm_6 : decode cX3_confirm 6 = .ok (.iadd, 1) := by decide +kernel
theorem dX3_confirm_7 : decode cX3_confirm 7 = .ok (.bipush 9, 2) := by decide +kernel
theorem dX3_confirm_9 : decode cX3_confirm 9 = .ok (.irem, 1) := by decide +kernel
theorem dX3_confirm_10 : decode cX3_confirm 10 = .ok (.putfield 17, 3) := by decide +kernel
theorem dX3_confirm_13 : decode cX3_confirm 13 = .ok (.aload_n 0, 1) := by decide +kernel
theorem dX3_confirm_14 : decode cX3_confirm 14 = .ok (.aload_n 0, 1) := by decide +kernel
theorem dX3_confirm_15 : decode cX3_confirm 15 = .ok (.getfield 21, 3) := by decide +kernel
theorem dX3_confirm_18 : decode cX3_confirm 18 = .ok (.iconst 1, 1) := by decide +kernel
theorem dX3_confirm_19 : decode cX3_confirm 19 = .ok (.iadd, 1) := by decide +kernel
theorem dX3_confirm_20 : decode cX3_confirm 20 = .ok (.bipush 8, 2) := by decide +kernel
theorem dX3_confirm_22 : decode cX3_confirm 22 = .ok (.invokestatic 29, 3) := by decide +kernel
theorem dX3_confirm_25 : decode cX3_confirm 25 = .ok (.putfield 21, 3) := by decide +kernel
theorem dX3_confirm_28 : decode cX3_confirm 28 = .ok (.return_, 1) := by decide +kernel
theorem dX3_revert_0 : decode cX3_revert 0 = .ok (.aload_n 1, 1) := by decide +kernel
theorem dX3_revert_1 : decode cX3_revert 1 = .ok (.aload_n 0, 1) := by decide +kernel
theorem dX3_revert_2 : decode cX3_revert 2 = .ok (.getfield 11, 3) := by decide +kernel
theorem dX3_revert_5 : decode cX3_revert 5 = .ok (.aload_n 0, 1) := by decide +kernel
theorem dX3_revert_6 : decode cX3_revert 6 = .ok (.getfield 17, 3) := by decide +kernel
theorem dX3_revert_9 : decode cX3_revert 9 = .ok (.aaload, 1) := by decide +kernel
theorem dX3_revert_10 : decode cX3_revert 10 = .ok (.invokevirtual 25, 3) := by decide +kernel
theorem dX3_revert_13 : decode cX3_revert 13 = .ok (.return_, 1) := by decide +kernel
theorem dX3_stepBack_0 : decode cX3_stepBack 0 = .ok (.aload_n 0, 1) := by decide +kernel
theorem dX3_stepBack_1 : decode cX3_stepBack 1 = .ok (.aload_n 0, 1) := by decide +kernel
theorem dX3_stepBack_2 : decode cX3_stepBack 2 = .ok (.getfield 17, 3) := by decide +kernel
theorem dX3_stepBack_5 : decode cX3_stepBack 5 = .ok (.bipush 8, 2) := by decide +kernel
theorem dX3_stepBack_7 : decode cX3_stepBack 7 = .ok (.iadd, 1) := by decide +kernel
theorem dX3_stepBack_8 : decode cX3_stepBack 8 = .ok (.bipush 9, 2) := by decide +kernel
theorem dX3_stepBack_10 : decode cX3_stepBack 10 = .ok (.irem, 1) := by decide +kernel
theorem dX3_stepBack_11 : decode cX3_stepBack 11 = .ok (.putfield 17, 3) := by decide +kernel
theorem dX3_stepBack_14 : decode cX3_stepBack 14 = .ok (.aload_n 1, 1) := by decide +kernel
theorem dX3_stepBack_15 : decode cX3_stepBack 15 = .ok (.aload_n 0, 1) := by decide +kernel
theorem dX3_stepBack_16 : decode cX3_stepBack 16 = .ok (.getfield 11, 3) := by decide +kernel
theorem dX3_stepBack_19 : decode cX3_stepBack 19 = .ok (.aload_n 0, 1) := by decide +kernel
theorem dX3_stepBack_20 : decode cX3_stepBack 20 = .ok (.getfield 17, 3) := by decide +kernel
theorem dX3_stepBack_23 : decode cX3_stepBack 23 = .ok (.aaload, 1) := by decide +kernel
theorem dX3_stepBack_24 : decode cX3_stepBack 24 = .ok (.invokevirtual 25, 3) := by decide +kernel
theorem dX3_stepBack_27 : decode cX3_stepBack 27 = .ok (.aload_n 0, 1) := by decide +kernel
theorem dX3_stepBack_28 : decode cX3_stepBack 28 = .ok (.dup, 1) := by decide +kernel
theorem dX3_stepBack_29 : decode cX3_stepBack 29 = .ok (.getfield 21, 3) := by decide +kernel
theorem dX3_stepBack_32 : decode cX3_stepBack 32 = .ok (.iconst 1, 1) := by decide +kernel
theorem dX3_stepBack_33 : decode cX3_stepBack 33 = .ok (.isub, 1) := by decide +kernel
theorem dX3_stepBack_34 : decode cX3_stepBack 34 = .ok (.putfield 21, 3) := by decide +kernel
theorem dX3_stepBack_37 : decode cX3_stepBack 37 = .ok (.aload_n 0, 1) := by decide +kernel
theorem dX3_stepBack_38 : decode cX3_stepBack 38 = .ok (.getfield 21, 3) := by decide +kernel
theorem dX3_stepBack_41 : decode cX3_stepBack 41 = .ok (.ireturn, 1) := by decide +kernel
theorem dX3_forget_0 : decode cX3_forget 0 = .ok (.aload_n 0, 1) := by decide +kernel
theorem dX3_forget_1 : decode cX3_forget 1 = .ok (.iconst 0, 1) := by decide +kernel
theorem dX3_forget_2 : decode cX3_forget 2 = .ok (.putfield 21, 3) := by decide +kernel
theorem dX3_forget_5 : decode cX3_forget 5 = .ok (.return_, 1) := by decide +kernel
theorem dX4_init_0 : decode cX4_init 0 = .ok (.aload_n 0, 1) := by decide +kernel
theorem dX4_init_1 : decode cX4_init 1 = .ok (.invokespecial 3, 3) := by decide +kernel
theorem dX4_init_4 : decode cX4_init 4 = .ok (.aload_n 0, 1) := by decide +kernel
theorem dX4_init_5 : decode cX4_init 5 = .ok (.iconst 0, 1) := by decide +kernel
theorem dX4_init_6 : decode cX4_init 6 = .ok (.putfield 9, 3) := by decide +kernel
theorem dX4_init_9 : decode cX4_init 9 = .ok (.aload_n 0, 1) := by decide +kernel
theorem dX4_init_10 : decode cX4_init 10 = .ok (.iconst 0, 1) := by decide +kernel
theorem dX4_init_11 : decode cX4_init 11 = .ok (.putfield 15, 3) := by decide +kernel
theorem dX4_init_14 : decode cX4_init 14 = .ok (.aload_n 0, 1) := by decide +kernel
theorem dX4_init_15 : decode cX4_init 15 = .ok (.iconst 0, 1) := by decide +kernel
theorem dX4_init_16 : decode cX4_init 16 = .ok (.putfield 18, 3) := by decide +kernel
theorem dX4_init_19 : decode cX4_init 19 = .ok (.aload_n 0, 1) := by decide +kernel
theorem dX4_init_20 : decode cX4_init 20 = .ok (.iconst 0, 1) := by decide +kernel
theorem dX4_init_21 : decode cX4_init 21 = .ok (.putfield 21, 3) := by decide +kernel
theorem dX4_init_24 : decode cX4_init 24 = .ok (.aload_n 0, 1) := by decide +kernel
theorem dX4_init_25 : decode cX4_init 25 = .ok (.iconst 0, 1) := by decide +kernel
theorem dX4_init_26 : decode cX4_init 26 = .ok (.putfield 24, 3) := by decide +kernel
theorem dX4_init_29 : decode cX4_init 29 = .ok (.aload_n 0, 1) := by decide +kernel
theorem dX4_init_30 : decode cX4_init 30 = .ok (.iconst 0, 1) := by decide +kernel
theorem dX4_init_31 : decode cX4_init 31 = .ok (.putfield 27, 3) := by decide +kernel
theorem dX4_init_34 : decode cX4_init 34 = .ok (.aload_n 0, 1) := by decide +kernel
theorem dX4_init_35 : decode cX4_init 35 = .ok (.iconst 0, 1) := by decide +kernel
theorem dX4_init_36 : decode cX4_init 36 = .ok (.putfield 30, 3) := by decide +kernel
theorem dX4_init_39 : decode cX4_init 39 = .ok (.aload_n 0, 1) := by decide +kernel
theorem dX4_init_40 : decode cX4_init 40 = .ok (.bipush 14, 2) := by decide +kernel
theorem dX4_init_42 : decode cX4_init 42 = .ok (.newarray .int, 2) := by decide +kernel
theorem dX4_init_44 : decode cX4_init 44 = .ok (.putfield 33, 3) := by decide +kernel
theorem dX4_init_47 : decode cX4_init 47 = .ok (.aload_n 0, 1) := by decide +kernel
theorem dX4_init_48 : decode cX4_init 48 = .ok (.bipush 14, 2) := by decide +kernel
theorem dX4_init_50 : decode cX4_init 50 = .ok (.newarray .int, 2) := by decide +kernel
theorem dX4_init_52 : decode cX4_init 52 = .ok (.putfield 37, 3) := by decide +kernel
theorem dX4_init_55 : decode cX4_init 55 = .ok (.aload_n 0, 1) := by decide +kernel
theorem dX4_init_56 : decode cX4_init 56 = .ok (.bipush 6, 2) := by decide +kernel
theorem dX4_init_58 : decode cX4_init 58 = .ok (.newarray .int, 2) := by decide +kernel
theorem dX4_init_60 : decode cX4_init 60 = .ok (.putfield 40, 3) := by decide +kernel
theorem dX4_init_63 : decode cX4_init 63 = .ok (.aload_n 0, 1) := by decide +kernel
theorem dX4_init_64 : decode cX4_init 64 = .ok (.bipush 6, 2) := by decide +kernel
theorem dX4_init_66 : decode cX4_init 66 = .ok (.newarray .int, 2) := by decide +kernel
theorem dX4_init_68 : decode cX4_init 68 = .ok (.putfield 43, 3) := by decide +kernel
theorem dX4_init_71 : decode cX4_init 71 = .ok (.aload_n 0, 1) := by decide +kernel
theorem dX4_init_72 : decode cX4_init 72 = .ok (.bipush 6, 2) := by decide +kernel
theorem dX4_init_74 : decode cX4_init 74 = .ok (.newarray .int, 2) := by decide +kernel
theorem dX4_init_76 : decode cX4_init 76 = .ok (.putfield 46, 3) := by decide +kernel
theorem dX4_init_79 : decode cX4_init 79 = .ok (.aload_n 0, 1) := by decide +kernel
theorem dX4_init_80 : decode cX4_init 80 = .ok (.bipush 6, 2) := by decide +kernel
theorem dX4_init_82 : decode cX4_init 82 = .ok (.newarray .int, 2) := by decide +kernel
theorem dX4_init_84 : decode cX4_init 84 = .ok (.putfield 49, 3) := by decide +kernel
theorem dX4_init_87 : decode cX4_init 87 = .ok (.aload_n 0, 1) := by decide +kernel
theorem dX4_init_88 : decode cX4_init 88 = .ok (.bipush 6, 2) := by decide +kernel
theorem dX4_init_90 : decode cX4_init 90 = .ok (.newarray .int, 2) := by decide +kernel
theorem dX4_init_92 : decode cX4_init 92 = .ok (.putfield 52, 3) := by decide +kernel
theorem dX4_init_95 : decode cX4_init 95 = .ok (.aload_n 0, 1) := by decide +kernel
theorem dX4_init_96 : decode cX4_init 96 = .ok (.bipush 6, 2) := by decide +kernel
theorem dX4_init_98 : decode cX4_init 98 = .ok (.newarray .int, 2) := by decide +kernel
theorem dX4_init_100 : decode cX4_init 100 = .ok (.putfield 55, 3) := by decide +kernel
theorem dX4_init_103 : decode cX4_init 103 = .ok (.return_, 1) := by decide +kernel
theorem dX4_copyFrom_0 : decode cX4_copyFrom 0 = .ok (.aload_n 0, 1) := by decide +kernel
theorem dX4_copyFrom_1 : decode cX4_copyFrom 1 = .ok (.aload_n 1, 1) := by decide +kernel
theorem dX4_copyFrom_2 : decode cX4_copyFrom 2 = .ok (.getfield 9, 3) := by decide +kernel
theorem dX4_copyFrom_5 : decode cX4_copyFrom 5 = .ok (.putfield 9, 3) := by decide +kernel
theorem dX4_copyFrom_8 : decode cX4_copyFrom 8 = .ok (.aload_n 0, 1) := by decide +kernel
theorem dX4_copyFrom_9 : decode cX4_copyFrom 9 = .ok (.aload_n 1, 1) := by decide +kernel
theorem dX4_copyFrom_10 : decode cX4_copyFrom 10 = .ok (.getfield 15, 3) := by decide +kernel
theorem dX4_copyFrom_13 : decode cX4_copyFrom 13 = .ok (.putfield 15, 3) := by decide +kernel
theorem dX4_copyFrom_16 : decode cX4_copyFrom 16 = .ok (.aload_n 0, 1) := by decide +kernel
theorem dX4_copyFrom_17 : decode cX4_copyFrom 17 = .ok (.aload_n 1, 1) := by decide +kernel
theorem dX4_copyFrom_18 : decode cX4_copyFrom 18 = .ok (.getfield 18, 3) := by decide +kernel
theorem dX4_copyFrom_21 : decode cX4_copyFrom 21 = .ok (.putfield 18, 3) := by decide +kernel
theorem dX4_copyFrom_24 : decode cX4_copyFrom 24 = .ok (.aload_n 0, 1) := by decide +kernel
theorem dX4_copyFrom_25 : decode cX4_copyFrom 25 = .ok (.aload_n 1, 1) := by decide +kernel
theorem dX4_copyFrom_26 : decode cX4_copyFrom 26 = .ok (.getfield 21, 3) := by decide +kernel
theorem dX4_copyFrom_29 : decode cX4_copyFrom 29 = .ok (.putfield 21, 3) := by decide +kernel
theorem dX4_copyFrom_32 : decode cX4_copyFrom 32 = .ok (.aload_n 0, 1) := by decide +kernel
theorem dX4_copyFrom_33 : decode cX4_copyFrom 33 = .ok (.aload_n 1, 1) := by decide +kernel
theorem dX4_copyFrom_34 : decode cX4_copyFrom 34 = .ok (.getfield 24, 3) := by decide +kernel
theorem dX4_copyFrom_37 : decode cX4_copyFrom 37 = .ok (.putfield 24, 3) := by decide +kernel
theorem dX4_copyFrom_40 : decode cX4_copyFrom 40 = .ok (.aload_n 0, 1) := by decide +kernel
theorem dX4_copyFrom_41 : decode cX4_copyFrom 41 = .ok (.aload_n 1, 1) := by decide +kernel
theorem dX4_copyFrom_42 : decode cX4_copyFrom 42 = .ok (.getfield 27, 3) := by decide +kernel
theorem dX4_copyFrom_45 : decode cX4_copyFrom 45 = .ok (.putfield 27, 3) := by decide +kernel
theorem dX4_copyFrom_48 : decode cX4_copyFrom 48 = .ok (.aload_n 0, 1) := by decide +kernel
theorem dX4_copyFrom_49 : decode cX4_copyFrom 49 = .ok (.aload_n 1, 1) := by decide +kernel
theorem dX4_copyFrom_50 : decode cX4_copyFrom 50 = .ok (.getfield 30, 3) := by decide +kernel
theorem dX4_copyFrom_53 : decode cX4_copyFrom 53 = .ok (.putfield 30, 3) := by decide +kernel
theorem dX4_copyFrom_56 : decode cX4_copyFrom 56 = .ok (.aload_n 1, 1) := by decide +kernel
theorem dX4_copyFrom_57 : decode cX4_copyFrom 57 = .ok (.getfield 33, 3) := by decide +kernel
theorem dX4_copyFrom_60 : decode cX4_copyFrom 60 = .ok (.iconst 0, 1) := by decide +kernel
theorem dX4_copyFrom_61 : decode cX4_copyFrom 61 = .ok (.aload_n 0, 1) := by decide +kernel
theorem dX4_copyFrom_62 : decode cX4_copyFrom 62 = .ok (.getfield 33, 3) := by decide +kernel
theorem dX4_copyFrom_65 : decode cX4_copyFrom 65 = .ok (.iconst 0, 1) := by decide +kernel
theorem dX4_copyFrom_66 : decode cX4_copyFrom 66 = .ok (.bipush 14, 2) := by decide +kernel
theorem dX4_copyFrom_68 : decode cX4_copyFrom 68 = .ok (.invokestatic 58, 3) := by decide +kernel
theorem dX4_copyFrom_71 : decode cX4_copyFrom 71 = .ok (.aload_n 1, 1) := by decide +kernel
theorem dX4_copyFrom_72 : decode cX4_copyFrom 72 = .ok (.getfield 37, 3) := by decide +kernel
theorem dX4_copyFrom_75 : decode cX4_copyFrom 75 = .ok (.iconst 0, 1) := by decide +kernel
theorem dX4_copyFrom_76 : decode cX4_copyFrom 76 = .ok (.aload_n 0, 1) := by decide +kernel
theorem dX4_copyFrom_77 : decode cX4_copyFrom 77 = .ok (.getfield 37, 3) := by decide +kernel
theorem dX4_copyFrom_80 : decode cX4_copyFrom 80 = .ok (.iconst 0, 1) := by decide +kernel
theorem dX4_copyFrom_81 : decode cX4_copyFrom 81 = .ok (.bipush 14, 2) := by decide +kernel
theorem dX4_copyFrom_83 : decode cX4_copyFrom 83 = .ok (.invokestatic 58, 3) := by decide +kernel
theorem dX4_copyFrom_86 : decode cX4_copyFrom 86 = .ok (.aload_n 1, 1) := by decide +kernel
theorem dX4_copyFrom_87 : decode cX4_copyFrom 87 = .ok (.getfield 40, 3) := by decide +kernel
theorem dX4_copyFrom_90 : decode cX4_copyFrom 90 = .ok (.iconst 0, 1) := by decide +kernel
theorem dX4_copyFrom_91 : decode cX4_copyFrom 91 = .ok (.aload_n 0, 1) := by decide +kernel
theorem dX4_copyFrom_92 : decode cX4_copyFrom 92 = .ok (.getfield 40, 3) := by decide +kernel
theorem dX4_copyFrom_95 : decode cX4_copyFrom 95 = .ok (.iconst 0, 1) := by decide +kernel
theorem dX4_copyFrom_96 : decode cX4_copyFrom 96 = .ok (.bipush 6, 2) := by decide +kernel
theorem dX4_copyFrom_98 : decode cX4_copyFrom 98 = .ok (.invokestatic 58, 3) := by decide +kernel
theorem dX4_copyFrom_101 : decode cX4_copyFrom 101 = .ok (.aload_n 1, 1) := by decide +kernel
theorem dX4_copyFrom_102 : decode cX4_copyFrom 102 = .ok (.getfield 43, 3) := by decide +kernel
theorem dX4_copyFrom_105 : decode cX4_copyFrom 105 = .ok (.iconst 0, 1) := by decide +kernel
theorem dX4_copyFrom_106 : decode cX4_copyFrom 106 = .ok (.aload_n 0, 1) := by decide +kernel
theorem dX4_copyFrom_107 : decode cX4_copyFrom 107 = .ok (.getfield 43, 3) := by decide +kernel
theorem dX4_copyFrom_110 : decode cX4_copyFrom 110 = .ok (.iconst 0, 1) := by decide +kernel
theorem dX4_copyFrom_111 : decode cX4_copyFrom 111 = .ok (.bipush 6, 2) := by decide +kernel
theorem dX4_copyFrom_113 : decode cX4_copyFrom 113 = .ok (.invokestatic 58, 3) := by decide +kernel
theorem dX4_copyFrom_116 : decode cX4_copyFrom 116 = .ok (.aload_n 1, 1) := by decide +kernel
theorem dX4_copyFrom_117 : decode cX4_copyFrom 117 = .ok (.getfield 46, 3) := by decide +kernel
theorem dX4_copyFrom_120 : decode cX4_copyFrom 120 = .ok (.iconst 0, 1) := by decide +kernel
theorem dX4_copyFrom_121 : decode cX4_copyFrom 121 = .ok (.aload_n 0, 1) := by decide +kernel
theorem dX4_copyFrom_122 : decode cX4_copyFrom 122 = .ok (.getfield 46, 3) := by decide +kernel
theorem dX4_copyFrom_125 : decode cX4_copyFrom 125 = .ok (.iconst 0, 1) := by decide +kernel
theorem dX4_copyFrom_126 : decode cX4_copyFrom 126 = .ok (.bipush 6, 2) := by decide +kernel
theorem dX4_copyFrom_128 : decode cX4_copyFrom 128 = .ok (.invokestatic 58, 3) := by decide +kernel
theorem dX4_copyFrom_131 : decode cX4_copyFrom 131 = .ok (.aload_n 1, 1) := by decide +kernel
theorem dX4_copyFrom_132 : decode cX4_copyFrom 132 = .ok (.getfield 49, 3) := by decide +kernel
theorem dX4_copyFrom_135 : decode cX4_copyFrom 135 = .ok (.iconst 0, 1) := by decide +kernel
theorem dX4_copyFrom_136 : decode cX4_copyFrom 136 = .ok (.aload_n 0, 1) := by decide +kernel
theorem dX4_copyFrom_137 : decode cX4_copyFrom 137 = .ok (.getfield 49, 3) := by decide +kernel
theorem dX4_copyFrom_140 : decode cX4_copyFrom 140 = .ok (.iconst 0, 1) := by decide +kernel
theorem dX4_copyFrom_141 : decode cX4_copyFrom 141 = .ok (.bipush 6, 2) := by decide +kernel
theorem dX4_copyFrom_143 : decode cX4_copyFrom 143 = .ok (.invokestatic 58, 3) := by decide +kernel
theorem dX4_copyFrom_146 : decode cX4_copyFrom 146 = .ok (.aload_n 1, 1) := by decide +kernel
theorem dX4_copyFrom_147 : decode cX4_copyFrom 147 = .ok (.getfield 52, 3) := by decide +kernel
theorem dX4_copyFrom_150 : decode cX4_copyFrom 150 = .ok (.iconst 0, 1) := by decide +kernel
theorem dX4_copyFrom_151 : decode cX4_copyFrom 151 = .ok (.aload_n 0, 1) := by decide +kernel
theorem dX4_copyFrom_152 : decode cX4_copyFrom 152 = .ok (.getfield 52, 3) := by decide +kernel
theorem dX4_copyFrom_155 : decode cX4_copyFrom 155 = .ok (.iconst 0, 1) := by decide +kernel
theorem dX4_copyFrom_156 : decode cX4_copyFrom 156 = .ok (.bipush 6, 2) := by decide +kernel
theorem dX4_copyFrom_158 : decode cX4_copyFrom 158 = .ok (.invokestatic 58, 3) := by decide +kernel
theorem dX4_copyFrom_161 : decode cX4_copyFrom 161 = .ok (.aload_n 1, 1) := by decide +kernel
theorem dX4_copyFrom_162 : decode cX4_copyFrom 162 = .ok (.getfield 55, 3) := by decide +kernel
theorem dX4_copyFrom_165 : decode cX4_copyFrom 165 = .ok (.iconst 0, 1) := by decide +kernel
theorem dX4_copyFrom_166 : decode cX4_copyFrom 166 = .ok (.aload_n 0, 1) := by decide +kernel
theorem dX4_copyFrom_167 : decode cX4_copyFrom 167 = .ok (.getfield 55, 3) := by decide +kernel
theorem dX4_copyFrom_170 : decode cX4_copyFrom 170 = .ok (.iconst 0, 1) := by decide +kernel
theorem dX4_copyFrom_171 : decode cX4_copyFrom 171 = .ok (.bipush 6, 2) := by decide +kernel
theorem dX4_copyFrom_173 : decode cX4_copyFrom 173 = .ok (.invokestatic 58, 3) := by decide +kernel
theorem dX4_copyFrom_176 : decode cX4_copyFrom 176 = .ok (.return_, 1) := by decide +kernel
theorem dX4_isBlock_0 : decode cX4_isBlock 0 = .ok (.iload_n 1, 1) := by decide +kernel
theorem dX4_isBlock_1 : decode cX4_isBlock 1 = .ok (.ifCond .lt 15, 3) := by decide +kernel
theorem dX4_isBlock_4 : decode cX4_isBlock 4 = .ok (.iload_n 1, 1) := by decide +kernel
theorem dX4_isBlock_5 : decode cX4_isBlock 5 = .ok (.aload_n 0, 1) := by decide +kernel
theorem dX4_isBlock_6 : decode cX4_isBlock 6 = .ok (.getfield 9, 3) := by decide +kernel
theorem dX4_isBlock_9 : decode cX4_isBlock 9 = .ok (.if_icmp .ge 7, 3) := by decide +kernel
theorem dX4_isBlock_12 : decode cX4_isBlock 12 = .ok (.iconst 1, 1) := by decide +kernel
theorem dX4_isBlock_13 : decode cX4_isBlock 13 = .ok (.goto 4, 3) := by decide +kernel
theorem dX4_isBlock_16 : decode cX4_isBlock 16 = .ok (.iconst 0, 1) := by decide +kernel
theorem dX4_isBlock_17 : decode cX4_isBlock 17 = .ok (.ireturn, 1) := by decide +kernel
theorem dX4_isTrain_0 : decode cX4_isTrain 0 = .ok (.iload_n 1, 1) := by decide +kernel
theorem dX4_isTrain_1 : decode cX4_isTrain 1 = .ok (.ifCond .lt 15, 3) := by decide +kernel
theorem dX4_isTrain_4 : decode cX4_isTrain 4 = .ok (.iload_n 1, 1) := by decide +kernel
theorem dX4_isTrain_5 : decode cX4_isTrain 5 = .ok (.aload_n 0, 1) := by decide +kernel
theorem dX4_isTrain_6 : decode cX4_isTrain 6 = .ok (.getfield 15, 3) := by decide +kernel
theorem dX4_isTrain_9 : decode cX4_isTrain 9 = .ok (.if_icmp .ge 7, 3) := by decide +kernel
theorem dX4_isTrain_12 : decode cX4_isTrain 12 = .ok (.iconst 1, 1) := by decide +kernel
theorem dX4_isTrain_13 : decode cX4_isTrain 13 = .ok (.goto 4, 3) := by decide +kernel
theorem dX4_isTrain_16 : decode cX4_isTrain 16 = .ok (.iconst 0, 1) := by decide +kernel
theorem dX4_isTrain_17 : decode cX4_isTrain 17 = .ok (.ireturn, 1) := by decide +kernel
theorem dX4_isJoined_0 : decode cX4_isJoined 0 = .ok (.aload_n 0, 1) := by decide +kernel
theorem dX4_isJoined_1 : decode cX4_isJoined 1 = .ok (.getfield 37, 3) := by decide +kernel
theorem dX4_isJoined_4 : decode cX4_isJoined 4 = .ok (.iload_n 1, 1) := by decide +kernel
theorem dX4_isJoined_5 : decode cX4_isJoined 5 = .ok (.iaload, 1) := by decide +kernel
theorem dX4_isJoined_6 : decode cX4_isJoined 6 = .ok (.iload_n 2, 1) := by decide +kernel
theorem dX4_isJoined_7 : decode cX4_isJoined 7 = .ok (.invokestatic 64, 3) := by decide +kernel
theorem dX4_isJoined_10 : decode cX4_isJoined 10 = .ok (.ireturn, 1) := by decide +kernel
theorem dX4_trainAt_0 : decode cX4_trainAt 0 = .ok (.iconst 0, 1) := by decide +kernel
theorem dX4_trainAt_1 : decode cX4_trainAt 1 = .ok (.istore_n 2, 1) := by decide +kernel
theorem dX4_trainAt_2 : decode cX4_trainAt 2 = .ok (.iload_n 2, 1) := by decide +kernel
theorem dX4_trainAt_3 : decode cX4_trainAt 3 = .ok (.aload_n 0, 1) := by decide +kernel
theorem dX4_trainAt_4 : decode cX4_trainAt 4 = .ok (.getfield 15, 3) := by decide +kernel
theorem dX4_trainAt_7 : decode cX4_trainAt 7 = .ok (.if_icmp .ge 21, 3) := by decide +kernel
theorem dX4_trainAt_10 : decode cX4_trainAt 10 = .ok (.aload_n 0, 1) := by decide +kernel
theorem dX4_trainAt_11 : decode cX4_trainAt 11 = .ok (.getfield 40, 3) := by decide +kernel
theorem dX4_trainAt_14 : decode cX4_trainAt 14 = .ok (.iload_n 2, 1) := by decide +kernel
theorem dX4_trainAt_15 : decode cX4_trainAt 15 = .ok (.iaload, 1) := by decide +kernel
theorem dX4_trainAt_16 : decode cX4_trainAt 16 = .ok (.iload_n 1, 1) := by decide +kernel
theorem dX4_trainAt_17 : decode cX4_trainAt 17 = .ok (.if_icmp .ne 5, 3) := by decide +kernel
theorem dX4_trainAt_20 : decode cX4_trainAt 20 = .ok (.iload_n 2, 1) := by decide +kernel
theorem dX4_trainAt_21 : decode cX4_trainAt 21 = .ok (.ireturn, 1) := by decide +kernel
theorem dX4_trainAt_22 : decode cX4_trainAt 22 = .ok (.iinc 2 1, 3) := by decide +kernel
theorem dX4_trainAt_25 : decode cX4_trainAt 25 = .ok (.goto (-23), 3) := by decide +kernel
theorem dX4_trainAt_28 : decode cX4_trainAt 28 = .ok (.iconst (-1), 1) := by decide +kernel
theorem dX4_trainAt_29 : decode cX4_trainAt 29 = .ok (.ireturn, 1) := by decide +kernel
theorem dX4_holderOf_0 : decode cX4_holderOf 0 = .ok (.iconst 0, 1) := by decide +kernel
theorem dX4_holderOf_1 : decode cX4_holderOf 1 = .ok (.istore_n 2, 1) := by decide +kernel
theorem dX4_holderOf_2 : decode cX4_holderOf 2 = .ok (.iload_n 2, 1) := by decide +kernel
theorem dX4_holderOf_3 : decode cX4_holderOf 3 = .ok (.aload_n 0, 1) := by decide +kernel
theorem dX4_holderOf_4 : decode cX4_holderOf 4 = .ok (.getfield 15, 3) := by decide +kernel
theorem dX4_holderOf_7 : decode cX4_holderOf 7 = .ok (.if_icmp .ge 21, 3) := by decide +kernel
theorem dX4_holderOf_10 : decode cX4_holderOf 10 = .ok (.aload_n 0, 1) := by decide +kernel
theorem dX4_holderOf_11 : decode cX4_holderOf 11 = .ok (.getfield 52, 3) := by decide +kernel
theorem dX4_holderOf_14 : decode cX4_holderOf 14 = .ok (.iload_n 2, 1) := by decide +kernel
theorem dX4_holderOf_15 : decode cX4_holderOf 15 = .ok (.iaload, 1) := by decide +kernel
theorem dX4_holderOf_16 : decode cX4_holderOf 16 = .ok (.iload_n 1, 1) := by decide +kernel
theorem dX4_holderOf_17 : decode cX4_holderOf 17 = .ok (.if_icmp .ne 5, 3) := by decide +kernel
theorem dX4_holderOf_20 : decode cX4_holderOf 20 = .ok (.iload_n 2, 1) := by decide +kernel
theorem dX4_holderOf_21 : decode cX4_holderOf 21 = .ok (.ireturn, 1) := by decide +kernel
theorem dX4_holderOf_22 : decode cX4_holderOf 22 = .ok (.iinc 2 1, 3) := by decide +kernel
theorem dX4_holderOf_25 : decode cX4_holderOf 25 = .ok (.goto (-23), 3) := by decide +kernel
theorem dX4_holderOf_28 : decode cX4_holderOf 28 = .ok (.iconst (-1), 1) := by decide +kernel
theorem dX4_holderOf_29 : decode cX4_holderOf 29 = .ok (.ireturn, 1) := by decide +kernel
theorem dX4_signalOf_0 : decode cX4_signalOf 0 = .ok (.aload_n 0, 1) := by decide +kernel
theorem dX4_signalOf_1 : decode cX4_signalOf 1 = .ok (.getfield 27, 3) := by decide +kernel
theorem dX4_signalOf_4 : decode cX4_signalOf 4 = .ok (.iload_n 1, 1) := by decide +kernel
theorem dX4_signalOf_5 : decode cX4_signalOf 5 = .ok (.invokestatic 64, 3) := by decide +kernel
theorem dX4_signalOf_8 : decode cX4_signalOf 8 = .ok (.ifCond .eq 6, 3) := by decide +kernel
theorem dX4_signalOf_11 : decode cX4_signalOf 11 = .ok (.bipush 99, 2) := by decide +kernel
theorem dX4_signalOf_13 : decode cX4_signalOf 13 = .ok (.ireturn, 1) := by decide +kernel
theorem dX4_signalOf_14 : decode cX4_signalOf 14 = .ok (.aload_n 0, 1) := by decide +kernel
theorem dX4_signalOf_15 : decode cX4_signalOf 15 = .ok (.iload_n 1, 1) := by decide +kernel
theorem dX4_signalOf_16 : decode cX4_signalOf 16 = .ok (.invokevirtual 68, 3) := by decide +kernel
theorem dX4_signalOf_19 : decode cX4_signalOf 19 = .ok (.iconst (-1), 1) := by decide +kernel
theorem dX4_signalOf_20 : decode cX4_signalOf 20 = .ok (.if_icmp .eq 6, 3) := by decide +kernel
theorem dX4_signalOf_23 : decode cX4_signalOf 23 = .ok (.bipush 111, 2) := by decide +kernel
theorem dX4_signalOf_25 : decode cX4_signalOf 25 = .ok (.ireturn, 1) := by decide +kernel
theorem dX4_signalOf_26 : decode cX4_signalOf 26 = .ok (.aload_n 0, 1) := by decide +kernel
theorem dX4_signalOf_27 : decode cX4_signalOf 27 = .ok (.iload_n 1, 1) := by decide +kernel
theorem dX4_signalOf_28 : decode cX4_signalOf 28 = .ok (.invokevirtual 72, 3) := by decide +kernel
theorem dX4_signalOf_31 : decode cX4_signalOf 31 = .ok (.iconst (-1), 1) := by decide +kernel
theorem dX4_signalOf_32 : decode cX4_signalOf 32 = .ok (.if_icmp .eq 8, 3) := by decide +kernel
theorem dX4_signalOf_35 : decode cX4_signalOf 35 = .ok (.bipush 114, 2) := by decide +kernel
theorem dX4_signalOf_37 : decode cX4_signalOf 37 = .ok (.goto 5, 3) := by decide +kernel
theorem dX4_signalOf_40 : decode cX4_signalOf 40 = .ok (.bipush 102, 2) := by decide +kernel
theorem dX4_signalOf_42 : decode cX4_signalOf 42 = .ok (.ireturn, 1) := by decide +kernel
theorem dX4_trainAtRank_0 : decode cX4_trainAtRank 0 = .ok (.iconst 0, 1) := by decide +kernel
theorem dX4_trainAtRank_1 : decode cX4_trainAtRank 1 = .ok (.istore_n 2, 1) := by decide +kernel
theorem dX4_trainAtRank_2 : decode cX4_trainAtRank 2 = .ok (.bipush 9, 2) := by decide +kernel
theorem dX4_trainAtRank_4 : decode cX4_trainAtRank 4 = .ok (.istore_n 3, 1) := by decide +kernel
theorem dX4_trainAtRank_5 : decode cX4_trainAtRank 5 = .ok (.iload_n 3, 1) := by decide +kernel
theorem dX4_trainAtRank_6 : decode cX4_trainAtRank 6 = .ok (.iconst 1, 1) := by decide +kernel
theorem dX4_trainAtRank_7 : decode cX4_trainAtRank 7 = .ok (.if_icmp .lt 49, 3) := by decide +kernel
theorem dX4_trainAtRank_10 : decode cX4_trainAtRank 10 = .ok (.iconst 0, 1) := by decide +kernel
theorem dX4_trainAtRank_11 : decode cX4_trainAtRank 11 = .ok (.istore 4, 2) := by decide +kernel
theorem dX4_trainAtRank_13 : decode cX4_trainAtRank 13 = .ok (.iload 4, 2) := by decide +kernel
theorem dX4_trainAtRank_15 : decode cX4_trainAtRank 15 = .ok (.aload_n 0, 1) := by decide +kernel
theorem dX4_trainAtRank_16 : decode cX4_trainAtRank 16 = .ok (.getfield 15, 3) := by decide +kernel
theorem dX4_trainAtRank_19 : decode cX4_trainAtRank 19 = .ok (.if_icmp .ge 31, 3) := by decide +kernel
theorem dX4_trainAtRank_22 : decode cX4_trainAtRank 22 = .ok (.aload_n 0, 1) := by decide +kernel
theorem dX4_trainAtRank_23 : decode cX4_trainAtRank 23 = .ok (.getfield 43, 3) := by decide +kernel
theorem dX4_trainAtRank_26 : decode cX4_trainAtRank 26 = .ok (.iload 4, 2) := by decide +kernel
theorem dX4_trainAtRank_28 : decode cX4_trainAtRank 28 = .ok (.iaload, 1) := by decide +kernel
theorem dX4_trainAtRank_29 : decode cX4_trainAtRank 29 = .ok (.iload_n 3, 1) := by decide +kernel
theorem dX4_trainAtRank_30 : decode cX4_trainAtRank 30 = .ok (.if_icmp .ne 14, 3) := by decide +kernel
theorem dX4_trainAtRank_33 : decode cX4_trainAtRank 33 = .ok (.iload_n 2, 1) := by decide +kernel
theorem dX4_trainAtRank_34 : decode cX4_trainAtRank 34 = .ok (.iload_n 1, 1) := by decide +kernel
theorem dX4_trainAtRank_35 : decode cX4_trainAtRank 35 = .ok (.if_icmp .ne 6, 3) := by decide +kernel
theorem dX4_trainAtRank_38 : decode cX4_trainAtRank 38 = .ok (.iload 4, 2) := by decide +kernel
theorem dX4_trainAtRank_40 : decode cX4_trainAtRank 40 = .ok (.ireturn, 1) := by decide +kernel
theorem dX4_trainAtRank_41 : decode cX4_trainAtRank 41 = .ok (.iinc 2 1, 3) := by decide +kernel
theorem dX4_trainAtRank_44 : decode cX4_trainAtRank 44 = .ok (.iinc 4 1, 3) := by decide +kernel
theorem dX4_trainAtRank_47 : decode cX4_trainAtRank 47 = .ok (.goto (-34), 3) := by decide +kernel
theorem dX4_trainAtRank_50 : decode cX4_trainAtRank 50 = .ok (.iinc 3 (-1), 3) := by decide +kernel
theorem dX4_trainAtRank_53 : decode cX4_trainAtRank 53 = .ok (.goto (-48), 3) := by decide +kernel
theorem dX4_trainAtRank_56 : decode cX4_trainAtRank 56 = .ok (.iconst (-1), 1) := by decide +kernel
theorem dX4_trainAtRank_57 : decode cX4_trainAtRank 57 = .ok (.ireturn, 1) := by decide +kernel
theorem dX4_allWaits_0 : decode cX4_allWaits 0 = .ok (.iconst 0, 1) := by decide +kernel
theorem dX4_allWaits_1 : decode cX4_allWaits 1 = .ok (.istore_n 1, 1) := by decide +kernel
theorem dX4_allWaits_2 : decode cX4_allWaits 2 = .ok (.iconst 0, 1) := by decide +kernel
theorem dX4_allWaits_3 : decode cX4_allWaits 3 = .ok (.istore_n 2, 1) := by decide +kernel
theorem dX4_allWaits_4 : decode cX4_allWaits 4 = .ok (.iload_n 2, 1) := by decide +kernel
theorem dX4_allWaits_5 : decode cX4_allWaits 5 = .ok (.aload_n 0, 1) := by decide +kernel
theorem dX4_allWaits_6 : decode cX4_allWaits 6 = .ok (.getfield 15, 3) := by decide +kernel
theorem dX4_allWaits_9 : decode cX4_allWaits 9 = .ok (.if_icmp .ge 18, 3) := by decide +kernel
theorem dX4_allWaits_12 : decode cX4_allWaits 12 = .ok (.iload_n 1, 1) := by decide +kernel
theorem dX4_allWaits_13 : decode cX4_allWaits 13 = .ok (.aload_n 0, 1) := by decide +kernel
theorem dX4_allWaits_14 : decode cX4_allWaits 14 = .ok (.getfield 55, 3) := by decide +kernel
theorem dX4_allWaits_17 : decode cX4_allWaits 17 = .ok (.iload_n 2, 1) := by decide +kernel
theorem dX4_allWaits_18 : decode cX4_allWaits 18 = .ok (.iaload, 1) := by decide +kernel
theorem dX4_allWaits_19 : decode cX4_allWaits 19 = .ok (.iadd, 1) := by decide +kernel
theorem dX4_allWaits_20 : decode cX4_allWaits 20 = .ok (.istore_n 1, 1) := by decide +kernel
theorem dX4_allWaits_21 : decode cX4_allWaits 21 = .ok (.iinc 2 1, 3) := by decide +kernel
theorem dX4_allWaits_24 : decode cX4_allWaits 24 = .ok (.goto (-20), 3) := by decide +kernel
theorem dX4_allWaits_27 : decode cX4_allWaits 27 = .ok (.iload_n 1, 1) := by decide +kernel
theorem dX4_allWaits_28 : decode cX4_allWaits 28 = .ok (.ireturn, 1) := by decide +kernel
theorem dX4_placeBlock_0 : decode cX4_placeBlock 0 = .ok (.iload_n 1, 1) := by decide +kernel
theorem dX4_placeBlock_1 : decode cX4_placeBlock 1 = .ok (.iconst 1, 1) := by decide +kernel
theorem dX4_placeBlock_2 : decode cX4_placeBlock 2 = .ok (.if_icmp .lt 9, 3) := by decide +kernel
theorem dX4_placeBlock_5 : decode cX4_placeBlock 5 = .ok (.iload_n 1, 1) := by decide +kernel
theorem dX4_placeBlock_6 : decode cX4_placeBlock 6 = .ok (.bipush 9, 2) := by decide +kernel
theorem dX4_placeBlock_8 : decode cX4_placeBlock 8 = .ok (.if_icmp .le 6, 3) := by decide +kernel
theorem dX4_placeBlock_11 : decode cX4_placeBlock 11 = .ok (.bipush (-12), 2) := by decide +kernel
theorem dX4_placeBlock_13 : decode cX4_placeBlock 13 = .ok (.ireturn, 1) := by decide +kernel
theorem dX4_placeBlock_14 : decode cX4_placeBlock 14 = .ok (.aload_n 0, 1) := by decide +kernel
theorem dX4_placeBlock_15 : decode cX4_placeBlock 15 = .ok (.getfield 9, 3) := by decide +kernel
theorem dX4_placeBlock_18 : decode cX4_placeBlock 18 = .ok (.bipush 14, 2) := by decide +kernel
theorem dX4_placeBlock_20 : decode cX4_placeBlock 20 = .ok (.if_icmp .lt 6, 3) := by decide +kernel
theorem dX4_placeBlock_23 : decode cX4_placeBlock 23 = .ok (.bipush (-13), 2) := by decide +kernel
theorem dX4_placeBlock_25 : decode cX4_placeBlock 25 = .ok (.ireturn, 1) := by decide +kernel
theorem dX4_placeBlock_26 : decode cX4_placeBlock 26 = .ok (.aload_n 0, 1) := by decide +kernel
theorem dX4_placeBlock_27 : decode cX4_placeBlock 27 = .ok (.getfield 9, 3) := by decide +kernel
theorem dX4_placeBlock_30 : decode cX4_placeBlock 30 = .ok (.istore_n 3, 1) := by decide +kernel
theorem dX4_placeBlock_31 : decode cX4_placeBlock 31 = .ok (.aload_n 0, 1) := by decide +kernel
theorem dX4_placeBlock_32 : decode cX4_placeBlock 32 = .ok (.getfield 33, 3) := by decide +kernel
theorem dX4_placeBlock_35 : decode cX4_placeBlock 35 = .ok (.iload_n 3, 1) := by decide +kernel
theorem dX4_placeBlock_36 : decode cX4_placeBlock 36 = .ok (.iload_n 1, 1) := by decide +kernel
theorem dX4_placeBlock_37 : decode cX4_placeBlock 37 = .ok (.iastore, 1) := by decide +kernel
theorem dX4_placeBlock_38 : decode cX4_placeBlock 38 = .ok (.iload_n 2, 1) := by decide +kernel
theorem dX4_placeBlock_39 : decode cX4_placeBlock 39 = .ok (.ifCond .eq 15, 3) := by decide +kernel
theorem dX4_placeBlock_42 : decode cX4_placeBlock 42 = .ok (.aload_n 0, 1) := by decide +kernel
theorem dX4_placeBlock_43 : decode cX4_placeBlock 43 = .ok (.dup, 1) := by decide +kernel
theorem dX4_placeBlock_44 : decode cX4_placeBlock 44 = .ok (.getfield 24, 3) := by decide +kernel
theorem dX4_placeBlock_47 : decode cX4_placeBlock 47 = .ok (.iconst 1, 1) := by decide +kernel
theorem dX4_placeBlock_48 : decode cX4_placeBlock 48 = .ok (.iload_n 3, 1) := by decide +kernel
theorem dX4_placeBlock_49 : decode cX4_placeBlock 49 = .ok (.ishl, 1) := by decide +kernel
theorem dX4_placeBlock_50 : decode cX4_placeBlock 50 = .ok (.ior, 1) := by decide +kernel
theorem dX4_placeBlock_51 : decode cX4_placeBlock 51 = .ok (.putfield 24, 3) := by decide +kernel
theorem dX4_placeBlock_54 : decode cX4_placeBlock 54 = .ok (.aload_n 0, 1) := by decide +kernel
theorem dX4_placeBlock_55 : decode cX4_placeBlock 55 = .ok (.dup, 1) := by decide +kernel
theorem dX4_placeBlock_56 : decode cX4_placeBlock 56 = .ok (.getfield 9, 3) := by decide +kernel
theorem dX4_placeBlock_59 : decode cX4_placeBlock 59 = .ok (.iconst 1, 1) := by decide +kernel
theorem dX4_placeBlock_60 : decode cX4_placeBlock 60 = .ok (.iadd, 1) := by decide +kernel
theorem dX4_placeBlock_61 : decode cX4_placeBlock 61 = .ok (.putfield 9, 3) := by decide +kernel
theorem dX4_placeBlock_64 : decode cX4_placeBlock 64 = .ok (.iload_n 3, 1) := by decide +kernel
theorem dX4_placeBlock_65 : decode cX4_placeBlock 65 = .ok (.ireturn, 1) := by decide +kernel
theorem dX4_join_0 : decode cX4_join 0 = .ok (.aload_n 0, 1) := by decide +kernel
theorem dX4_join_1 : decode cX4_join 1 = .ok (.iload_n 1, 1) := by decide +kernel
theorem dX4_join_2 : decode cX4_join 2 = .ok (.invokevirtual 75, 3) := by decide +kernel
theorem dX4_join_5 : decode cX4_join 5 = .ok (.ifCond .eq 11, 3) := by decide +kernel
theorem dX4_join_8 : decode cX4_join 8 = .ok (.aload_n 0, 1) := by decide +kernel
theorem dX4_join_9 : decode cX4_join 9 = .ok (.iload_n 2, 1) := by decide +kernel
theorem dX4_join_10 : decode cX4_join 10 = .ok (.invokevirtual 75, 3) := by decide +kernel
theorem dX4_join_13 : decode cX4_join 13 = .ok (.ifCond .ne 6, 3) := by decide +kernel
theorem dX4_join_16 : decode cX4_join 16 = .ok (.bipush (-11), 2) := by decide +kernel
theorem dX4_join_18 : decode cX4_join 18 = .ok (.ireturn, 1) := by decide +kernel
theorem dX4_join_19 : decode cX4_join 19 = .ok (.iload_n 1, 1) := by decide +kernel
theorem dX4_join_20 : decode cX4_join 20 = .ok (.iload_n 2, 1) := by decide +kernel
theorem dX4_join_21 : decode cX4_join 21 = .ok (.if_icmp .ne 6, 3) := by decide +kernel
theorem dX4_join_24 : decode cX4_join 24 = .ok (.bipush (-12), 2) := by decide +kernel
theorem dX4_join_26 : decode cX4_join 26 = .ok (.ireturn, 1) := by decide +kernel
theorem dX4_join_27 : decode cX4_join 27 = .ok (.aload_n 0, 1) := by decide +kernel
theorem dX4_join_28 : decode cX4_join 28 = .ok (.iload_n 1, 1) := by decide +kernel
theorem dX4_join_29 : decode cX4_join 29 = .ok (.iload_n 2, 1) := by decide +kernel
theorem dX4_join_30 : decode cX4_join 30 = .ok (.invokevirtual 79, 3) := by decide +kernel
theorem dX4_join_33 : decode cX4_join 33 = .ok (.ifCond .eq 6, 3) := by decide +kernel
theorem dX4_join_36 : decode cX4_join 36 = .ok (.bipush (-13), 2) := by decide +kernel
theorem dX4_join_38 : decode cX4_join 38 = .ok (.ireturn, 1) := by decide +kernel
theorem dX4_join_39 : decode cX4_join 39 = .ok (.aload_n 0, 1) := by decide +kernel
theorem dX4_join_40 : decode cX4_join 40 = .ok (.getfield 37, 3) := by decide +kernel
theorem dX4_join_43 : decode cX4_join 43 = .ok (.iload_n 1, 1) := by decide +kernel
theorem dX4_join_44 : decode cX4_join 44 = .ok (.dup2, 1) := by decide +kernel
theorem dX4_join_45 : decode cX4_join 45 = .ok (.iaload, 1) := by decide +kernel
theorem dX4_join_46 : decode cX4_join 46 = .ok (.iconst 1, 1) := by decide +kernel
theorem dX4_join_47 : decode cX4_join 47 = .ok (.iload_n 2, 1) := by decide +kernel
theorem dX4_join_48 : decode cX4_join 48 = .ok (.ishl, 1) := by decide +kernel
theorem dX4_join_49 : decode cX4_join 49 = .ok (.ior, 1) := by decide +kernel
theorem dX4_join_50 : decode cX4_join 50 = .ok (.iastore, 1) := by decide +kernel
theorem dX4_join_51 : decode cX4_join 51 = .ok (.aload_n 0, 1) := by decide +kernel
theorem dX4_join_52 : decode cX4_join 52 = .ok (.getfield 37, 3) := by decide +kernel
theorem dX4_join_55 : decode cX4_join 55 = .ok (.iload_n 2, 1) := by decide +kernel
theorem dX4_join_56 : decode cX4_join 56 = .ok (.dup2, 1) := by decide +kernel
theorem dX4_join_57 : decode cX4_join 57 = .ok (.iaload, 1) := by decide +kernel
theorem dX4_join_58 : decode cX4_join 58 = .ok (.iconst 1, 1) := by decide +kernel
theorem dX4_join_59 : decode cX4_join 59 = .ok (.iload_n 1, 1) := by decide +kernel
theorem dX4_join_60 : decode cX4_join 60 = .ok (.ishl, 1) := by decide +kernel
theorem dX4_join_61 : decode cX4_join 61 = .ok (.ior, 1) := by decide +kernel
theorem dX4_join_62 : decode cX4_join 62 = .ok (.iastore, 1) := by decide +kernel
theorem dX4_join_63 : decode cX4_join 63 = .ok (.aload_n 0, 1) := by decide +kernel
theorem dX4_join_64 : decode cX4_join 64 = .ok (.invokevirtual 82, 3) := by decide +kernel
theorem dX4_join_67 : decode cX4_join 67 = .ok (.ireturn, 1) := by decide +kernel
theorem dX4_separate_0 : decode cX4_separate 0 = .ok (.aload_n 0, 1) := by decide +kernel
theorem dX4_separate_1 : decode cX4_separate 1 = .ok (.iload_n 1, 1) := by decide +kernel
theorem dX4_separate_2 : decode cX4_separate 2 = .ok (.invokevirtual 75, 3) := by decide +kernel
theorem dX4_separate_5 : decode cX4_separate 5 = .ok (.ifCond .eq 11, 3) := by decide +kernel
theorem dX4_separate_8 : decode cX4_separate 8 = .ok (.aload_n 0, 1) := by decide +kernel
theorem dX4_separate_9 : decode cX4_separate 9 = .ok (.iload_n 2, 1) := by decide +kernel
theorem dX4_separate_10 : decode cX4_separate 10 = .ok (.invokevirtual 75, 3) := by decide +kernel
theorem dX4_separate_13 : decode cX4_separate 13 = .ok (.ifCond .ne 6, 3) := by decide +kernel
theorem dX4_separate_16 : decode cX4_separate 16 = .ok (.bipush (-11), 2) := by decide +kernel
theorem dX4_separate_18 : decode cX4_separate 18 = .ok (.ireturn, 1) := by decide +kernel
theorem dX4_separate_19 : decode cX4_separate 19 = .ok (.aload_n 0, 1) := by decide +kernel
theorem dX4_separate_20 : decode cX4_separate 20 = .ok (.iload_n 1, 1) := by decide +kernel
theorem dX4_separate_21 : decode cX4_separate 21 = .ok (.iload_n 2, 1) := by decide +kernel
theorem dX4_separate_22 : decode cX4_separate 22 = .ok (.invokevirtual 79, 3) := by decide +kernel
theorem dX4_separate_25 : decode cX4_separate 25 = .ok (.ifCond .ne 6, 3) := by decide +kernel
theorem dX4_separate_28 : decode cX4_separate 28 = .ok (.bipush (-15), 2) := by decide +kernel
theorem dX4_separate_30 : decode cX4_separate 30 = .ok (.ireturn, 1) := by decide +kernel
theorem dX4_separate_31 : decode cX4_separate 31 = .ok (.aload_n 0, 1) := by decide +kernel
theorem dX4_separate_32 : decode cX4_separate 32 = .ok (.getfield 37, 3) := by decide +kernel
theorem dX4_separate_35 : decode cX4_separate 35 = .ok (.iload_n 1, 1) := by decide +kernel
theorem dX4_separate_36 : decode cX4_separate 36 = .ok (.dup2, 1) := by decide +kernel
theorem dX4_separate_37 : decode cX4_separate 37 = .ok (.iaload, 1) := by decide +kernel
theorem dX4_separate_38 : decode cX4_separate 38 = .ok (.iconst 1, 1) := by decide +kernel
theorem dX4_separate_39 : decode cX4_separate 39 = .ok (.iload_n 2, 1) := by decide +kernel
theorem dX4_separate_40 : decode cX4_separate 40 = .ok (.ishl, 1) := by decide +kernel
theorem dX4_separate_41 : decode cX4_separate 41 = .ok (.iconst (-1), 1) := by decide +kernel
theorem dX4_separate_42 : decode cX4_separate 42 = .ok (.ixor, 1) := by decide +kernel
theorem dX4_separate_43 : decode cX4_separate 43 = .ok (.iand, 1) := by decide +kernel
theorem dX4_separate_44 : decode cX4_separate 44 = .ok (.iastore, 1) := by decide +kernel
theorem dX4_separate_45 : decode cX4_separate 45 = .ok (.aload_n 0, 1) := by decide +kernel
theorem dX4_separate_46 : decode cX4_separate 46 = .ok (.getfield 37, 3) := by decide +kernel
theorem dX4_separate_49 : decode cX4_separate 49 = .ok (.iload_n 2, 1) := by decide +kernel
theorem dX4_separate_50 : decode cX4_separate 50 = .ok (.dup2, 1) := by decide +kernel
theorem dX4_separate_51 : decode cX4_separate 51 = .ok (.iaload, 1) := by decide +kernel
theorem dX4_separate_52 : decode cX4_separate 52 = .ok (.iconst 1, 1) := by decide +kernel
theorem dX4_separate_53 : decode cX4_separate 53 = .ok (.iload_n 1, 1) := by decide +kernel
theorem dX4_separate_54 : decode cX4_separate 54 = .ok (.ishl, 1) := by decide +kernel
theorem dX4_separate_55 : decode cX4_separate 55 = .ok (.iconst (-1), 1) := by decide +kernel
theorem dX4_separate_56 : decode cX4_separate 56 = .ok (.ixor, 1) := by decide +kernel
theorem dX4_separate_57 : decode cX4_separate 57 = .ok (.iand, 1) := by decide +kernel
theorem dX4_separate_58 : decode cX4_separate 58 = .ok (.iastore, 1) := by decide +kernel
theorem dX4_separate_59 : decode cX4_separate 59 = .ok (.aload_n 0, 1) := by decide +kernel
theorem dX4_separate_60 : decode cX4_separate 60 = .ok (.invokevirtual 82, 3) := by decide +kernel
theorem dX4_separate_63 : decode cX4_separate 63 = .ok (.ireturn, 1) := by decide +kernel
theorem dX4_seatCat_0 : decode cX4_seatCat 0 = .ok (.aload_n 0, 1) := by decide +kernel
theorem dX4_seatCat_1 : decode cX4_seatCat 1 = .ok (.iload_n 1, 1) := by decide +kernel
theorem dX4_seatCat_2 : decode cX4_seatCat 2 = .ok (.invokevirtual 75, 3) := by decide +kernel
theorem dX4_seatCat_5 : decode cX4_seatCat 5 = .ok (.ifCond .ne 6, 3) := by decide +kernel
theorem dX4_seatCat_8 : decode cX4_seatCat 8 = .ok (.bipush (-11), 2) := by decide +kernel
theorem dX4_seatCat_10 : decode cX4_seatCat 10 = .ok (.ireturn, 1) := by decide +kernel
theorem dX4_seatCat_11 : decode cX4_seatCat 11 = .ok (.aload_n 0, 1) := by decide +kernel
theorem dX4_seatCat_12 : decode cX4_seatCat 12 = .ok (.getfield 27, 3) := by decide +kernel
theorem dX4_seatCat_15 : decode cX4_seatCat 15 = .ok (.iload_n 1, 1) := by decide +kernel
theorem dX4_seatCat_16 : decode cX4_seatCat 16 = .ok (.invokestatic 64, 3) := by decide +kernel
theorem dX4_seatCat_19 : decode cX4_seatCat 19 = .ok (.ifCond .eq 6, 3) := by decide +kernel
theorem dX4_seatCat_22 : decode cX4_seatCat 22 = .ok (.bipush (-13), 2) := by decide +kernel
theorem dX4_seatCat_24 : decode cX4_seatCat 24 = .ok (.ireturn, 1) := by decide +kernel
theorem dX4_seatCat_25 : decode cX4_seatCat 25 = .ok (.aload_n 0, 1) := by decide +kernel
theorem dX4_seatCat_26 : decode cX4_seatCat 26 = .ok (.iload_n 1, 1) := by decide +kernel
theorem dX4_seatCat_27 : decode cX4_seatCat 27 = .ok (.invokevirtual 68, 3) := by decide +kernel
theorem dX4_seatCat_30 : decode cX4_seatCat 30 = .ok (.iconst (-1), 1) := by decide +kernel
theorem dX4_seatCat_31 : decode cX4_seatCat 31 = .ok (.if_icmp .eq 6, 3) := by decide +kernel
theorem dX4_seatCat_34 : decode cX4_seatCat 34 = .ok (.bipush (-14), 2) := by decide +kernel
theorem dX4_seatCat_36 : decode cX4_seatCat 36 = .ok (.ireturn, 1) := by decide +kernel
theorem dX4_seatCat_37 : decode cX4_seatCat 37 = .ok (.aload_n 0, 1) := by decide +kernel
theorem dX4_seatCat_38 : decode cX4_seatCat 38 = .ok (.dup, 1) := by decide +kernel
theorem dX4_seatCat_39 : decode cX4_seatCat 39 = .ok (.getfield 27, 3) := by decide +kernel
theorem dX4_seatCat_42 : decode cX4_seatCat 42 = .ok (.iconst 1, 1) := by decide +kernel
theorem dX4_seatCat_43 : decode cX4_seatCat 43 = .ok (.iload_n 1, 1) := by decide +kernel
theorem dX4_seatCat_44 : decode cX4_seatCat 44 = .ok (.ishl, 1) := by decide +kernel
theorem dX4_seatCat_45 : decode cX4_seatCat 45 = .ok (.ior, 1) := by decide +kernel
theorem dX4_seatCat_46 : decode cX4_seatCat 46 = .ok (.putfield 27, 3) := by decide +kernel
theorem dX4_seatCat_49 : decode cX4_seatCat 49 = .ok (.aload_n 0, 1) := by decide +kernel
theorem dX4_seatCat_50 : decode cX4_seatCat 50 = .ok (.getfield 27, 3) := by decide +kernel
theorem dX4_seatCat_53 : decode cX4_seatCat 53 = .ok (.invokestatic 86, 3) := by decide +kernel
theorem dX4_seatCat_56 : decode cX4_seatCat 56 = .ok (.ireturn, 1) := by decide +kernel
theorem dX4_liftCat_0 : decode cX4_liftCat 0 = .ok (.aload_n 0, 1) := by decide +kernel
theorem dX4_liftCat_1 : decode cX4_liftCat 1 = .ok (.iload_n 1, 1) := by decide +kernel
theorem dX4_liftCat_2 : decode cX4_liftCat 2 = .ok (.invokevirtual 75, 3) := by decide +kernel
theorem dX4_liftCat_5 : decode cX4_liftCat 5 = .ok (.ifCond .ne 6, 3) := by decide +kernel
theorem dX4_liftCat_8 : decode cX4_liftCat 8 = .ok (.bipush (-11), 2) := by decide +kernel
theorem dX4_liftCat_10 : decode cX4_liftCat 10 = .ok (.ireturn, 1) := by decide +kernel
theorem dX4_liftCat_11 : decode cX4_liftCat 11 = .ok (.aload_n 0, 1) := by decide +kernel
theorem dX4_liftCat_12 : decode cX4_liftCat 12 = .ok (.getfield 27, 3) := by decide +kernel
theorem dX4_liftCat_15 : decode cX4_liftCat 15 = .ok (.iload_n 1, 1) := by decide +kernel
theorem dX4_liftCat_16 : decode cX4_liftCat 16 = .ok (.invokestatic 64, 3) := by decide +kernel
theorem dX4_liftCat_19 : decode cX4_liftCat 19 = .ok (.ifCond .ne 6, 3) := by decide +kernel
theorem dX4_liftCat_22 : decode cX4_liftCat 22 = .ok (.bipush (-15), 2) := by decide +kernel
theorem dX4_liftCat_24 : decode cX4_liftCat 24 = .ok (.ireturn, 1) := by decide +kernel
theorem dX4_liftCat_25 : decode cX4_liftCat 25 = .ok (.aload_n 0, 1) := by decide +kernel
theorem dX4_liftCat_26 : decode cX4_liftCat 26 = .ok (.dup, 1) := by decide +kernel
theorem dX4_liftCat_27 : decode cX4_liftCat 27 = .ok (.getfield 27, 3) := by decide +kernel
theorem dX4_liftCat_30 : decode cX4_liftCat 30 = .ok (.iconst 1, 1) := by decide +kernel
theorem dX4_liftCat_31 : decode cX4_liftCat 31 = .ok (.iload_n 1, 1) := by decide +kernel
theorem dX4_liftCat_32 : decode cX4_liftCat 32 = .ok (.ishl, 1) := by decide +kernel
theorem dX4_liftCat_33 : decode cX4_liftCat 33 = .ok (.iconst (-1), 1) := by decide +kernel
theorem dX4_liftCat_34 : decode cX4_liftCat 34 = .ok (.ixor, 1) := by decide +kernel
theorem dX4_liftCat_35 : decode cX4_liftCat 35 = .ok (.iand, 1) := by decide +kernel
theorem dX4_liftCat_36 : decode cX4_liftCat 36 = .ok (.putfield 27, 3) := by decide +kernel
theorem dX4_liftCat_39 : decode cX4_liftCat 39 = .ok (.aload_n 0, 1) := by decide +kernel
theorem dX4_liftCat_40 : decode cX4_liftCat 40 = .ok (.getfield 27, 3) := by decide +kernel
theorem dX4_liftCat_43 : decode cX4_liftCat 43 = .ok (.invokestatic 86, 3) := by decide +kernel
theorem dX4_liftCat_46 : decode cX4_liftCat 46 = .ok (.ireturn, 1) := by decide +kernel
theorem dX4_placeTrain_0 : decode cX4_placeTrain 0 = .ok (.aload_n 0, 1) := by decide +kernel
theorem dX4_placeTrain_1 : decode cX4_placeTrain 1 = .ok (.iload_n 1, 1) := by decide +kernel
theorem dX4_placeTrain_2 : decode cX4_placeTrain 2 = .ok (.invokevirtual 75, 3) := by decide +kernel
theorem dX4_placeTrain_5 : decode cX4_placeTrain 5 = .ok (.ifCond .ne 6, 3) := by decide +kernel
theorem dX4_placeTrain_8 : decode cX4_placeTrain 8 = .ok (.bipush (-11), 2) := by decide +kernel
theorem dX4_placeTrain_10 : decode cX4_placeTrain 10 = .ok (.ireturn, 1) := by decide +kernel
theorem dX4_placeTrain_11 : decode cX4_placeTrain 11 = .ok (.iload_n 2, 1) := by decide +kernel
theorem dX4_placeTrain_12 : decode cX4_placeTrain 12 = .ok (.iconst 1, 1) := by decide +kernel
theorem dX4_placeTrain_13 : decode cX4_placeTrain 13 = .ok (.if_icmp .lt 9, 3) := by decide +kernel
theorem dX4_placeTrain_16 : decode cX4_placeTrain 16 = .ok (.iload_n 2, 1) := by decide +kernel
theorem dX4_placeTrain_17 : decode cX4_placeTrain 17 = .ok (.bipush 9, 2) := by decide +kernel
theorem dX4_placeTrain_19 : decode cX4_placeTrain 19 = .ok (.if_icmp .le 6, 3) := by decide +kernel
theorem dX4_placeTrain_22 : decode cX4_placeTrain 22 = .ok (.bipush (-12), 2) := by decide +kernel
theorem dX4_placeTrain_24 : decode cX4_placeTrain 24 = .ok (.ireturn, 1) := by decide +kernel
theorem dX4_placeTrain_25 : decode cX4_placeTrain 25 = .ok (.aload_n 0, 1) := by decide +kernel
theorem dX4_placeTrain_26 : decode cX4_placeTrain 26 = .ok (.getfield 15, 3) := by decide +kernel
theorem dX4_placeTrain_29 : decode cX4_placeTrain 29 = .ok (.bipush 6, 2) := by decide +kernel
theorem dX4_placeTrain_31 : decode cX4_placeTrain 31 = .ok (.if_icmp .lt 6, 3) := by decide +kernel
theorem dX4_placeTrain_34 : decode cX4_placeTrain 34 = .ok (.bipush (-13), 2) := by decide +kernel
theorem dX4_placeTrain_36 : decode cX4_placeTrain 36 = .ok (.ireturn, 1) := by decide +kernel
theorem dX4_placeTrain_37 : decode cX4_placeTrain 37 = .ok (.aload_n 0, 1) := by decide +kernel
theorem dX4_placeTrain_38 : decode cX4_placeTrain 38 = .ok (.iload_n 1, 1) := by decide +kernel
theorem dX4_placeTrain_39 : decode cX4_placeTrain 39 = .ok (.invokevirtual 68, 3) := by decide +kernel
theorem dX4_placeTrain_42 : decode cX4_placeTrain 42 = .ok (.iconst (-1), 1) := by decide +kernel
theorem dX4_placeTrain_43 : decode cX4_placeTrain 43 = .ok (.if_icmp .ne 23, 3) := by decide +kernel
theorem dX4_placeTrain_46 : decode cX4_placeTrain 46 = .ok (.aload_n 0, 1) := by decide +kernel
theorem dX4_placeTrain_47 : decode cX4_placeTrain 47 = .ok (.getfield 27, 3) := by decide +kernel
theorem dX4_placeTrain_50 : decode cX4_placeTrain 50 = .ok (.iload_n 1, 1) := by decide +kernel
theorem dX4_placeTrain_51 : decode cX4_placeTrain 51 = .ok (.invokestatic 64, 3) := by decide +kernel
theorem dX4_placeTrain_54 : decode cX4_placeTrain 54 = .ok (.ifCond .ne 12, 3) := by decide +kernel
theorem dX4_placeTrain_57 : decode cX4_placeTrain 57 = .ok (.aload_n 0, 1) := by decide +kernel
theorem dX4_placeTrain_58 : decode cX4_placeTrain 58 = .ok (.iload_n 1, 1) := by decide +kernel
theorem dX4_placeTrain_59 : decode cX4_placeTrain 59 = .ok (.invokevirtual 72, 3) := by decide +kernel
theorem dX4_placeTrain_62 : decode cX4_placeTrain 62 = .ok (.iconst (-1), 1) := by decide +kernel
theorem dX4_placeTrain_63 : decode cX4_placeTrain 63 = .ok (.if_icmp .eq 6, 3) := by decide +kernel
theorem dX4_placeTrain_66 : decode cX4_placeTrain 66 = .ok (.bipush (-14), 2) := by decide +kernel
theorem dX4_placeTrain_68 : decode cX4_placeTrain 68 = .ok (.ireturn, 1) := by decide +kernel
theorem dX4_placeTrain_69 : decode cX4_placeTrain 69 = .ok (.aload_n 0, 1) := by decide +kernel
theorem dX4_placeTrain_70 : decode cX4_placeTrain 70 = .ok (.getfield 15, 3) := by decide +kernel
theorem dX4_placeTrain_73 : decode cX4_placeTrain 73 = .ok (.istore_n 3, 1) := by decide +kernel
theorem dX4_placeTrain_74 : decode cX4_placeTrain 74 = .ok (.aload_n 0, 1) := by decide +kernel
theorem dX4_placeTrain_75 : decode cX4_placeTrain 75 = .ok (.getfield 40, 3) := by decide +kernel
theorem dX4_placeTrain_78 : decode cX4_placeTrain 78 = .ok (.iload_n 3, 1) := by decide +kernel
theorem dX4_placeTrain_79 : decode cX4_placeTrain 79 = .ok (.iload_n 1, 1) := by decide +kernel
theorem dX4_placeTrain_80 : decode cX4_placeTrain 80 = .ok (.iastore, 1) := by decide +kernel
theorem dX4_placeTrain_81 : decode cX4_placeTrain 81 = .ok (.aload_n 0, 1) := by decide +kernel
theorem dX4_placeTrain_82 : decode cX4_placeTrain 82 = .ok (.getfield 43, 3) := by decide +kernel
theorem dX4_placeTrain_85 : decode cX4_placeTrain 85 = .ok (.iload_n 3, 1) := by decide +kernel
theorem dX4_placeTrain_86 : decode cX4_placeTrain 86 = .ok (.iload_n 2, 1) := by decide +kernel
theorem dX4_placeTrain_87 : decode cX4_placeTrain 87 = .ok (.iastore, 1) := by decide +kernel
theorem dX4_placeTrain_88 : decode cX4_placeTrain 88 = .ok (.aload_n 0, 1) := by decide +kernel
theorem dX4_placeTrain_89 : decode cX4_placeTrain 89 = .ok (.getfield 46, 3) := by decide +kernel
theorem dX4_placeTrain_92 : decode cX4_placeTrain 92 = .ok (.iload_n 3, 1) := by decide +kernel
theorem dX4_placeTrain_93 : decode cX4_placeTrain 93 = .ok (.iconst 0, 1) := by decide +kernel
theorem dX4_placeTrain_94 : decode cX4_placeTrain 94 = .ok (.iastore, 1) := by decide +kernel
theorem dX4_placeTrain_95 : decode cX4_placeTrain 95 = .ok (.aload_n 0, 1) := by decide +kernel
theorem dX4_placeTrain_96 : decode cX4_placeTrain 96 = .ok (.getfield 49, 3) := by decide +kernel
theorem dX4_placeTrain_99 : decode cX4_placeTrain 99 = .ok (.iload_n 3, 1) := by decide +kernel
theorem dX4_placeTrain_100 : decode cX4_placeTrain 100 = .ok (.iconst (-1), 1) := by decide +kernel
theorem dX4_placeTrain_101 : decode cX4_placeTrain 101 = .ok (.iastore, 1) := by decide +kernel
theorem dX4_placeTrain_102 : decode cX4_placeTrain 102 = .ok (.aload_n 0, 1) := by decide +kernel
theorem dX4_placeTrain_103 : decode cX4_placeTrain 103 = .ok (.getfield 52, 3) := by decide +kernel
theorem dX4_placeTrain_106 : decode cX4_placeTrain 106 = .ok (.iload_n 3, 1) := by decide +kernel
theorem dX4_placeTrain_107 : decode cX4_placeTrain 107 = .ok (.iconst (-1), 1) := by decide +kernel
theorem dX4_placeTrain_108 : decode cX4_placeTrain 108 = .ok (.iastore, 1) := by decide +kernel
theorem dX4_placeTrain_109 : decode cX4_placeTrain 109 = .ok (.aload_n 0, 1) := by decide +kernel
theorem dX4_placeTrain_110 : decode cX4_placeTrain 110 = .ok (.getfield 55, 3) := by decide +kernel
theorem dX4_placeTrain_113 : decode cX4_placeTrain 113 = .ok (.iload_n 3, 1) := by decide +kernel
theorem dX4_placeTrain_114 : decode cX4_placeTrain 114 = .ok (.iconst 0, 1) := by decide +kernel
theorem dX4_placeTrain_115 : decode cX4_placeTrain 115 = .ok (.iastore, 1) := by decide +kernel
theorem dX4_placeTrain_116 : decode cX4_placeTrain 116 = .ok (.aload_n 0, 1) := by decide +kernel
theorem dX4_placeTrain_117 : decode cX4_placeTrain 117 = .ok (.dup, 1) := by decide +kernel
theorem dX4_placeTrain_118 : decode cX4_placeTrain 118 = .ok (.getfield 15, 3) := by decide +kernel
theorem dX4_placeTrain_121 : decode cX4_placeTrain 121 = .ok (.iconst 1, 1) := by decide +kernel
theorem dX4_placeTrain_122 : decode cX4_placeTrain 122 = .ok (.iadd, 1) := by decide +kernel
theorem dX4_placeTrain_123 : decode cX4_placeTrain 123 = .ok (.putfield 15, 3) := by decide +kernel
theorem dX4_placeTrain_126 : decode cX4_placeTrain 126 = .ok (.iload_n 3, 1) := by decide +kernel
theorem dX4_placeTrain_127 : decode cX4_placeTrain 127 = .ok (.ireturn, 1) := by decide +kernel
theorem dX4_dropGoal_0 : decode cX4_dropGoal 0 = .ok (.aload_n 0, 1) := by decide +kernel
theorem dX4_dropGoal_1 : decode cX4_dropGoal 1 = .ok (.iload_n 1, 1) := by decide +kernel
theorem dX4_dropGoal_2 : decode cX4_dropGoal 2 = .ok (.invokevirtual 91, 3) := by decide +kernel
theorem dX4_dropGoal_5 : decode cX4_dropGoal 5 = .ok (.ifCond .ne 6, 3) := by decide +kernel
theorem dX4_dropGoal_8 : decode cX4_dropGoal 8 = .ok (.bipush (-11), 2) := by decide +kernel
theorem dX4_dropGoal_10 : decode cX4_dropGoal 10 = .ok (.ireturn, 1) := by decide +kernel
theorem dX4_dropGoal_11 : decode cX4_dropGoal 11 = .ok (.aload_n 0, 1) := by decide +kernel
theorem dX4_dropGoal_12 : decode cX4_dropGoal 12 = .ok (.getfield 49, 3) := by decide +kernel
theorem dX4_dropGoal_15 : decode cX4_dropGoal 15 = .ok (.iload_n 1, 1) := by decide +kernel
theorem dX4_dropGoal_16 : decode cX4_dropGoal 16 = .ok (.iaload, 1) := by decide +kernel
theorem dX4_dropGoal_17 : decode cX4_dropGoal 17 = .ok (.istore_n 2, 1) := by decide +kernel
theorem dX4_dropGoal_18 : decode cX4_dropGoal 18 = .ok (.iload_n 2, 1) := by decide +kernel
theorem dX4_dropGoal_19 : decode cX4_dropGoal 19 = .ok (.iconst (-1), 1) := by decide +kernel
theorem dX4_dropGoal_20 : decode cX4_dropGoal 20 = .ok (.if_icmp .ne 6, 3) := by decide +kernel
theorem dX4_dropGoal_23 : decode cX4_dropGoal 23 = .ok (.bipush (-15), 2) := by decide +kernel
theorem dX4_dropGoal_25 : decode cX4_dropGoal 25 = .ok (.ireturn, 1) := by decide +kernel
theorem dX4_dropGoal_26 : decode cX4_dropGoal 26 = .ok (.aload_n 0, 1) := by decide +kernel
theorem dX4_dropGoal_27 : decode cX4_dropGoal 27 = .ok (.getfield 49, 3) := by decide +kernel
theorem dX4_dropGoal_30 : decode cX4_dropGoal 30 = .ok (.iload_n 1, 1) := by decide +kernel
theorem dX4_dropGoal_31 : decode cX4_dropGoal 31 = .ok (.iconst (-1), 1) := by decide +kernel
theorem dX4_dropGoal_32 : decode cX4_dropGoal 32 = .ok (.iastore, 1) := by decide +kernel
theorem dX4_dropGoal_33 : decode cX4_dropGoal 33 = .ok (.iload_n 2, 1) := by decide +kernel
theorem dX4_dropGoal_34 : decode cX4_dropGoal 34 = .ok (.ireturn, 1) := by decide +kernel
theorem dX4_hold_0 : decode cX4_hold 0 = .ok (.aload_n 0, 1) := by decide +kernel
theorem dX4_hold_1 : decode cX4_hold 1 = .ok (.iload_n 1, 1) := by decide +kernel
theorem dX4_hold_2 : decode cX4_hold 2 = .ok (.invokevirtual 91, 3) := by decide +kernel
theorem dX4_hold_5 : decode cX4_hold 5 = .ok (.ifCond .eq 11, 3) := by decide +kernel
theorem dX4_hold_8 : decode cX4_hold 8 = .ok (.aload_n 0, 1) := by decide +kernel
theorem dX4_hold_9 : decode cX4_hold 9 = .ok (.iload_n 2, 1) := by decide +kernel
theorem dX4_hold_10 : decode cX4_hold 10 = .ok (.invokevirtual 75, 3) := by decide +kernel
theorem dX4_hold_13 : decode cX4_hold 13 = .ok (.ifCond .ne 6, 3) := by decide +kernel
theorem dX4_hold_16 : decode cX4_hold 16 = .ok (.bipush (-11), 2) := by decide +kernel
theorem dX4_hold_18 : decode cX4_hold 18 = .ok (.ireturn, 1) := by decide +kernel
theorem dX4_hold_19 : decode cX4_hold 19 = .ok (.aload_n 0, 1) := by decide +kernel
theorem dX4_hold_20 : decode cX4_hold 20 = .ok (.aload_n 0, 1) := by decide +kernel
theorem dX4_hold_21 : decode cX4_hold 21 = .ok (.getfield 40, 3) := by decide +kernel
theorem dX4_hold_24 : decode cX4_hold 24 = .ok (.iload_n 1, 1) := by decide +kernel
theorem dX4_hold_25 : decode cX4_hold 25 = .ok (.iaload, 1) := by decide +kernel
theorem dX4_hold_26 : decode cX4_hold 26 = .ok (.iload_n 2, 1) := by decide +kernel
theorem dX4_hold_27 : decode cX4_hold 27 = .ok (.invokevirtual 79, 3) := by decide +kernel
theorem dX4_hold_30 : decode cX4_hold 30 = .ok (.ifCond .ne 6, 3) := by decide +kernel
theorem dX4_hold_33 : decode cX4_hold 33 = .ok (.bipush (-12), 2) := by decide +kernel
theorem dX4_hold_35 : decode cX4_hold 35 = .ok (.ireturn, 1) := by decide +kernel
theorem dX4_hold_36 : decode cX4_hold 36 = .ok (.aload_n 0, 1) := by decide +kernel
theorem dX4_hold_37 : decode cX4_hold 37 = .ok (.getfield 52, 3) := by decide +kernel
theorem dX4_hold_40 : decode cX4_hold 40 = .ok (.iload_n 1, 1) := by decide +kernel
theorem dX4_hold_41 : decode cX4_hold 41 = .ok (.iaload, 1) := by decide +kernel
theorem dX4_hold_42 : decode cX4_hold 42 = .ok (.iconst (-1), 1) := by decide +kernel
theorem dX4_hold_43 : decode cX4_hold 43 = .ok (.if_icmp .eq 6, 3) := by decide +kernel
theorem dX4_hold_46 : decode cX4_hold 46 = .ok (.bipush (-13), 2) := by decide +kernel
theorem dX4_hold_48 : decode cX4_hold 48 = .ok (.ireturn, 1) := by decide +kernel
theorem dX4_hold_49 : decode cX4_hold 49 = .ok (.aload_n 0, 1) := by decide +kernel
theorem dX4_hold_50 : decode cX4_hold 50 = .ok (.iload_n 2, 1) := by decide +kernel
theorem dX4_hold_51 : decode cX4_hold 51 = .ok (.invokevirtual 68, 3) := by decide +kernel
theorem dX4_hold_54 : decode cX4_hold 54 = .ok (.iconst (-1), 1) := by decide +kernel
theorem dX4_hold_55 : decode cX4_hold 55 = .ok (.if_icmp .ne 12, 3) := by decide +kernel
theorem dX4_hold_58 : decode cX4_hold 58 = .ok (.aload_n 0, 1) := by decide +kernel
theorem dX4_hold_59 : decode cX4_hold 59 = .ok (.iload_n 2, 1) := by decide +kernel
theorem dX4_hold_60 : decode cX4_hold 60 = .ok (.invokevirtual 72, 3) := by decide +kernel
theorem dX4_hold_63 : decode cX4_hold 63 = .ok (.iconst (-1), 1) := by decide +kernel
theorem dX4_hold_64 : decode cX4_hold 64 = .ok (.if_icmp .eq 6, 3) := by decide +kernel
theorem dX4_hold_67 : decode cX4_hold 67 = .ok (.bipush (-14), 2) := by decide +kernel
theorem dX4_hold_69 : decode cX4_hold 69 = .ok (.ireturn, 1) := by decide +kernel
theorem dX4_hold_70 : decode cX4_hold 70 = .ok (.aload_n 0, 1) := by decide +kernel
theorem dX4_hold_71 : decode cX4_hold 71 = .ok (.getfield 52, 3) := by decide +kernel
theorem dX4_hold_74 : decode cX4_hold 74 = .ok (.iload_n 1, 1) := by decide +kernel
theorem dX4_hold_75 : decode cX4_hold 75 = .ok (.iload_n 2, 1) := by decide +kernel
theorem dX4_hold_76 : decode cX4_hold 76 = .ok (.iastore, 1) := by decide +kernel
theorem dX4_hold_77 : decode cX4_hold 77 = .ok (.aload_n 0, 1) := by decide +kernel
theorem dX4_hold_78 : decode cX4_hold 78 = .ok (.invokevirtual 94, 3) := by decide +kernel
theorem dX4_hold_81 : decode cX4_hold 81 = .ok (.ireturn, 1) := by decide +kernel
theorem dX4_release_0 : decode cX4_release 0 = .ok (.aload_n 0, 1) := by decide +kernel
theorem dX4_release_1 : decode cX4_release 1 = .ok (.iload_n 1, 1) := by decide +kernel
theorem dX4_release_2 : decode cX4_release 2 = .ok (.invokevirtual 91, 3) := by decide +kernel
theorem dX4_release_5 : decode cX4_release 5 = .ok (.ifCond .ne 6, 3) := by decide +kernel
theorem dX4_release_8 : decode cX4_release 8 = .ok (.bipush (-11), 2) := by decide +kernel
theorem dX4_release_10 : decode cX4_release 10 = .ok (.ireturn, 1) := by decide +kernel
theorem dX4_release_11 : decode cX4_release 11 = .ok (.aload_n 0, 1) := by decide +kernel
theorem dX4_release_12 : decode cX4_release 12 = .ok (.getfield 52, 3) := by decide +kernel
theorem dX4_release_15 : decode cX4_release 15 = .ok (.iload_n 1, 1) := by decide +kernel
theorem dX4_release_16 : decode cX4_release 16 = .ok (.iaload, 1) := by decide +kernel
theorem dX4_release_17 : decode cX4_release 17 = .ok (.istore_n 2, 1) := by decide +kernel
theorem dX4_release_18 : decode cX4_release 18 = .ok (.iload_n 2, 1) := by decide +kernel
theorem dX4_release_19 : decode cX4_release 19 = .ok (.iconst (-1), 1) := by decide +kernel
theorem dX4_release_20 : decode cX4_release 20 = .ok (.if_icmp .ne 6, 3) := by decide +kernel
theorem dX4_release_23 : decode cX4_release 23 = .ok (.bipush (-15), 2) := by decide +kernel
theorem dX4_release_25 : decode cX4_release 25 = .ok (.ireturn, 1) := by decide +kernel
theorem dX4_release_26 : decode cX4_release 26 = .ok (.aload_n 0, 1) := by decide +kernel
theorem dX4_release_27 : decode cX4_release 27 = .ok (.getfield 52, 3) := by decide +kernel
theorem dX4_release_30 : decode cX4_release 30 = .ok (.iload_n 1, 1) := by decide +kernel
theorem dX4_release_31 : decode cX4_release 31 = .ok (.iconst (-1), 1) := by decide +kernel
theorem dX4_release_32 : decode cX4_release 32 = .ok (.iastore, 1) := by decide +kernel
theorem dX4_release_33 : decode cX4_release 33 = .ok (.iload_n 2, 1) := by decide +kernel
theorem dX4_release_34 : decode cX4_release 34 = .ok (.ireturn, 1) := by decide +kernel
theorem dX4_rerail_0 : decode cX4_rerail 0 = .ok (.aload_n 0, 1) := by decide +kernel
theorem dX4_rerail_1 : decode cX4_rerail 1 = .ok (.iload_n 1, 1) := by decide +kernel
theorem dX4_rerail_2 : decode cX4_rerail 2 = .ok (.invokevirtual 91, 3) := by decide +kernel
theorem dX4_rerail_5 : decode cX4_rerail 5 = .ok (.ifCond .ne 6, 3) := by decide +kernel
theorem dX4_rerail_8 : decode cX4_rerail 8 = .ok (.bipush (-11), 2) := by decide +kernel
theorem dX4_rerail_10 : decode cX4_rerail 10 = .ok (.ireturn, 1) := by decide +kernel
theorem dX4_rerail_11 : decode cX4_rerail 11 = .ok (.aload_n 0, 1) := by decide +kernel
theorem dX4_rerail_12 : decode cX4_rerail 12 = .ok (.getfield 30, 3) := by decide +kernel
theorem dX4_rerail_15 : decode cX4_rerail 15 = .ok (.iload_n 1, 1) := by decide +kernel
theorem dX4_rerail_16 : decode cX4_rerail 16 = .ok (.invokestatic 64, 3) := by decide +kernel
theorem dX4_rerail_19 : decode cX4_rerail 19 = .ok (.ifCond .ne 6, 3) := by decide +kernel
theorem dX4_rerail_22 : decode cX4_rerail 22 = .ok (.bipush (-13), 2) := by decide +kernel
theorem dX4_rerail_24 : decode cX4_rerail 24 = .ok (.ireturn, 1) := by decide +kernel
theorem dX4_rerail_25 : decode cX4_rerail 25 = .ok (.aload_n 0, 1) := by decide +kernel
theorem dX4_rerail_26 : decode cX4_rerail 26 = .ok (.dup, 1) := by decide +kernel
theorem dX4_rerail_27 : decode cX4_rerail 27 = .ok (.getfield 30, 3) := by decide +kernel
theorem dX4_rerail_30 : decode cX4_rerail 30 = .ok (.iconst 1, 1) := by decide +kernel
theorem dX4_rerail_31 : decode cX4_rerail 31 = .ok (.iload_n 1, 1) := by decide +kernel
theorem dX4_rerail_32 : decode cX4_rerail 32 = .ok (.ishl, 1) := by decide +kernel
theorem dX4_rerail_33 : decode cX4_rerail 33 = .ok (.iconst (-1), 1) := by decide +kernel
theorem dX4_rerail_34 : decode cX4_rerail 34 = .ok (.ixor, 1) := by decide +kernel
theorem dX4_rerail_35 : decode cX4_rerail 35 = .ok (.iand, 1) := by decide +kernel
theorem dX4_rerail_36 : decode cX4_rerail 36 = .ok (.putfield 30, 3) := by decide +kernel
theorem dX4_rerail_39 : decode cX4_rerail 39 = .ok (.aload_n 0, 1) := by decide +kernel
theorem dX4_rerail_40 : decode cX4_rerail 40 = .ok (.getfield 30, 3) := by decide +kernel
theorem dX4_rerail_43 : decode cX4_rerail 43 = .ok (.invokestatic 86, 3) := by decide +kernel
theorem dX4_rerail_46 : decode cX4_rerail 46 = .ok (.ireturn, 1) := by decide +kernel
theorem dX4_letsIn_0 : decode cX4_letsIn 0 = .ok (.aload_n 0, 1) := by decide +kernel
theorem dX4_letsIn_1 : decode cX4_letsIn 1 = .ok (.iload_n 2, 1) := by decide +kernel
theorem dX4_letsIn_2 : decode cX4_letsIn 2 = .ok (.invokevirtual 72, 3) := by decide +kernel
theorem dX4_letsIn_5 : decode cX4_letsIn 5 = .ok (.istore_n 3, 1) := by decide +kernel
theorem dX4_letsIn_6 : decode cX4_letsIn 6 = .ok (.aload_n 0, 1) := by decide +kernel
theorem dX4_letsIn_7 : decode cX4_letsIn 7 = .ok (.iload_n 2, 1) := by decide +kernel
theorem dX4_letsIn_8 : decode cX4_letsIn 8 = .ok (.invokevirtual 68, 3) := by decide +kernel
theorem dX4_letsIn_11 : decode cX4_letsIn 11 = .ok (.iconst (-1), 1) := by decide +kernel
theorem dX4_letsIn_12 : decode cX4_letsIn 12 = .ok (.if_icmp .ne 17, 3) := by decide +kernel
theorem dX4_letsIn_15 : decode cX4_letsIn 15 = .ok (.iload_n 3, 1) := by decide +kernel
theorem dX4_letsIn_16 : decode cX4_letsIn 16 = .ok (.iconst (-1), 1) := by decide +kernel
theorem dX4_letsIn_17 : decode cX4_letsIn 17 = .ok (.if_icmp .eq 8, 3) := by decide +kernel
theorem dX4_letsIn_20 : decode cX4_letsIn 20 = .ok (.iload_n 3, 1) := by decide +kernel
theorem dX4_letsIn_21 : decode cX4_letsIn 21 = .ok (.iload_n 1, 1) := by decide +kernel
theorem dX4_letsIn_22 : decode cX4_letsIn 22 = .ok (.if_icmp .ne 7, 3) := by decide +kernel
theorem dX4_letsIn_25 : decode cX4_letsIn 25 = .ok (.iconst 1, 1) := by decide +kernel
theorem dX4_letsIn_26 : decode cX4_letsIn 26 = .ok (.goto 4, 3) := by decide +kernel
theorem dX4_letsIn_29 : decode cX4_letsIn 29 = .ok (.iconst 0, 1) := by decide +kernel
theorem dX4_letsIn_30 : decode cX4_letsIn 30 = .ok (.ireturn, 1) := by decide +kernel
theorem dX4_moveTrain_0 : decode cX4_moveTrain 0 = .ok (.aload_n 0, 1) := by decide +kernel
theorem dX4_moveTrain_1 : decode cX4_moveTrain 1 = .ok (.getfield 40, 3) := by decide +kernel
theorem dX4_moveTrain_4 : decode cX4_moveTrain 4 = .ok (.iload_n 1, 1) := by decide +kernel
theorem dX4_moveTrain_5 : decode cX4_moveTrain 5 = .ok (.iload_n 2, 1) := by decide +kernel
theorem dX4_moveTrain_6 : decode cX4_moveTrain 6 = .ok (.iastore, 1) := by decide +kernel
theorem dX4_moveTrain_7 : decode cX4_moveTrain 7 = .ok (.aload_n 0, 1) := by decide +kernel
theorem dX4_moveTrain_8 : decode cX4_moveTrain 8 = .ok (.getfield 52, 3) := by decide +kernel
theorem dX4_moveTrain_11 : decode cX4_moveTrain 11 = .ok (.iload_n 1, 1) := by decide +kernel
theorem dX4_moveTrain_12 : decode cX4_moveTrain 12 = .ok (.iconst (-1), 1) := by decide +kernel
theorem dX4_moveTrain_13 : decode cX4_moveTrain 13 = .ok (.iastore, 1) := by decide +kernel
theorem dX4_moveTrain_14 : decode cX4_moveTrain 14 = .ok (.aload_n 0, 1) := by decide +kernel
theorem dX4_moveTrain_15 : decode cX4_moveTrain 15 = .ok (.getfield 46, 3) := by decide +kernel
theorem dX4_moveTrain_18 : decode cX4_moveTrain 18 = .ok (.iload_n 1, 1) := by decide +kernel
theorem dX4_moveTrain_19 : decode cX4_moveTrain 19 = .ok (.aload_n 0, 1) := by decide +kernel
theorem dX4_moveTrain_20 : decode cX4_moveTrain 20 = .ok (.getfield 33, 3) := by decide +kernel
theorem dX4_moveTrain_23 : decode cX4_moveTrain 23 = .ok (.iload_n 2, 1) := by decide +kernel
theorem dX4_moveTrain_24 : decode cX4_moveTrain 24 = .ok (.iaload, 1) := by decide +kernel
theorem dX4_moveTrain_25 : decode cX4_moveTrain 25 = .ok (.iastore, 1) := by decide +kernel
theorem dX4_moveTrain_26 : decode cX4_moveTrain 26 = .ok (.aload_n 0, 1) := by decide +kernel
theorem dX4_moveTrain_27 : decode cX4_moveTrain 27 = .ok (.getfield 27, 3) := by decide +kernel
theorem dX4_moveTrain_30 : decode cX4_moveTrain 30 = .ok (.iload_n 2, 1) := by decide +kernel
theorem dX4_moveTrain_31 : decode cX4_moveTrain 31 = .ok (.invokestatic 64, 3) := by decide +kernel
theorem dX4_moveTrain_34 : decode cX4_moveTrain 34 = .ok (.ifCond .eq 29, 3) := by decide +kernel
theorem dX4_moveTrain_37 : decode cX4_moveTrain 37 = .ok (.aload_n 0, 1) := by decide +kernel
theorem dX4_moveTrain_38 : decode cX4_moveTrain 38 = .ok (.dup, 1) := by decide +kernel
theorem dX4_moveTrain_39 : decode cX4_moveTrain 39 = .ok (.getfield 30, 3) := by decide +kernel
theorem dX4_moveTrain_42 : decode cX4_moveTrain 42 = .ok (.iconst 1, 1) := by decide +kernel
theorem dX4_moveTrain_43 : decode cX4_moveTrain 43 = .ok (.iload_n 1, 1) := by decide +kernel
theorem dX4_moveTrain_44 : decode cX4_moveTrain 44 = .ok (.ishl, 1) := by decide +kernel
theorem dX4_moveTrain_45 : decode cX4_moveTrain 45 = .ok (.ior, 1) := by decide +kernel
theorem dX4_moveTrain_46 : decode cX4_moveTrain 46 = .ok (.putfield 30, 3) := by decide +kernel
theorem dX4_moveTrain_49 : decode cX4_moveTrain 49 = .ok (.aload_n 0, 1) := by decide +kernel
theorem dX4_moveTrain_50 : decode cX4_moveTrain 50 = .ok (.dup, 1) := by decide +kernel
theorem dX4_moveTrain_51 : decode cX4_moveTrain 51 = .ok (.getfield 27, 3) := by decide +kernel
theorem dX4_moveTrain_54 : decode cX4_moveTrain 54 = .ok (.iconst 1, 1) := by decide +kernel
theorem dX4_moveTrain_55 : decode cX4_moveTrain 55 = .ok (.iload_n 2, 1) := by decide +kernel
theorem dX4_moveTrain_56 : decode cX4_moveTrain 56 = .ok (.ishl, 1) := by decide +kernel
theorem dX4_moveTrain_57 : decode cX4_moveTrain 57 = .ok (.iconst (-1), 1) := by decide +kernel
theorem dX4_moveTrain_58 : decode cX4_moveTrain 58 = .ok (.ixor, 1) := by decide +kernel
theorem dX4_moveTrain_59 : decode cX4_moveTrain 59 = .ok (.iand, 1) := by decide +kernel
theorem dX4_moveTrain_60 : decode cX4_moveTrain 60 = .ok (.putfield 27, 3) := by decide +kernel
theorem dX4_moveTrain_63 : decode cX4_moveTrain 63 = .ok (.aload_n 0, 1) := by decide +kernel
theorem dX4_moveTrain_64 : decode cX4_moveTrain 64 = .ok (.getfield 49, 3) := by decide +kernel
theorem dX4_moveTrain_67 : decode cX4_moveTrain 67 = .ok (.iload_n 1, 1) := by decide +kernel
theorem dX4_moveTrain_68 : decode cX4_moveTrain 68 = .ok (.iaload, 1) := by decide +kernel
theorem dX4_moveTrain_69 : decode cX4_moveTrain 69 = .ok (.iload_n 2, 1) := by decide +kernel
theorem dX4_moveTrain_70 : decode cX4_moveTrain 70 = .ok (.if_icmp .ne 20, 3) := by decide +kernel
theorem dX4_moveTrain_73 : decode cX4_moveTrain 73 = .ok (.aload_n 0, 1) := by decide +kernel
theorem dX4_moveTrain_74 : decode cX4_moveTrain 74 = .ok (.getfield 49, 3) := by decide +kernel
theorem dX4_moveTrain_77 : decode cX4_moveTrain 77 = .ok (.iload_n 1, 1) := by decide +kernel
theorem dX4_moveTrain_78 : decode cX4_moveTrain 78 = .ok (.iconst (-1), 1) := by decide +kernel
theorem dX4_moveTrain_79 : decode cX4_moveTrain 79 = .ok (.iastore, 1) := by decide +kernel
theorem dX4_moveTrain_80 : decode cX4_moveTrain 80 = .ok (.aload_n 0, 1) := by decide +kernel
theorem dX4_moveTrain_81 : decode cX4_moveTrain 81 = .ok (.dup, 1) := by decide +kernel
theorem dX4_moveTrain_82 : decode cX4_moveTrain 82 = .ok (.getfield 21, 3) := by decide +kernel
theorem dX4_moveTrain_85 : decode cX4_moveTrain 85 = .ok (.iconst 1, 1) := by decide +kernel
theorem dX4_moveTrain_86 : decode cX4_moveTrain 86 = .ok (.iadd, 1) := by decide +kernel
theorem dX4_moveTrain_87 : decode cX4_moveTrain 87 = .ok (.putfield 21, 3) := by decide +kernel
theorem dX4_moveTrain_90 : decode cX4_moveTrain 90 = .ok (.return_, 1) := by decide +kernel
theorem dX4_countLinks_0 : decode cX4_countLinks 0 = .ok (.iconst 0, 1) := by decide +kernel
theorem dX4_countLinks_1 : decode cX4_countLinks 1 = .ok (.istore_n 1, 1) := by decide +kernel
theorem dX4_countLinks_2 : decode cX4_countLinks 2 = .ok (.iconst 0, 1) := by decide +kernel
theorem dX4_countLinks_3 : decode cX4_countLinks 3 = .ok (.istore_n 2, 1) := by decide +kernel
theorem dX4_countLinks_4 : decode cX4_countLinks 4 = .ok (.iload_n 2, 1) := by decide +kernel
theorem dX4_countLinks_5 : decode cX4_countLinks 5 = .ok (.aload_n 0, 1) := by decide +kernel
theorem dX4_countLinks_6 : decode cX4_countLinks 6 = .ok (.getfield 9, 3) := by decide +kernel
theorem dX4_countLinks_9 : decode cX4_countLinks 9 = .ok (.if_icmp .ge 21, 3) := by decide +kernel
theorem dX4_countLinks_12 : decode cX4_countLinks 12 = .ok (.iload_n 1, 1) := by decide +kernel
theorem dX4_countLinks_13 : decode cX4_countLinks 13 = .ok (.aload_n 0, 1) := by decide +kernel
theorem dX4_countLinks_14 : decode cX4_countLinks 14 = .ok (.getfield 37, 3) := by decide +kernel
theorem dX4_countLinks_17 : decode cX4_countLinks 17 = .ok (.iload_n 2, 1) := by decide +kernel
theorem dX4_countLinks_18 : decode cX4_countLinks 18 = .ok (.iaload, 1) := by decide +kernel
theorem dX4_countLinks_19 : decode cX4_countLinks 19 = .ok (.invokestatic 86, 3) := by decide +kernel
theorem dX4_countLinks_22 : decode cX4_countLinks 22 = .ok (.iadd, 1) := by decide +kernel
theorem dX4_countLinks_23 : decode cX4_countLinks 23 = .ok (.istore_n 1, 1) := by decide +kernel
theorem dX4_countLinks_24 : decode cX4_countLinks 24 = .ok (.iinc 2 1, 3) := by decide +kernel
theorem dX4_countLinks_27 : decode cX4_countLinks 27 = .ok (.goto (-23), 3) := by decide +kernel
theorem dX4_countLinks_30 : decode cX4_countLinks 30 = .ok (.iload_n 1, 1) := by decide +kernel
theorem dX4_countLinks_31 : decode cX4_countLinks 31 = .ok (.iconst 2, 1) := by decide +kernel
theorem dX4_countLinks_32 : decode cX4_countLinks 32 = .ok (.idiv, 1) := by decide +kernel
theorem dX4_countLinks_33 : decode cX4_countLinks 33 = .ok (.ireturn, 1) := by decide +kernel
theorem dX4_countHolds_0 : decode cX4_countHolds 0 = .ok (.iconst 0, 1) := by decide +kernel
theorem dX4_countHolds_1 : decode cX4_countHolds 1 = .ok (.istore_n 1, 1) := by decide +kernel
theorem dX4_countHolds_2 : decode cX4_countHolds 2 = .ok (.iconst 0, 1) := by decide +kernel
theorem dX4_countHolds_3 : decode cX4_countHolds 3 = .ok (.istore_n 2, 1) := by decide +kernel
theorem dX4_countHolds_4 : decode cX4_countHolds 4 = .ok (.iload_n 2, 1) := by decide +kernel
theorem dX4_countHolds_5 : decode cX4_countHolds 5 = .ok (.aload_n 0, 1) := by decide +kernel
theorem dX4_countHolds_6 : decode cX4_countHolds 6 = .ok (.getfield 15, 3) := by decide +kernel
theorem dX4_countHolds_9 : decode cX4_countHolds 9 = .ok (.if_icmp .ge 22, 3) := by decide +kernel
theorem dX4_countHolds_12 : decode cX4_countHolds 12 = .ok (.aload_n 0, 1) := by decide +kernel
theorem dX4_countHolds_13 : decode cX4_countHolds 13 = .ok (.getfield 52, 3) := by decide +kernel
theorem dX4_countHolds_16 : decode cX4_countHolds 16 = .ok (.iload_n 2, 1) := by decide +kernel
theorem dX4_countHolds_17 : decode cX4_countHolds 17 = .ok (.iaload, 1) := by decide +kernel
theorem dX4_countHolds_18 : decode cX4_countHolds 18 = .ok (.iconst (-1), 1) := by decide +kernel
theorem dX4_countHolds_19 : decode cX4_countHolds 19 = .ok (.if_icmp .eq 6, 3) := by decide +kernel
theorem dX4_countHolds_22 : decode cX4_countHolds 22 = .ok (.iinc 1 1, 3) := by decide +kernel
theorem dX4_countHolds_25 : decode cX4_countHolds 25 = .ok (.iinc 2 1, 3) := by decide +kernel
theorem dX4_countHolds_28 : decode cX4_countHolds 28 = .ok (.goto (-24), 3) := by decide +kernel
theorem dX4_countHolds_31 : decode cX4_countHolds 31 = .ok (.iload_n 1, 1) := by decide +kernel
theorem dX4_countHolds_32 : decode cX4_countHolds 32 = .ok (.ireturn, 1) := by decide +kernel
theorem dX5_init_0 : decode cX5_init 0 = .ok (.aload_n 0, 1) := by decide +kernel
theorem dX5_init_1 : decode cX5_init 1 = .ok (.invokespecial 3, 3) := by decide +kernel
theorem dX5_init_4 : decode cX5_init 4 = .ok (.aload_n 0, 1) := by decide +kernel
theorem dX5_init_5 : decode cX5_init 5 = .ok (.bipush 14, 2) := by decide +kernel
theorem dX5_init_7 : decode cX5_init 7 = .ok (.newarray .char, 2) := by decide +kernel
theorem dX5_init_9 : decode cX5_init 9 = .ok (.putfield 9, 3) := by decide +kernel
theorem dX5_init_12 : decode cX5_init 12 = .ok (.aload_n 0, 1) := by decide +kernel
theorem dX5_init_13 : decode cX5_init 13 = .ok (.iconst 0, 1) := by decide +kernel
theorem dX5_init_14 : decode cX5_init 14 = .ok (.putfield 15, 3) := by decide +kernel
theorem dX5_init_17 : decode cX5_init 17 = .ok (.return_, 1) := by decide +kernel
theorem dX5_clear_0 : decode cX5_clear 0 = .ok (.aload_n 0, 1) := by decide +kernel
theorem dX5_clear_1 : decode cX5_clear 1 = .ok (.iconst 0, 1) := by decide +kernel
theorem dX5_clear_2 : decode cX5_clear 2 = .ok (.putfield 15, 3) := by decide +kernel
theorem dX5_clear_5 : decode cX5_clear 5 = .ok (.return_, 1) := by decide +kernel
theorem dX5_put_0 : decode cX5_put 0 = .ok (.aload_n 0, 1) := by decide +kernel
theorem dX5_put_1 : decode cX5_put 1 = .ok (.getfield 15, 3) := by decide +kernel
theorem dX5_put_4 : decode cX5_put 4 = .ok (.bipush 14, 2) := by decide +kernel
theorem dX5_put_6 : decode cX5_put 6 = .ok (.if_icmp .ge 23, 3) := by decide +kernel
theorem dX5_put_9 : decode cX5_put 9 = .ok (.aload_n 0, 1) := by decide +kernel
theorem dX5_put_10 : decode cX5_put 10 = .ok (.getfield 9, 3) := by decide +kernel
theorem dX5_put_13 : decode cX5_put 13 = .ok (.aload_n 0, 1) := by decide +kernel
theorem dX5_put_14 : decode cX5_put 14 = .ok (.getfield 15, 3) := by decide +kernel
theorem dX5_put_17 : decode cX5_put 17 = .ok (.iload_n 1, 1) := by decide +kernel
theorem dX5_put_18 : decode cX5_put 18 = .ok (.castore, 1) := by decide +kernel
theorem dX5_put_19 : decode cX5_put 19 = .ok (.aload_n 0, 1) := by decide +kernel
theorem dX5_put_20 : decode cX5_put 20 = .ok (.dup, 1) := by decide +kernel
theorem dX5_put_21 : decode cX5_put 21 = .ok (.getfield 15, 3) := by decide +kernel
theorem dX5_put_24 : decode cX5_put 24 = .ok (.iconst 1, 1) := by decide +kernel
theorem dX5_put_25 : decode cX5_put 25 = .ok (.iadd, 1) := by decide +kernel
theorem dX5_put_26 : decode cX5_put 26 = .ok (.putfield 15, 3) := by decide +kernel
theorem dX5_put_29 : decode cX5_put 29 = .ok (.return_, 1) := by decide +kernel
theorem dX5_putMarked_0 : decode cX5_putMarked 0 = .ok (.aload_n 0, 1) := by decide +kernel
theorem dX5_putMarked_1 : decode cX5_putMarked 1 = .ok (.iload_n 1, 1) := by decide +kernel
theorem dX5_putMarked_2 : decode cX5_putMarked 2 = .ok (.invokevirtual 19, 3) := by decide +kernel
theorem dX5_putMarked_5 : decode cX5_putMarked 5 = .ok (.iload_n 2, 1) := by decide +kernel
theorem dX5_putMarked_6 : decode cX5_putMarked 6 = .ok (.bipush 10, 2) := by decide +kernel
theorem dX5_putMarked_8 : decode cX5_putMarked 8 = .ok (.if_icmp .lt 15, 3) := by decide +kernel
theorem dX5_putMarked_11 : decode cX5_putMarked 11 = .ok (.aload_n 0, 1) := by decide +kernel
theorem dX5_putMarked_12 : decode cX5_putMarked 12 = .ok (.bipush 48, 2) := by decide +kernel
theorem dX5_putMarked_14 : decode cX5_putMarked 14 = .ok (.iload_n 2, 1) := by decide +kernel
theorem dX5_putMarked_15 : decode cX5_putMarked 15 = .ok (.bipush 10, 2) := by decide +kernel
theorem dX5_putMarked_17 : decode cX5_putMarked 17 = .ok (.idiv, 1) := by decide +kernel
theorem dX5_putMarked_18 : decode cX5_putMarked 18 = .ok (.iadd, 1) := by decide +kernel
theorem dX5_putMarked_19 : decode cX5_putMarked 19 = .ok (.i2c, 1) := by decide +kernel
theorem dX5_putMarked_20 : decode cX5_putMarked 20 = .ok (.invokevirtual 19, 3) := by decide +kernel
theorem dX5_putMarked_23 : decode cX5_putMarked 23 = .ok (.aload_n 0, 1) := by decide +kernel
theorem dX5_putMarked_24 : decode cX5_putMarked 24 = .ok (.bipush 48, 2) := by decide +kernel
theorem dX5_putMarked_26 : decode cX5_putMarked 26 = .ok (.iload_n 2, 1) := by decide +kernel
theorem dX5_putMarked_27 : decode cX5_putMarked 27 = .ok (.bipush 10, 2) := by decide +kernel
theorem dX5_putMarked_29 : decode cX5_putMarked 29 = .ok (.irem, 1) := by decide +kernel
theorem dX5_putMarked_30 : decode cX5_putMarked 30 = .ok (.iadd, 1) := by decide +kernel
theorem dX5_putMarked_31 : decode cX5_putMarked 31 = .ok (.i2c, 1) := by decide +kernel
theorem dX5_putMarked_32 : decode cX5_putMarked 32 = .ok (.invokevirtual 19, 3) := by decide +kernel
theorem dX5_putMarked_35 : decode cX5_putMarked 35 = .ok (.return_, 1) := by decide +kernel
theorem dX6_init_0 : decode cX6_init 0 = .ok (.aload_n 0, 1) := by decide +kernel
theorem dX6_init_1 : decode cX6_init 1 = .ok (.invokespecial 3, 3) := by decide +kernel
theorem dX6_init_4 : decode cX6_init 4 = .ok (.aload_n 0, 1) := by decide +kernel
theorem dX6_init_5 : decode cX6_init 5 = .ok (.bipush 14, 2) := by decide +kernel
theorem dX6_init_7 : decode cX6_init 7 = .ok (.newarray .int, 2) := by decide +kernel
theorem dX6_init_9 : decode cX6_init 9 = .ok (.putfield 9, 3) := by decide +kernel
theorem dX6_init_12 : decode cX6_init 12 = .ok (.aload_n 0, 1) := by decide +kernel
theorem dX6_init_13 : decode cX6_init 13 = .ok (.bipush 14, 2) := by decide +kernel
theorem dX6_init_15 : decode cX6_init 15 = .ok (.newarray .int, 2) := by decide +kernel
theorem dX6_init_17 : decode cX6_init 17 = .ok (.putfield 15, 3) := by decide +kernel
theorem dX6_init_20 : decode cX6_init 20 = .ok (.aload_n 0, 1) := by decide +kernel
theorem dX6_init_21 : decode cX6_init 21 = .ok (.bipush 14, 2) := by decide +kernel
theorem dX6_init_23 : decode cX6_init 23 = .ok (.newarray .int, 2) := by decide +kernel
theorem dX6_init_25 : decode cX6_init 25 = .ok (.putfield 18, 3) := by decide +kernel
theorem dX6_init_28 : decode cX6_init 28 = .ok (.return_, 1) := by decide +kernel
theorem dX6_measureByNearest_0 : decode cX6_measureByNearest 0 = .ok (.iconst 0, 1) := by decide +kernel
theorem dX6_measureByNearest_1 : decode cX6_measureByNearest 1 = .ok (.istore_n 3, 1) := by decide +kernel
theorem dX6_measureByNearest_2 : decode cX6_measureByNearest 2 = .ok (.iload_n 3, 1) := by decide +kernel
theorem dX6_measureByNearest_3 : decode cX6_measureByNearest 3 = .ok (.aload_n 1, 1) := by decide +kernel
theorem dX6_measureByNearest_4 : decode cX6_measureByNearest 4 = .ok (.getfield 21, 3) := by decide +kernel
theorem dX6_measureByNearest_7 : decode cX6_measureByNearest 7 = .ok (.if_icmp .ge 27, 3) := by decide +kernel
theorem dX6_measureByNearest_10 : decode cX6_measureByNearest 10 = .ok (.aload_n 0, 1) := by decide +kernel
theorem dX6_measureByNearest_11 : decode cX6_measureByNearest 11 = .ok (.getfield 9, 3) := by decide +kernel
theorem dX6_measureByNearest_14 : decode cX6_measureByNearest 14 = .ok (.iload_n 3, 1) := by decide +kernel
theorem dX6_measureByNearest_15 : decode cX6_measureByNearest 15 = .ok (.iload_n 3, 1) := by decide +kernel
theorem dX6_measureByNearest_16 : decode cX6_measureByNearest 16 = .ok (.iload_n 2, 1) := by decide +kernel
theorem dX6_measureByNearest_17 : decode cX6_measureByNearest 17 = .ok (.if_icmp .ne 7, 3) := by decide +kernel
theorem dX6_measureByNearest_20 : decode cX6_measureByNearest 20 = .ok (.iconst 0, 1) := by decide +kernel
theorem dX6_measureByNearest_21 : decode cX6_measureByNearest 21 = .ok (.goto 6, 3) := by decide +kernel
theorem dX6_measureByNearest_24 : decode cX6_measureByNearest 24 = .ok (.sipush 1000, 3) := by decide +kernel
theorem dX6_measureByNearest_27 : decode cX6_measureByNearest 27 = .ok (.iastore, 1) := by decide +kernel
theorem dX6_measureByNearest_28 : decode cX6_measureByNearest 28 = .ok (.iinc 3 1, 3) := by decide +kernel
theorem dX6_measureByNearest_31 : decode cX6_measureByNearest 31 = .ok (.goto (-29), 3) := by decide +kernel
theorem dX6_measureByNearest_34 : decode cX6_measureByNearest 34 = .ok (.iconst 0, 1) := by decide +kernel
theorem dX6_measureByNearest_35 : decode cX6_measureByNearest 35 = .ok (.istore_n 3, 1) := by decide +kernel
theorem dX6_measureByNearest_36 : decode cX6_measureByNearest 36 = .ok (.iconst 0, 1) := by decide +kernel
theorem dX6_measureByNearest_37 : decode cX6_measureByNearest 37 = .ok (.istore 4, 2) := by decide +kernel
theorem dX6_measureByNearest_39 : decode cX6_measureByNearest 39 = .ok (.iload 4, 2) := by decide +kernel
theorem dX6_measureByNearest_41 : decode cX6_measureByNearest 41 = .ok (.aload_n 1, 1) := by decide +kernel
theorem dX6_measureByNearest_42 : decode cX6_measureByNearest 42 = .ok (.getfield 21, 3) := by decide +kernel
theorem dX6_measureByNearest_45 : decode cX6_measureByNearest 45 = .ok (.if_icmp .ge 105, 3) := by decide +kernel
theorem dX6_measureByNearest_48 : decode cX6_measureByNearest 48 = .ok (.aload_n 0, 1) := by decide +kernel
theorem dX6_measureByNearest_49 : decode cX6_measureByNearest 49 = .ok (.aload_n 1, 1) := by decide +kernel
theorem dX6_measureByNearest_50 : decode cX6_measureByNearest 50 = .ok (.getfield 21, 3) := by decide +kernel
theorem dX6_measureByNearest_53 : decode cX6_measureByNearest 53 = .ok (.iload_n 3, 1) := by decide +kernel
theorem dX6_measureByNearest_54 : decode cX6_measureByNearest 54 = .ok (.invokevirtual 27, 3) := by decide +kernel
theorem dX6_measureByNearest_57 : decode cX6_measureByNearest 57 = .ok (.istore 5, 2) := by decide +kernel
theorem dX6_measureByNearest_59 : decode cX6_measureByNearest 59 = .ok (.iload 5, 2) := by decide +kernel
theorem dX6_measureByNearest_61 : decode cX6_measureByNearest 61 = .ok (.iconst (-1), 1) := by decide +kernel
theorem dX6_measureByNearest_62 : decode cX6_measureByNearest 62 = .ok (.if_icmp .ne 4, 3) := by decide +kernel
theorem dX6_measureByNearest_65 : decode cX6_measureByNearest 65 = .ok (.return_, 1) := by decide +kernel
theorem dX6_measureByNearest_66 : decode cX6_measureByNearest 66 = .ok (.iload_n 3, 1) := by decide +kernel
theorem dX6_measureByNearest_67 : decode cX6_measureByNearest 67 = .ok (.iconst 1, 1) := by decide +kernel
theorem dX6_measureByNearest_68 : decode cX6_measureByNearest 68 = .ok (.iload 5, 2) := by decide +kernel
theorem dX6_measureByNearest_70 : decode cX6_measureByNearest 70 = .ok (.ishl, 1) := by decide +kernel
theorem dX6_measureByNearest_71 : decode cX6_measureByNearest 71 = .ok (.ior, 1) := by decide +kernel
theorem dX6_measureByNearest_72 : decode cX6_measureByNearest 72 = .ok (.istore_n 3, 1) := by decide +kernel
theorem dX6_measureByNearest_73 : decode cX6_measureByNearest 73 = .ok (.iconst 0, 1) := by decide +kernel
theorem dX6_measureByNearest_74 : decode cX6_measureByNearest 74 = .ok (.istore 6, 2) := by decide +kernel
theorem dX6_measureByNearest_76 : decode cX6_measureByNearest 76 = .ok (.iload 6, 2) := by decide +kernel
theorem dX6_measureByNearest_78 : decode cX6_measureByNearest 78 = .ok (.aload_n 1, 1) := by decide +kernel
theorem dX6_measureByNearest_79 : decode cX6_measureByNearest 79 = .ok (.getfield 21, 3) := by decide +kernel
theorem dX6_measureByNearest_82 : decode cX6_measureByNearest 82 = .ok (.if_icmp .ge 62, 3) := by decide +kernel
theorem dX6_measureByNearest_85 : decode cX6_measureByNearest 85 = .ok (.aload_n 0, 1) := by decide +kernel
theorem dX6_measureByNearest_86 : decode cX6_measureByNearest 86 = .ok (.getfield 9, 3) := by decide +kernel
theorem dX6_measureByNearest_89 : decode cX6_measureByNearest 89 = .ok (.iload 5, 2) := by decide +kernel
theorem dX6_measureByNearest_91 : decode cX6_measureByNearest 91 = .ok (.iaload, 1) := by decide +kernel
theorem dX6_measureByNearest_92 : decode cX6_measureByNearest 92 = .ok (.aload_n 1, 1) := by decide +kernel
theorem dX6_measureByNearest_93 : decode cX6_measureByNearest 93 = .ok (.getfield 31, 3) := by decide +kernel
theorem dX6_measureByNearest_96 : decode cX6_measureByNearest 96 = .ok (.iload 6, 2) := by decide +kernel
theorem dX6_measureByNearest_98 : decode cX6_measureByNearest 98 = .ok (.iaload, 1) := by decide +kernel
theorem dX6_measureByNearest_99 : decode cX6_measureByNearest 99 = .ok (.iadd, 1) := by decide +kernel
theorem dX6_measureByNearest_100 : decode cX6_measureByNearest 100 = .ok (.istore 7, 2) := by decide +kernel
theorem dX6_measureByNearest_102 : decode cX6_measureByNearest 102 = .ok (.aload_n 1, 1) := by decide +kernel
theorem dX6_measureByNearest_103 : decode cX6_measureByNearest 103 = .ok (.getfield 34, 3) := by decide +kernel
theorem dX6_measureByNearest_106 : decode cX6_measureByNearest 106 = .ok (.iload 5, 2) := by decide +kernel
theorem dX6_measureByNearest_108 : decode cX6_measureByNearest 108 = .ok (.iaload, 1) := by decide +kernel
theorem dX6_measureByNearest_109 : decode cX6_measureByNearest 109 = .ok (.iload 6, 2) := by decide +kernel
theorem dX6_measureByNearest_111 : decode cX6_measureByNearest 111 = .ok (.invokestatic 37, 3) := by decide +kernel
theorem dX6_measureByNearest_114 : decode cX6_measureByNearest 114 = .ok (.ifCond .eq 24, 3) := by decide +kernel
theorem dX6_measureByNearest_117 : decode cX6_measureByNearest 117 = .ok (.iload 7, 2) := by decide +kernel
theorem dX6_measureByNearest_119 : decode cX6_measureByNearest 119 = .ok (.aload_n 0, 1) := by decide +kernel
theorem dX6_measureByNearest_120 : decode cX6_measureByNearest 120 = .ok (.getfield 9, 3) := by decide +kernel
theorem dX6_measureByNearest_123 : decode cX6_measureByNearest 123 = .ok (.iload 6, 2) := by decide +kernel
theorem dX6_measureByNearest_125 : decode cX6_measureByNearest 125 = .ok (.iaload, 1) := by decide +kernel
theorem dX6_measureByNearest_126 : decode cX6_measureByNearest 126 = .ok (.if_icmp .ge 12, 3) := by decide +kernel
theorem dX6_measureByNearest_129 : decode cX6_measureByNearest 129 = .ok (.aload_n 0, 1) := by decide +kernel
theorem dX6_measureByNearest_130 : decode cX6_measureByNearest 130 = .ok (.getfield 9, 3) := by decide +kernel
theorem dX6_measureByNearest_133 : decode cX6_measureByNearest 133 = .ok (.iload 6, 2) := by decide +kernel
theorem dX6_measureByNearest_135 : decode cX6_measureByNearest 135 = .ok (.iload 7, 2) := by decide +kernel
theorem dX6_measureByNearest_137 : decode cX6_measureByNearest 137 = .ok (.iastore, 1) := by decide +kernel
theorem dX6_measureByNearest_138 : decode cX6_measureByNearest 138 = .ok (.iinc 6 1, 3) := by decide +kernel
theorem dX6_measureByNearest_141 : decode cX6_measureByNearest 141 = .ok (.goto (-65), 3) := by decide +kernel
theorem dX6_measureByNearest_144 : decode cX6_measureByNearest 144 = .ok (.iinc 4 1, 3) := by decide +kernel
theorem dX6_measureByNearest_147 : decode cX6_measureByNearest 147 = .ok (.goto (-108), 3) := by decide +kernel
theorem dX6_measureByNearest_150 : decode cX6_measureByNearest 150 = .ok (.return_, 1) := by decide +kernel
theorem dX6_nearestOpen_0 : decode cX6_nearestOpen 0 = .ok (.iconst (-1), 1) := by decide +kernel
theorem dX6_nearestOpen_1 : decode cX6_nearestOpen 1 = .ok (.istore_n 3, 1) := by decide +kernel
theorem dX6_nearestOpen_2 : decode cX6_nearestOpen 2 = .ok (.sipush 1000, 3) := by decide +kernel
theorem dX6_nearestOpen_5 : decode cX6_nearestOpen 5 = .ok (.istore 4, 2) := by decide +kernel
theorem dX6_nearestOpen_7 : decode cX6_nearestOpen 7 = .ok (.iconst 0, 1) := by decide +kernel
theorem dX6_nearestOpen_8 : decode cX6_nearestOpen 8 = .ok (.istore 5, 2) := by decide +kernel
theorem dX6_nearestOpen_10 : decode cX6_nearestOpen 10 = .ok (.iload 5, 2) := by decide +kernel
theorem dX6_nearestOpen_12 : decode cX6_nearestOpen 12 = .ok (.iload_n 1, 1) := by decide +kernel
theorem dX6_nearestOpen_13 : decode cX6_nearestOpen 13 = .ok (.if_icmp .ge 42, 3) := by decide +kernel
theorem dX6_nearestOpen_16 : decode cX6_nearestOpen 16 = .ok (.iload_n 2, 1) := by decide +kernel
theorem dX6_nearestOpen_17 : decode cX6_nearestOpen 17 = .ok (.iload 5, 2) := by decide +kernel
theorem dX6_nearestOpen_19 : decode cX6_nearestOpen 19 = .ok (.ishr, 1) := by decide +kernel
theorem dX6_nearestOpen_20 : decode cX6_nearestOpen 20 = .ok (.iconst 1, 1) := by decide +kernel
theorem dX6_nearestOpen_21 : decode cX6_nearestOpen 21 = .ok (.iand, 1) := by decide +kernel
theorem dX6_nearestOpen_22 : decode cX6_nearestOpen 22 = .ok (.ifCond .ne 27, 3) := by decide +kernel
theorem dX6_nearestOpen_25 : decode cX6_nearestOpen 25 = .ok (.aload_n 0, 1) := by decide +kernel
theorem dX6_nearestOpen_26 : decode cX6_nearestOpen 26 = .ok (.getfield 9, 3) := by decide +kernel
theorem dX6_nearestOpen_29 : decode cX6_nearestOpen 29 = .ok (.iload 5, 2) := by decide +kernel
theorem dX6_nearestOpen_31 : decode cX6_nearestOpen 31 = .ok (.iaload, 1) := by decide +kernel
theorem dX6_nearestOpen_32 : decode cX6_nearestOpen 32 = .ok (.iload 4, 2) := by decide +kernel
theorem dX6_nearestOpen_34 : decode cX6_nearestOpen 34 = .ok (.if_icmp .ge 15, 3) := by decide +kernel
theorem dX6_nearestOpen_37 : decode cX6_nearestOpen 37 = .ok (.iload 5, 2) := by decide +kernel
theorem dX6_nearestOpen_39 : decode cX6_nearestOpen 39 = .ok (.istore_n 3, 1) := by decide +kernel
theorem dX6_nearestOpen_40 : decode cX6_nearestOpen 40 = .ok (.aload_n 0, 1) := by decide +kernel
theorem dX6_nearestOpen_41 : decode cX6_nearestOpen 41 = .ok (.getfield 9, 3) := by decide +kernel
theorem dX6_nearestOpen_44 : decode cX6_nearestOpen 44 = .ok (.iload 5, 2) := by decide +kernel
theorem dX6_nearestOpen_46 : decode cX6_nearestOpen 46 = .ok (.iaload, 1) := by decide +kernel
theorem dX6_nearestOpen_47 : decode cX6_nearestOpen 47 = .ok (.istore 4, 2) := by decide +kernel
theorem dX6_nearestOpen_49 : decode cX6_nearestOpen 49 = .ok (.iinc 5 1, 3) := by decide +kernel
theorem dX6_nearestOpen_52 : decode cX6_nearestOpen 52 = .ok (.goto (-42), 3) := by decide +kernel
theorem dX6_nearestOpen_55 : decode cX6_nearestOpen 55 = .ok (.iload_n 3, 1) := by decide +kernel
theorem dX6_nearestOpen_56 : decode cX6_nearestOpen 56 = .ok (.ireturn, 1) := by decide +kernel
theorem dX6_measureByRounds_0 : decode cX6_measureByRounds 0 = .ok (.iconst 0, 1) := by decide +kernel
theorem dX6_measureByRounds_1 : decode cX6_measureByRounds 1 = .ok (.istore_n 3, 1) := by decide +kernel
theorem dX6_measureByRounds_2 : decode cX6_measureByRounds 2 = .ok (.iload_n 3, 1) := by decide +kernel
theorem dX6_measureByRounds_3 : decode cX6_measureByRounds 3 = .ok (.aload_n 1, 1) := by decide +kernel
theorem dX6_measureByRounds_4 : decode cX6_measureByRounds 4 = .ok (.getfield 21, 3) := by decide +kernel
theorem dX6_measureByRounds_7 : decode cX6_measureByRounds 7 = .ok (.if_icmp .ge 27, 3) := by decide +kernel
theorem dX6_measureByRounds_10 : decode cX6_measureByRounds 10 = .ok (.aload_n 0, 1) := by decide +kernel
theorem dX6_measureByRounds_11 : decode cX6_measureByRounds 11 = .ok (.getfield 15, 3) := by decide +kernel
theorem dX6_measureByRounds_14 : decode cX6_measureByRounds 14 = .ok (.iload_n 3, 1) := by decide +kernel
theorem dX6_measureByRounds_15 : decode cX6_measureByRounds 15 = .ok (.iload_n 3, 1) := by decide +kernel
theorem dX6_measureByRounds_16 : decode cX6_measureByRounds 16 = .ok (.iload_n 2, 1) := by decide +kernel
theorem dX6_measureByRounds_17 : decode cX6_measureByRounds 17 = .ok (.if_icmp .ne 7, 3) := by decide +kernel
theorem dX6_measureByRounds_20 : decode cX6_measureByRounds 20 = .ok (.iconst 0, 1) := by decide +kernel
theorem dX6_measureByRounds_21 : decode cX6_measureByRounds 21 = .ok (.goto 6, 3) := by decide +kernel
theorem dX6_measureByRounds_24 : decode cX6_measureByRounds 24 = .ok (.sipush 1000, 3) := by decide +kernel
theorem dX6_measureByRounds_27 : decode cX6_measureByRounds 27 = .ok (.iastore, 1) := by decide +kernel
theorem dX6_measureByRounds_28 : decode cX6_measureByRounds 28 = .ok (.iinc 3 1, 3) := by decide +kernel
theorem dX6_measureByRounds_31 : decode cX6_measureByRounds 31 = .ok (.goto (-29), 3) := by decide +kernel
theorem dX6_measureByRounds_34 : decode cX6_measureByRounds 34 = .ok (.iconst 1, 1) := by decide +kernel
theorem dX6_measureByRounds_35 : decode cX6_measureByRounds 35 = .ok (.istore_n 3, 1) := by decide +kernel
theorem dX6_measureByRounds_36 : decode cX6_measureByRounds 36 = .ok (.iconst 0, 1) := by decide +kernel
theorem dX6_measureByRounds_37 : decode cX6_measureByRounds 37 = .ok (.istore 4, 2) := by decide +kernel
theorem dX6_measureByRounds_39 : decode cX6_measureByRounds 39 = .ok (.iload 4, 2) := by decide +kernel
theorem dX6_measureByRounds_41 : decode cX6_measureByRounds 41 = .ok (.aload_n 1, 1) := by decide +kernel
theorem dX6_measureByRounds_42 : decode cX6_measureByRounds 42 = .ok (.getfield 21, 3) := by decide +kernel
theorem dX6_measureByRounds_45 : decode cX6_measureByRounds 45 = .ok (.if_icmp .gt 45, 3) := by decide +kernel
theorem dX6_measureByRounds_48 : decode cX6_measureByRounds 48 = .ok (.iload_n 3, 1) := by decide +kernel
theorem dX6_measureByRounds_49 : decode cX6_measureByRounds 49 = .ok (.ifCond .eq 41, 3) := by decide +kernel
theorem dX6_measureByRounds_52 : decode cX6_measureByRounds 52 = .ok (.iconst 0, 1) := by decide +kernel
theorem dX6_measureByRounds_53 : decode cX6_measureByRounds 53 = .ok (.istore_n 3, 1) := by decide +kernel
theorem dX6_measureByRounds_54 : decode cX6_measureByRounds 54 = .ok (.iconst 0, 1) := by decide +kernel
theorem dX6_measureByRounds_55 : decode cX6_measureByRounds 55 = .ok (.istore 5, 2) := by decide +kernel
theorem dX6_measureByRounds_57 : decode cX6_measureByRounds 57 = .ok (.iload 5, 2) := by decide +kernel
theorem dX6_measureByRounds_59 : decode cX6_measureByRounds 59 = .ok (.aload_n 1, 1) := by decide +kernel
theorem dX6_measureByRounds_60 : decode cX6_measureByRounds 60 = .ok (.getfield 21, 3) := by decide +kernel
theorem dX6_measureByRounds_63 : decode cX6_measureByRounds 63 = .ok (.if_icmp .ge 21, 3) := by decide +kernel
theorem dX6_measureByRounds_66 : decode cX6_measureByRounds 66 = .ok (.aload_n 0, 1) := by decide +kernel
theorem dX6_measureByRounds_67 : decode cX6_measureByRounds 67 = .ok (.aload_n 1, 1) := by decide +kernel
theorem dX6_measureByRounds_68 : decode cX6_measureByRounds 68 = .ok (.iload 5, 2) := by decide +kernel
theorem dX6_measureByRounds_70 : decode cX6_measureByRounds 70 = .ok (.invokevirtual 41, 3) := by decide +kernel
theorem dX6_measureByRounds_73 : decode cX6_measureByRounds 73 = .ok (.ifCond .eq 5, 3) := by decide +kernel
theorem dX6_measureByRounds_76 : decode cX6_measureByRounds 76 = .ok (.iconst 1, 1) := by decide +kernel
theorem dX6_measureByRounds_77 : decode cX6_measureByRounds 77 = .ok (.istore_n 3, 1) := by decide +kernel
theorem dX6_measureByRounds_78 : decode cX6_measureByRounds 78 = .ok (.iinc 5 1, 3) := by decide +kernel
theorem dX6_measureByRounds_81 : decode cX6_measureByRounds 81 = .ok (.goto (-24), 3) := by decide +kernel
theorem dX6_measureByRounds_84 : decode cX6_measureByRounds 84 = .ok (.iinc 4 1, 3) := by decide +kernel
theorem dX6_measureByRounds_87 : decode cX6_measureByRounds 87 = .ok (.goto (-48), 3) := by decide +kernel
theorem dX6_measureByRounds_90 : decode cX6_measureByRounds 90 = .ok (.return_, 1) := by decide +kernel
theorem dX6_shortenFrom_0 : decode cX6_shortenFrom 0 = .ok (.aload_n 0, 1) := by decide +kernel
theorem dX6_shortenFrom_1 : decode cX6_shortenFrom 1 = .ok (.getfield 15, 3) := by decide +kernel
theorem dX6_shortenFrom_4 : decode cX6_shortenFrom 4 = .ok (.iload_n 2, 1) := by decide +kernel
theorem dX6_shortenFrom_5 : decode cX6_shortenFrom 5 = .ok (.iaload, 1) := by decide +kernel
theorem dX6_shortenFrom_6 : decode cX6_shortenFrom 6 = .ok (.sipush 1000, 3) := by decide +kernel
theorem dX6_shortenFrom_9 : decode cX6_shortenFrom 9 = .ok (.if_icmp .lt 5, 3) := by decide +kernel
theorem dX6_shortenFrom_12 : decode cX6_shortenFrom 12 = .ok (.iconst 0, 1) := by decide +kernel
theorem dX6_shortenFrom_13 : decode cX6_shortenFrom 13 = .ok (.ireturn, 1) := by decide +kernel
theorem dX6_shortenFrom_14 : decode cX6_shortenFrom 14 = .ok (.iconst 0, 1) := by decide +kernel
theorem dX6_shortenFrom_15 : decode cX6_shortenFrom 15 = .ok (.istore_n 3, 1) := by decide +kernel
theorem dX6_shortenFrom_16 : decode cX6_shortenFrom 16 = .ok (.iconst 0, 1) := by decide +kernel
theorem dX6_shortenFrom_17 : decode cX6_shortenFrom 17 = .ok (.istore 4, 2) := by decide +kernel
theorem dX6_shortenFrom_19 : decode cX6_shortenFrom 19 = .ok (.iload 4, 2) := by decide +kernel
theorem dX6_shortenFrom_21 : decode cX6_shortenFrom 21 = .ok (.aload_n 1, 1) := by decide +kernel
theorem dX6_shortenFrom_22 : decode cX6_shortenFrom 22 = .ok (.getfield 21, 3) := by decide +kernel
theorem dX6_shortenFrom_25 : decode cX6_shortenFrom 25 = .ok (.if_icmp .ge 58, 3) := by decide +kernel
theorem dX6_shortenFrom_28 : decode cX6_shortenFrom 28 = .ok (.aload_n 0, 1) := by decide +kernel
theorem dX6_shortenFrom_29 : decode cX6_shortenFrom 29 = .ok (.getfield 15, 3) := by decide +kernel
theorem dX6_shortenFrom_32 : decode cX6_shortenFrom 32 = .ok (.iload_n 2, 1) := by decide +kernel
theorem dX6_shortenFrom_33 : decode cX6_shortenFrom 33 = .ok (.iaload, 1) := by decide +kernel
theorem dX6_shortenFrom_34 : decode cX6_shortenFrom 34 = .ok (.aload_n 1, 1) := by decide +kernel
theorem dX6_shortenFrom_35 : decode cX6_shortenFrom 35 = .ok (.getfield 31, 3) := by decide +kernel
