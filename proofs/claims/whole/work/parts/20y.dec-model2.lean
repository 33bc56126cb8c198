/-! decode rows, as printed -/
theorem dX6_isMade_38 : decode cX6_isMade 38 = .ok (.invokevirtual 103, 3) := by decide +kernel
theorem dX6_isMade_41 : decode cX6_isMade 41 = .ok (.goto 7, 3) := by decide +kernel
theorem dX6_isMade_44 : decode cX6_isMade 44 = .ok (.aload_n 0, 1) := by decide +kernel
theorem dX6_isMade_45 : decode cX6_isMade 45 = .ok (.invokevirtual 106, 3) := by decide +kernel
theorem dX6_isMade_48 : decode cX6_isMade 48 = .ok (.istore_n 1, 1) := by decide +kernel
theorem dX6_isMade_49 : decode cX6_isMade 49 = .ok (.aload_n 0, 1) := by decide +kernel
theorem dX6_isMade_50 : decode cX6_isMade 50 = .ok (.getfield 123, 3) := by decide +kernel
theorem dX6_isMade_53 : decode cX6_isMade 53 = .ok (.bipush 100, 2) := by decide +kernel
theorem dX6_isMade_55 : decode cX6_isMade 55 = .ok (.if_icmp .ne 17, 3) := by decide +kernel
theorem dX6_isMade_58 : decode cX6_isMade 58 = .ok (.iload_n 1, 1) := by decide +kernel
theorem dX6_isMade_59 : decode cX6_isMade 59 = .ok (.bipush 100, 2) := by decide +kernel
theorem dX6_isMade_61 : decode cX6_isMade 61 = .ok (.if_icmp .ge 7, 3) := by decide +kernel
theorem dX6_isMade_64 : decode cX6_isMade 64 = .ok (.iconst 1, 1) := by decide +kernel
theorem dX6_isMade_65 : decode cX6_isMade 65 = .ok (.goto 18, 3) := by decide +kernel
theorem dX6_isMade_68 : decode cX6_isMade 68 = .ok (.iconst 0, 1) := by decide +kernel
theorem dX6_isMade_69 : decode cX6_isMade 69 = .ok (.goto 14, 3) := by decide +kernel
theorem dX6_isMade_72 : decode cX6_isMade 72 = .ok (.iload_n 1, 1) := by decide +kernel
theorem dX6_isMade_73 : decode cX6_isMade 73 = .ok (.bipush 9, 2) := by decide +kernel
theorem dX6_isMade_75 : decode cX6_isMade 75 = .ok (.if_icmp .le 7, 3) := by decide +kernel
theorem dX6_isMade_78 : decode cX6_isMade 78 = .ok (.iconst 1, 1) := by decide +kernel
theorem dX6_isMade_79 : decode cX6_isMade 79 = .ok (.goto 4, 3) := by decide +kernel
theorem dX6_isMade_82 : decode cX6_isMade 82 = .ok (.iconst 0, 1) := by decide +kernel
theorem dX6_isMade_83 : decode cX6_isMade 83 = .ok (.ireturn, 1) := by decide +kernel
theorem dX6_goesThrough_0 : decode cX6_goesThrough 0 = .ok (.aload_n 0, 1) := by decide +kernel
theorem dX6_goesThrough_1 : decode cX6_goesThrough 1 = .ok (.iconst 0, 1) := by decide +kernel
theorem dX6_goesThrough_2 : decode cX6_goesThrough 2 = .ok (.putfield 112, 3) := by decide +kernel
theorem dX6_goesThrough_5 : decode cX6_goesThrough 5 = .ok (.aload_n 0, 1) := by decide +kernel
theorem dX6_goesThrough_6 : decode cX6_goesThrough 6 = .ok (.iconst 0, 1) := by decide +kernel
theorem dX6_goesThrough_7 : decode cX6_goesThrough 7 = .ok (.putfield 115, 3) := by decide +kernel
theorem dX6_goesThrough_10 : decode cX6_goesThrough 10 = .ok (.iconst 0, 1) := by decide +kernel
theorem dX6_goesThrough_11 : decode cX6_goesThrough 11 = .ok (.istore_n 2, 1) := by decide +kernel
theorem dX6_goesThrough_12 : decode cX6_goesThrough 12 = .ok (.iconst 1, 1) := by decide +kernel
theorem dX6_goesThrough_13 : decode cX6_goesThrough 13 = .ok (.istore_n 3, 1) := by decide +kernel
theorem dX6_goesThrough_14 : decode cX6_goesThrough 14 = .ok (.iload_n 3, 1) := by decide +kernel
theorem dX6_goesThrough_15 : decode cX6_goesThrough 15 = .ok (.ifCond .eq 94, 3) := by decide +kernel
theorem dX6_goesThrough_18 : decode cX6_goesThrough 18 = .ok (.aload_n 0, 1) := by decide +kernel
theorem dX6_goesThrough_19 : decode cX6_goesThrough 19 = .ok (.invokevirtual 138, 3) := by decide +kernel
theorem dX6_goesThrough_22 : decode cX6_goesThrough 22 = .ok (.aload_n 0, 1) := by decide +kernel
theorem dX6_goesThrough_23 : decode cX6_goesThrough 23 = .ok (.getfield 115, 3) := by decide +kernel
theorem dX6_goesThrough_26 : decode cX6_goesThrough 26 = .ok (.ifCond .ne 18, 3) := by decide +kernel
theorem dX6_goesThrough_29 : decode cX6_goesThrough 29 = .ok (.iload_n 1, 1) := by decide +kernel
theorem dX6_goesThrough_30 : decode cX6_goesThrough 30 = .ok (.ifCond .eq 10, 3) := by decide +kernel
theorem dX6_goesThrough_33 : decode cX6_goesThrough 33 = .ok (.aload_n 0, 1) := by decide +kernel
theorem dX6_goesThrough_34 : decode cX6_goesThrough 34 = .ok (.invokevirtual 141, 3) := by decide +kernel
theorem dX6_goesThrough_37 : decode cX6_goesThrough 37 = .ok (.ifCond .eq 7, 3) := by decide +kernel
theorem dX6_goesThrough_40 : decode cX6_goesThrough 40 = .ok (.iconst 1, 1) := by decide +kernel
theorem dX6_goesThrough_41 : decode cX6_goesThrough 41 = .ok (.goto 4, 3) := by decide +kernel
theorem dX6_goesThrough_44 : decode cX6_goesThrough 44 = .ok (.iconst 0, 1) := by decide +kernel
theorem dX6_goesThrough_45 : decode cX6_goesThrough 45 = .ok (.istore_n 3, 1) := by decide +kernel
theorem dX6_goesThrough_46 : decode cX6_goesThrough 46 = .ok (.iload_n 2, 1) := by decide +kernel
theorem dX6_goesThrough_47 : decode cX6_goesThrough 47 = .ok (.iload_n 3, 1) := by decide +kernel
theorem dX6_goesThrough_48 : decode cX6_goesThrough 48 = .ok (.ifCond .eq 7, 3) := by decide +kernel
theorem dX6_goesThrough_51 : decode cX6_goesThrough 51 = .ok (.iconst 1, 1) := by decide +kernel
theorem dX6_goesThrough_52 : decode cX6_goesThrough 52 = .ok (.goto 4, 3) := by decide +kernel
theorem dX6_goesThrough_55 : decode cX6_goesThrough 55 = .ok (.iconst 0, 1) := by decide +kernel
theorem dX6_goesThrough_56 : decode cX6_goesThrough 56 = .ok (.iadd, 1) := by decide +kernel
theorem dX6_goesThrough_57 : decode cX6_goesThrough 57 = .ok (.istore_n 2, 1) := by decide +kernel
theorem dX6_goesThrough_58 : decode cX6_goesThrough 58 = .ok (.iload_n 3, 1) := by decide +kernel
theorem dX6_goesThrough_59 : decode cX6_goesThrough 59 = .ok (.ifCond .eq 18, 3) := by decide +kernel
theorem dX6_goesThrough_62 : decode cX6_goesThrough 62 = .ok (.aload_n 0, 1) := by decide +kernel
theorem dX6_goesThrough_63 : decode cX6_goesThrough 63 = .ok (.getfield 112, 3) := by decide +kernel
theorem dX6_goesThrough_66 : decode cX6_goesThrough 66 = .ok (.aload_n 0, 1) := by decide +kernel
theorem dX6_goesThrough_67 : decode cX6_goesThrough 67 = .ok (.getfield 109, 3) := by decide +kernel
theorem dX6_goesThrough_70 : decode cX6_goesThrough 70 = .ok (.if_icmp .ge 7, 3) := by decide +kernel
theorem dX6_goesThrough_73 : decode cX6_goesThrough 73 = .ok (.iconst 1, 1) := by decide +kernel
theorem dX6_goesThrough_74 : decode cX6_goesThrough 74 = .ok (.goto 4, 3) := by decide +kernel
theorem dX6_goesThrough_77 : decode cX6_goesThrough 77 = .ok (.iconst 0, 1) := by decide +kernel
theorem dX6_goesThrough_78 : decode cX6_goesThrough 78 = .ok (.istore_n 3, 1) := by decide +kernel
theorem dX6_goesThrough_79 : decode cX6_goesThrough 79 = .ok (.iload_n 3, 1) := by decide +kernel
theorem dX6_goesThrough_80 : decode cX6_goesThrough 80 = .ok (.ifCond .eq (-66), 3) := by decide +kernel
theorem dX6_goesThrough_83 : decode cX6_goesThrough 83 = .ok (.aload_n 0, 1) := by decide +kernel
theorem dX6_goesThrough_84 : decode cX6_goesThrough 84 = .ok (.bipush 59, 2) := by decide +kernel
theorem dX6_goesThrough_86 : decode cX6_goesThrough 86 = .ok (.bipush 59, 2) := by decide +kernel
theorem dX6_goesThrough_88 : decode cX6_goesThrough 88 = .ok (.invokevirtual 126, 3) := by decide +kernel
theorem dX6_goesThrough_91 : decode cX6_goesThrough 91 = .ok (.istore 4, 2) := by decide +kernel
theorem dX6_goesThrough_93 : decode cX6_goesThrough 93 = .ok (.aload_n 0, 1) := by decide +kernel
theorem dX6_goesThrough_94 : decode cX6_goesThrough 94 = .ok (.getfield 115, 3) := by decide +kernel
theorem dX6_goesThrough_97 : decode cX6_goesThrough 97 = .ok (.ifCond .ne 7, 3) := by decide +kernel
theorem dX6_goesThrough_100 : decode cX6_goesThrough 100 = .ok (.iconst 1, 1) := by decide +kernel
theorem dX6_goesThrough_101 : decode cX6_goesThrough 101 = .ok (.goto 4, 3) := by decide +kernel
theorem dX6_goesThrough_104 : decode cX6_goesThrough 104 = .ok (.iconst 0, 1) := by decide +kernel
theorem dX6_goesThrough_105 : decode cX6_goesThrough 105 = .ok (.istore_n 3, 1) := by decide +kernel
theorem dX6_goesThrough_106 : decode cX6_goesThrough 106 = .ok (.goto (-92), 3) := by decide +kernel
theorem dX6_goesThrough_109 : decode cX6_goesThrough 109 = .ok (.iload_n 2, 1) := by decide +kernel
theorem dX6_goesThrough_110 : decode cX6_goesThrough 110 = .ok (.ireturn, 1) := by decide +kernel
theorem dX6_firstError_0 : decode cX6_firstError 0 = .ok (.aload_n 0, 1) := by decide +kernel
theorem dX6_firstError_1 : decode cX6_firstError 1 = .ok (.iconst 0, 1) := by decide +kernel
theorem dX6_firstError_2 : decode cX6_firstError 2 = .ok (.putfield 33, 3) := by decide +kernel
theorem dX6_firstError_5 : decode cX6_firstError 5 = .ok (.aload_n 0, 1) := by decide +kernel
theorem dX6_firstError_6 : decode cX6_firstError 6 = .ok (.iconst 0, 1) := by decide +kernel
theorem dX6_firstError_7 : decode cX6_firstError 7 = .ok (.invokevirtual 145, 3) := by decide +kernel
theorem dX6_firstError_10 : decode cX6_firstError 10 = .ok (.istore_n 1, 1) := by decide +kernel
theorem dX6_firstError_11 : decode cX6_firstError 11 = .ok (.aload_n 0, 1) := by decide +kernel
theorem dX6_firstError_12 : decode cX6_firstError 12 = .ok (.getfield 115, 3) := by decide +kernel
theorem dX6_firstError_15 : decode cX6_firstError 15 = .ok (.ifCond .eq 10, 3) := by decide +kernel
theorem dX6_firstError_18 : decode cX6_firstError 18 = .ok (.aload_n 0, 1) := by decide +kernel
theorem dX6_firstError_19 : decode cX6_firstError 19 = .ok (.getfield 112, 3) := by decide +kernel
theorem dX6_firstError_22 : decode cX6_firstError 22 = .ok (.goto 7, 3) := by decide +kernel
theorem dX6_firstError_25 : decode cX6_firstError 25 = .ok (.aload_n 0, 1) := by decide +kernel
theorem dX6_firstError_26 : decode cX6_firstError 26 = .ok (.getfield 109, 3) := by decide +kernel
theorem dX6_firstError_29 : decode cX6_firstError 29 = .ok (.ireturn, 1) := by decide +kernel
theorem dX6_run_0 : decode cX6_run 0 = .ok (.aload_n 0, 1) := by decide +kernel
theorem dX6_run_1 : decode cX6_run 1 = .ok (.iconst 0, 1) := by decide +kernel
theorem dX6_run_2 : decode cX6_run 2 = .ok (.invokevirtual 145, 3) := by decide +kernel
theorem dX6_run_5 : decode cX6_run 5 = .ok (.istore_n 1, 1) := by decide +kernel
theorem dX6_run_6 : decode cX6_run 6 = .ok (.aload_n 0, 1) := by decide +kernel
theorem dX6_run_7 : decode cX6_run 7 = .ok (.aload_n 0, 1) := by decide +kernel
theorem dX6_run_8 : decode cX6_run 8 = .ok (.getfield 115, 3) := by decide +kernel
theorem dX6_run_11 : decode cX6_run 11 = .ok (.ifCond .eq 7, 3) := by decide +kernel
theorem dX6_run_14 : decode cX6_run 14 = .ok (.iconst 1, 1) := by decide +kernel
theorem dX6_run_15 : decode cX6_run 15 = .ok (.goto 4, 3) := by decide +kernel
theorem dX6_run_18 : decode cX6_run 18 = .ok (.iconst 0, 1) := by decide +kernel
theorem dX6_run_19 : decode cX6_run 19 = .ok (.invokevirtual 65, 3) := by decide +kernel
theorem dX6_run_22 : decode cX6_run 22 = .ok (.ifCond .ne 5, 3) := by decide +kernel
theorem dX6_run_25 : decode cX6_run 25 = .ok (.iconst 0, 1) := by decide +kernel
theorem dX6_run_26 : decode cX6_run 26 = .ok (.ireturn, 1) := by decide +kernel
theorem dX6_run_27 : decode cX6_run 27 = .ok (.aload_n 0, 1) := by decide +kernel
theorem dX6_run_28 : decode cX6_run 28 = .ok (.invokevirtual 69, 3) := by decide +kernel
theorem dX6_run_31 : decode cX6_run 31 = .ok (.aload_n 0, 1) := by decide +kernel
theorem dX6_run_32 : decode cX6_run 32 = .ok (.iconst 1, 1) := by decide +kernel
theorem dX6_run_33 : decode cX6_run 33 = .ok (.invokevirtual 145, 3) := by decide +kernel
theorem dX6_run_36 : decode cX6_run 36 = .ok (.istore_n 1, 1) := by decide +kernel
theorem dX6_run_37 : decode cX6_run 37 = .ok (.aload_n 0, 1) := by decide +kernel
theorem dX6_run_38 : decode cX6_run 38 = .ok (.iconst 0, 1) := by decide +kernel
theorem dX6_run_39 : decode cX6_run 39 = .ok (.putfield 109, 3) := by decide +kernel
theorem dX6_run_42 : decode cX6_run 42 = .ok (.iload_n 1, 1) := by decide +kernel
theorem dX6_run_43 : decode cX6_run 43 = .ok (.ireturn, 1) := by decide +kernel
theorem dX6_keep_0 : decode cX6_keep 0 = .ok (.aload_n 0, 1) := by decide +kernel
theorem dX6_keep_1 : decode cX6_keep 1 = .ok (.iload_n 1, 1) := by decide +kernel
theorem dX6_keep_2 : decode cX6_keep 2 = .ok (.iconst 0, 1) := by decide +kernel
theorem dX6_keep_3 : decode cX6_keep 3 = .ok (.iconst 1, 1) := by decide +kernel
theorem dX6_keep_4 : decode cX6_keep 4 = .ok (.invokestatic 37, 3) := by decide +kernel
theorem dX6_keep_7 : decode cX6_keep 7 = .ok (.ifCond .eq 7, 3) := by decide +kernel
theorem dX6_keep_10 : decode cX6_keep 10 = .ok (.iconst 0, 1) := by decide +kernel
theorem dX6_keep_11 : decode cX6_keep 11 = .ok (.goto 4, 3) := by decide +kernel
theorem dX6_keep_14 : decode cX6_keep 14 = .ok (.iconst 1, 1) := by decide +kernel
theorem dX6_keep_15 : decode cX6_keep 15 = .ok (.invokevirtual 65, 3) := by decide +kernel
theorem dX6_keep_18 : decode cX6_keep 18 = .ok (.ifCond .ne 5, 3) := by decide +kernel
theorem dX6_keep_21 : decode cX6_keep 21 = .ok (.iconst 0, 1) := by decide +kernel
theorem dX6_keep_22 : decode cX6_keep 22 = .ok (.ireturn, 1) := by decide +kernel
theorem dX6_keep_23 : decode cX6_keep 23 = .ok (.iconst 0, 1) := by decide +kernel
theorem dX6_keep_24 : decode cX6_keep 24 = .ok (.istore_n 2, 1) := by decide +kernel
theorem dX6_keep_25 : decode cX6_keep 25 = .ok (.iload_n 2, 1) := by decide +kernel
theorem dX6_keep_26 : decode cX6_keep 26 = .ok (.sipush 372, 3) := by decide +kernel
theorem dX6_keep_29 : decode cX6_keep 29 = .ok (.if_icmp .ge 27, 3) := by decide +kernel
theorem dX6_keep_32 : decode cX6_keep 32 = .ok (.aload_n 0, 1) := by decide +kernel
theorem dX6_keep_33 : decode cX6_keep 33 = .ok (.getfield 16, 3) := by decide +kernel
theorem dX6_keep_36 : decode cX6_keep 36 = .ok (.sipush 372, 3) := by decide +kernel
theorem dX6_keep_39 : decode cX6_keep 39 = .ok (.iload_n 1, 1) := by decide +kernel
theorem dX6_keep_40 : decode cX6_keep 40 = .ok (.imul, 1) := by decide +kernel
theorem dX6_keep_41 : decode cX6_keep 41 = .ok (.iload_n 2, 1) := by decide +kernel
theorem dX6_keep_42 : decode cX6_keep 42 = .ok (.iadd, 1) := by decide +kernel
theorem dX6_keep_43 : decode cX6_keep 43 = .ok (.aload_n 0, 1) := by decide +kernel
theorem dX6_keep_44 : decode cX6_keep 44 = .ok (.getfield 7, 3) := by decide +kernel
theorem dX6_keep_47 : decode cX6_keep 47 = .ok (.iload_n 2, 1) := by decide +kernel
theorem dX6_keep_48 : decode cX6_keep 48 = .ok (.iaload, 1) := by decide +kernel
theorem dX6_keep_49 : decode cX6_keep 49 = .ok (.iastore, 1) := by decide +kernel
theorem dX6_keep_50 : decode cX6_keep 50 = .ok (.iinc 2 1, 3) := by decide +kernel
theorem dX6_keep_53 : decode cX6_keep 53 = .ok (.goto (-28), 3) := by decide +kernel
theorem dX6_keep_56 : decode cX6_keep 56 = .ok (.aload_n 0, 1) := by decide +kernel
theorem dX6_keep_57 : decode cX6_keep 57 = .ok (.dup, 1) := by decide +kernel
theorem dX6_keep_58 : decode cX6_keep 58 = .ok (.getfield 149, 3) := by decide +kernel
theorem dX6_keep_61 : decode cX6_keep 61 = .ok (.iconst 1, 1) := by decide +kernel
theorem dX6_keep_62 : decode cX6_keep 62 = .ok (.iload_n 1, 1) := by decide +kernel
theorem dX6_keep_63 : decode cX6_keep 63 = .ok (.ishl, 1) := by decide +kernel
theorem dX6_keep_64 : decode cX6_keep 64 = .ok (.ior, 1) := by decide +kernel
theorem dX6_keep_65 : decode cX6_keep 65 = .ok (.putfield 149, 3) := by decide +kernel
theorem dX6_keep_68 : decode cX6_keep 68 = .ok (.aload_n 0, 1) := by decide +kernel
theorem dX6_keep_69 : decode cX6_keep 69 = .ok (.invokevirtual 72, 3) := by decide +kernel
theorem dX6_keep_72 : decode cX6_keep 72 = .ok (.ireturn, 1) := by decide +kernel
theorem dX6_goBack_0 : decode cX6_goBack 0 = .ok (.aload_n 0, 1) := by decide +kernel
theorem dX6_goBack_1 : decode cX6_goBack 1 = .ok (.iload_n 1, 1) := by decide +kernel
theorem dX6_goBack_2 : decode cX6_goBack 2 = .ok (.iconst 0, 1) := by decide +kernel
theorem dX6_goBack_3 : decode cX6_goBack 3 = .ok (.iconst 1, 1) := by decide +kernel
theorem dX6_goBack_4 : decode cX6_goBack 4 = .ok (.invokestatic 37, 3) := by decide +kernel
theorem dX6_goBack_7 : decode cX6_goBack 7 = .ok (.ifCond .ne 7, 3) := by decide +kernel
theorem dX6_goBack_10 : decode cX6_goBack 10 = .ok (.iconst 1, 1) := by decide +kernel
theorem dX6_goBack_11 : decode cX6_goBack 11 = .ok (.goto 19, 3) := by decide +kernel
theorem dX6_goBack_14 : decode cX6_goBack 14 = .ok (.aload_n 0, 1) := by decide +kernel
theorem dX6_goBack_15 : decode cX6_goBack 15 = .ok (.getfield 149, 3) := by decide +kernel
theorem dX6_goBack_18 : decode cX6_goBack 18 = .ok (.iload_n 1, 1) := by decide +kernel
theorem dX6_goBack_19 : decode cX6_goBack 19 = .ok (.ishr, 1) := by decide +kernel
theorem dX6_goBack_20 : decode cX6_goBack 20 = .ok (.iconst 1, 1) := by decide +kernel
theorem dX6_goBack_21 : decode cX6_goBack 21 = .ok (.iand, 1) := by decide +kernel
theorem dX6_goBack_22 : decode cX6_goBack 22 = .ok (.ifCond .ne 7, 3) := by decide +kernel
theorem dX6_goBack_25 : decode cX6_goBack 25 = .ok (.iconst 2, 1) := by decide +kernel
theorem dX6_goBack_26 : decode cX6_goBack 26 = .ok (.goto 4, 3) := by decide +kernel
theorem dX6_goBack_29 : decode cX6_goBack 29 = .ok (.iconst 0, 1) := by decide +kernel
theorem dX6_goBack_30 : decode cX6_goBack 30 = .ok (.invokevirtual 65, 3) := by decide +kernel
theorem dX6_goBack_33 : decode cX6_goBack 33 = .ok (.ifCond .ne 5, 3) := by decide +kernel
theorem dX6_goBack_36 : decode cX6_goBack 36 = .ok (.iconst 0, 1) := by decide +kernel
theorem dX6_goBack_37 : decode cX6_goBack 37 = .ok (.ireturn, 1) := by decide +kernel
theorem dX6_goBack_38 : decode cX6_goBack 38 = .ok (.aload_n 0, 1) := by decide +kernel
theorem dX6_goBack_39 : decode cX6_goBack 39 = .ok (.invokevirtual 69, 3) := by decide +kernel
theorem dX6_goBack_42 : decode cX6_goBack 42 = .ok (.iconst 0, 1) := by decide +kernel
theorem dX6_goBack_43 : decode cX6_goBack 43 = .ok (.istore_n 2, 1) := by decide +kernel
theorem dX6_goBack_44 : decode cX6_goBack 44 = .ok (.iload_n 2, 1) := by decide +kernel
theorem dX6_goBack_45 : decode cX6_goBack 45 = .ok (.sipush 372, 3) := by decide +kernel
theorem dX6_goBack_48 : decode cX6_goBack 48 = .ok (.if_icmp .ge 27, 3) := by decide +kernel
theorem dX6_goBack_51 : decode cX6_goBack 51 = .ok (.aload_n 0, 1) := by decide +kernel
theorem dX6_goBack_52 : decode cX6_goBack 52 = .ok (.getfield 7, 3) := by decide +kernel
theorem dX6_goBack_55 : decode cX6_goBack 55 = .ok (.iload_n 2, 1) := by decide +kernel
theorem dX6_goBack_56 : decode cX6_goBack 56 = .ok (.aload_n 0, 1) := by decide +kernel
theorem dX6_goBack_57 : decode cX6_goBack 57 = .ok (.getfield 16, 3) := by decide +kernel
theorem dX6_goBack_60 : decode cX6_goBack 60 = .ok (.sipush 372, 3) := by decide +kernel
theorem dX6_goBack_63 : decode cX6_goBack 63 = .ok (.iload_n 1, 1) := by decide +kernel
theorem dX6_goBack_64 : decode cX6_goBack 64 = .ok (.imul, 1) := by decide +kernel
theorem dX6_goBack_65 : decode cX6_goBack 65 = .ok (.iload_n 2, 1) := by decide +kernel
theorem dX6_goBack_66 : decode cX6_goBack 66 = .ok (.iadd, 1) := by decide +kernel
theorem dX6_goBack_67 : decode cX6_goBack 67 = .ok (.iaload, 1) := by decide +kernel
theorem dX6_goBack_68 : decode cX6_goBack 68 = .ok (.iastore, 1) := by decide +kernel
theorem dX6_goBack_69 : decode cX6_goBack 69 = .ok (.iinc 2 1, 3) := by decide +kernel
theorem dX6_goBack_72 : decode cX6_goBack 72 = .ok (.goto (-28), 3) := by decide +kernel
theorem dX6_goBack_75 : decode cX6_goBack 75 = .ok (.aload_n 0, 1) := by decide +kernel
theorem dX6_goBack_76 : decode cX6_goBack 76 = .ok (.invokevirtual 72, 3) := by decide +kernel
theorem dX6_goBack_79 : decode cX6_goBack 79 = .ok (.ireturn, 1) := by decide +kernel
theorem dX6_undo_0 : decode cX6_undo 0 = .ok (.aload_n 0, 1) := by decide +kernel
theorem dX6_undo_1 : decode cX6_undo 1 = .ok (.aload_n 0, 1) := by decide +kernel
theorem dX6_undo_2 : decode cX6_undo 2 = .ok (.getfield 41, 3) := by decide +kernel
theorem dX6_undo_5 : decode cX6_undo 5 = .ok (.ifCond .le 7, 3) := by decide +kernel
theorem dX6_undo_8 : decode cX6_undo 8 = .ok (.iconst 0, 1) := by decide +kernel
theorem dX6_undo_9 : decode cX6_undo 9 = .ok (.goto 4, 3) := by decide +kernel
theorem dX6_undo_12 : decode cX6_undo 12 = .ok (.iconst 1, 1) := by decide +kernel
theorem dX6_undo_13 : decode cX6_undo 13 = .ok (.invokevirtual 65, 3) := by decide +kernel
theorem dX6_undo_16 : decode cX6_undo 16 = .ok (.ifCond .ne 5, 3) := by decide +kernel
theorem dX6_undo_19 : decode cX6_undo 19 = .ok (.iconst 0, 1) := by decide +kernel
theorem dX6_undo_20 : decode cX6_undo 20 = .ok (.ireturn, 1) := by decide +kernel
theorem dX6_undo_21 : decode cX6_undo 21 = .ok (.aload_n 0, 1) := by decide +kernel
theorem dX6_undo_22 : decode cX6_undo 22 = .ok (.dup, 1) := by decide +kernel
theorem dX6_undo_23 : decode cX6_undo 23 = .ok (.getfield 41, 3) := by decide +kernel
theorem dX6_undo_26 : decode cX6_undo 26 = .ok (.iconst 1, 1) := by decide +kernel
theorem dX6_undo_27 : decode cX6_undo 27 = .ok (.isub, 1) := by decide +kernel
theorem dX6_undo_28 : decode cX6_undo 28 = .ok (.putfield 41, 3) := by decide +kernel
theorem dX6_undo_31 : decode cX6_undo 31 = .ok (.iconst 0, 1) := by decide +kernel
theorem dX6_undo_32 : decode cX6_undo 32 = .ok (.istore_n 1, 1) := by decide +kernel
theorem dX6_undo_33 : decode cX6_undo 33 = .ok (.iload_n 1, 1) := by decide +kernel
theorem dX6_undo_34 : decode cX6_undo 34 = .ok (.sipush 372, 3) := by decide +kernel
theorem dX6_undo_37 : decode cX6_undo 37 = .ok (.if_icmp .ge 30, 3) := by decide +kernel
theorem dX6_undo_40 : decode cX6_undo 40 = .ok (.aload_n 0, 1) := by decide +kernel
theorem dX6_undo_41 : decode cX6_undo 41 = .ok (.getfield 7, 3) := by decide +kernel
theorem dX6_undo_44 : decode cX6_undo 44 = .ok (.iload_n 1, 1) := by decide +kernel
theorem dX6_undo_45 : decode cX6_undo 45 = .ok (.aload_n 0, 1) := by decide +kernel
theorem dX6_undo_46 : decode cX6_undo 46 = .ok (.getfield 13, 3) := by decide +kernel
theorem dX6_undo_49 : decode cX6_undo 49 = .ok (.sipush 372, 3) := by decide +kernel
theorem dX6_undo_52 : decode cX6_undo 52 = .ok (.aload_n 0, 1) := by decide +kernel
theorem dX6_undo_53 : decode cX6_undo 53 = .ok (.getfield 41, 3) := by decide +kernel
theorem dX6_undo_56 : decode cX6_undo 56 = .ok (.imul, 1) := by decide +kernel
theorem dX6_undo_57 : decode cX6_undo 57 = .ok (.iload_n 1, 1) := by decide +kernel
theorem dX6_undo_58 : decode cX6_undo 58 = .ok (.iadd, 1) := by decide +kernel
theorem dX6_undo_59 : decode cX6_undo 59 = .ok (.iaload, 1) := by decide +kernel
theorem dX6_undo_60 : decode cX6_undo 60 = .ok (.iastore, 1) := by decide +kernel
theorem dX6_undo_61 : decode cX6_undo 61 = .ok (.iinc 1 1, 3) := by decide +kernel
theorem dX6_undo_64 : decode cX6_undo 64 = .ok (.goto (-31), 3) := by decide +kernel
theorem dX6_undo_67 : decode cX6_undo 67 = .ok (.aload_n 0, 1) := by decide +kernel
theorem dX6_undo_68 : decode cX6_undo 68 = .ok (.getfield 41, 3) := by decide +kernel
theorem dX6_undo_71 : decode cX6_undo 71 = .ok (.ireturn, 1) := by decide +kernel
theorem dX6_tileOf_0 : decode cX6_tileOf 0 = .ok (.aload_n 0, 1) := by decide +kernel
theorem dX6_tileOf_1 : decode cX6_tileOf 1 = .ok (.iload_n 1, 1) := by decide +kernel
theorem dX6_tileOf_2 : decode cX6_tileOf 2 = .ok (.iconst 0, 1) := by decide +kernel
theorem dX6_tileOf_3 : decode cX6_tileOf 3 = .ok (.bipush 27, 2) := by decide +kernel
theorem dX6_tileOf_5 : decode cX6_tileOf 5 = .ok (.invokestatic 37, 3) := by decide +kernel
theorem dX6_tileOf_8 : decode cX6_tileOf 8 = .ok (.ifCond .ne 7, 3) := by decide +kernel
theorem dX6_tileOf_11 : decode cX6_tileOf 11 = .ok (.iconst 1, 1) := by decide +kernel
theorem dX6_tileOf_12 : decode cX6_tileOf 12 = .ok (.goto 18, 3) := by decide +kernel
theorem dX6_tileOf_15 : decode cX6_tileOf 15 = .ok (.iload_n 2, 1) := by decide +kernel
theorem dX6_tileOf_16 : decode cX6_tileOf 16 = .ok (.iconst 0, 1) := by decide +kernel
theorem dX6_tileOf_17 : decode cX6_tileOf 17 = .ok (.bipush 6, 2) := by decide +kernel
theorem dX6_tileOf_19 : decode cX6_tileOf 19 = .ok (.invokestatic 37, 3) := by decide +kernel
theorem dX6_tileOf_22 : decode cX6_tileOf 22 = .ok (.ifCond .eq 7, 3) := by decide +kernel
theorem dX6_tileOf_25 : decode cX6_tileOf 25 = .ok (.iconst 0, 1) := by decide +kernel
theorem dX6_tileOf_26 : decode cX6_tileOf 26 = .ok (.goto 4, 3) := by decide +kernel
theorem dX6_tileOf_29 : decode cX6_tileOf 29 = .ok (.iconst 2, 1) := by decide +kernel
theorem dX6_tileOf_30 : decode cX6_tileOf 30 = .ok (.invokevirtual 65, 3) := by decide +kernel
theorem dX6_tileOf_33 : decode cX6_tileOf 33 = .ok (.ifCond .eq 16, 3) := by decide +kernel
theorem dX6_tileOf_36 : decode cX6_tileOf 36 = .ok (.aload_n 0, 1) := by decide +kernel
theorem dX6_tileOf_37 : decode cX6_tileOf 37 = .ok (.getfield 7, 3) := by decide +kernel
theorem dX6_tileOf_40 : decode cX6_tileOf 40 = .ok (.iload_n 1, 1) := by decide +kernel
theorem dX6_tileOf_41 : decode cX6_tileOf 41 = .ok (.iload_n 2, 1) := by decide +kernel
theorem dX6_tileOf_42 : decode cX6_tileOf 42 = .ok (.invokestatic 44, 3) := by decide +kernel
theorem dX6_tileOf_45 : decode cX6_tileOf 45 = .ok (.iaload, 1) := by decide +kernel
theorem dX6_tileOf_46 : decode cX6_tileOf 46 = .ok (.goto 4, 3) := by decide +kernel
theorem dX6_tileOf_49 : decode cX6_tileOf 49 = .ok (.iconst 0, 1) := by decide +kernel
theorem dX6_tileOf_50 : decode cX6_tileOf 50 = .ok (.ireturn, 1) := by decide +kernel
theorem dX6_hand_0 : decode cX6_hand 0 = .ok (.aload_n 0, 1) := by decide +kernel
theorem dX6_hand_1 : decode cX6_hand 1 = .ok (.aload_n 0, 1) := by decide +kernel
theorem dX6_hand_2 : decode cX6_hand 2 = .ok (.iload_n 1, 1) := by decide +kernel
theorem dX6_hand_3 : decode cX6_hand 3 = .ok (.invokevirtual 152, 3) := by decide +kernel
theorem dX6_hand_6 : decode cX6_hand 6 = .ok (.ifCond .ne 7, 3) := by decide +kernel
theorem dX6_hand_9 : decode cX6_hand 9 = .ok (.iconst 1, 1) := by decide +kernel
theorem dX6_hand_10 : decode cX6_hand 10 = .ok (.goto 12, 3) := by decide +kernel
theorem dX6_hand_13 : decode cX6_hand 13 = .ok (.iload_n 2, 1) := by decide +kernel
theorem dX6_hand_14 : decode cX6_hand 14 = .ok (.ifCond .ge 7, 3) := by decide +kernel
theorem dX6_hand_17 : decode cX6_hand 17 = .ok (.iconst 2, 1) := by decide +kernel
theorem dX6_hand_18 : decode cX6_hand 18 = .ok (.goto 4, 3) := by decide +kernel
theorem dX6_hand_21 : decode cX6_hand 21 = .ok (.iconst 0, 1) := by decide +kernel
theorem dX6_hand_22 : decode cX6_hand 22 = .ok (.invokevirtual 65, 3) := by decide +kernel
theorem dX6_hand_25 : decode cX6_hand 25 = .ok (.ifCond .ne 5, 3) := by decide +kernel
theorem dX6_hand_28 : decode cX6_hand 28 = .ok (.iconst 0, 1) := by decide +kernel
theorem dX6_hand_29 : decode cX6_hand 29 = .ok (.ireturn, 1) := by decide +kernel
theorem dX6_hand_30 : decode cX6_hand 30 = .ok (.iload_n 2, 1) := by decide +kernel
theorem dX6_hand_31 : decode cX6_hand 31 = .ok (.aload_n 0, 1) := by decide +kernel
theorem dX6_hand_32 : decode cX6_hand 32 = .ok (.getfield 7, 3) := by decide +kernel
theorem dX6_hand_35 : decode cX6_hand 35 = .ok (.sipush 337, 3) := by decide +kernel
theorem dX6_hand_38 : decode cX6_hand 38 = .ok (.iload_n 1, 1) := by decide +kernel
theorem dX6_hand_39 : decode cX6_hand 39 = .ok (.iadd, 1) := by decide +kernel
theorem dX6_hand_40 : decode cX6_hand 40 = .ok (.iaload, 1) := by decide +kernel
theorem dX6_hand_41 : decode cX6_hand 41 = .ok (.if_icmp .ge 16, 3) := by decide +kernel
theorem dX6_hand_44 : decode cX6_hand 44 = .ok (.aload_n 0, 1) := by decide +kernel
theorem dX6_hand_45 : decode cX6_hand 45 = .ok (.getfield 7, 3) := by decide +kernel
theorem dX6_hand_48 : decode cX6_hand 48 = .ok (.iload_n 1, 1) := by decide +kernel
theorem dX6_hand_49 : decode cX6_hand 49 = .ok (.iload_n 2, 1) := by decide +kernel
theorem dX6_hand_50 : decode cX6_hand 50 = .ok (.invokestatic 48, 3) := by decide +kernel
theorem dX6_hand_53 : decode cX6_hand 53 = .ok (.iaload, 1) := by decide +kernel
theorem dX6_hand_54 : decode cX6_hand 54 = .ok (.goto 4, 3) := by decide +kernel
theorem dX6_hand_57 : decode cX6_hand 57 = .ok (.iconst (-1), 1) := by decide +kernel
theorem dX6_hand_58 : decode cX6_hand 58 = .ok (.ireturn, 1) := by decide +kernel
theorem dX6_stock_0 : decode cX6_stock 0 = .ok (.aload_n 0, 1) := by decide +kernel
theorem dX6_stock_1 : decode cX6_stock 1 = .ok (.iload_n 1, 1) := by decide +kernel
theorem dX6_stock_2 : decode cX6_stock 2 = .ok (.ifCond .ge 7, 3) := by decide +kernel
theorem dX6_stock_5 : decode cX6_stock 5 = .ok (.iconst 1, 1) := by decide +kernel
theorem dX6_stock_6 : decode cX6_stock 6 = .ok (.goto 4, 3) := by decide +kernel
theorem dX6_stock_9 : decode cX6_stock 9 = .ok (.iconst 0, 1) := by decide +kernel
theorem dX6_stock_10 : decode cX6_stock 10 = .ok (.invokevirtual 65, 3) := by decide +kernel
theorem dX6_stock_13 : decode cX6_stock 13 = .ok (.ifCond .ne 5, 3) := by decide +kernel
theorem dX6_stock_16 : decode cX6_stock 16 = .ok (.iconst 0, 1) := by decide +kernel
theorem dX6_stock_17 : decode cX6_stock 17 = .ok (.ireturn, 1) := by decide +kernel
theorem dX6_stock_18 : decode cX6_stock 18 = .ok (.iload_n 1, 1) := by decide +kernel
theorem dX6_stock_19 : decode cX6_stock 19 = .ok (.aload_n 0, 1) := by decide +kernel
theorem dX6_stock_20 : decode cX6_stock 20 = .ok (.invokevirtual 72, 3) := by decide +kernel
theorem dX6_stock_23 : decode cX6_stock 23 = .ok (.if_icmp .ge 25, 3) := by decide +kernel
theorem dX6_stock_26 : decode cX6_stock 26 = .ok (.aload_n 0, 1) := by decide +kernel
theorem dX6_stock_27 : decode cX6_stock 27 = .ok (.getfield 7, 3) := by decide +kernel
theorem dX6_stock_30 : decode cX6_stock 30 = .ok (.sipush 196, 3) := by decide +kernel
theorem dX6_stock_33 : decode cX6_stock 33 = .ok (.aload_n 0, 1) := by decide +kernel
theorem dX6_stock_34 : decode cX6_stock 34 = .ok (.getfield 7, 3) := by decide +kernel
theorem dX6_stock_37 : decode cX6_stock 37 = .ok (.sipush 224, 3) := by decide +kernel
theorem dX6_stock_40 : decode cX6_stock 40 = .ok (.iaload, 1) := by decide +kernel
theorem dX6_stock_41 : decode cX6_stock 41 = .ok (.iadd, 1) := by decide +kernel
theorem dX6_stock_42 : decode cX6_stock 42 = .ok (.iload_n 1, 1) := by decide +kernel
theorem dX6_stock_43 : decode cX6_stock 43 = .ok (.iadd, 1) := by decide +kernel
theorem dX6_stock_44 : decode cX6_stock 44 = .ok (.iaload, 1) := by decide +kernel
theorem dX6_stock_45 : decode cX6_stock 45 = .ok (.goto 4, 3) := by decide +kernel
theorem dX6_stock_48 : decode cX6_stock 48 = .ok (.iconst (-1), 1) := by decide +kernel
theorem dX6_stock_49 : decode cX6_stock 49 = .ok (.ireturn, 1) := by decide +kernel
theorem dX6_gradesOf_0 : decode cX6_gradesOf 0 = .ok (.iconst 0, 1) := by decide +kernel
theorem dX6_gradesOf_1 : decode cX6_gradesOf 1 = .ok (.istore_n 2, 1) := by decide +kernel
theorem dX6_gradesOf_2 : decode cX6_gradesOf 2 = .ok (.iconst 0, 1) := by decide +kernel
theorem dX6_gradesOf_3 : decode cX6_gradesOf 3 = .ok (.istore_n 3, 1) := by decide +kernel
theorem dX6_gradesOf_4 : decode cX6_gradesOf 4 = .ok (.iload_n 3, 1) := by decide +kernel
theorem dX6_gradesOf_5 : decode cX6_gradesOf 5 = .ok (.aload_n 0, 1) := by decide +kernel
theorem dX6_gradesOf_6 : decode cX6_gradesOf 6 = .ok (.getfield 7, 3) := by decide +kernel
theorem dX6_gradesOf_9 : decode cX6_gradesOf 9 = .ok (.sipush 337, 3) := by decide +kernel
theorem dX6_gradesOf_12 : decode cX6_gradesOf 12 = .ok (.iload_n 1, 1) := by decide +kernel
theorem dX6_gradesOf_13 : decode cX6_gradesOf 13 = .ok (.iadd, 1) := by decide +kernel
theorem dX6_gradesOf_14 : decode cX6_gradesOf 14 = .ok (.iaload, 1) := by decide +kernel
theorem dX6_gradesOf_15 : decode cX6_gradesOf 15 = .ok (.if_icmp .ge 47, 3) := by decide +kernel
theorem dX6_gradesOf_18 : decode cX6_gradesOf 18 = .ok (.aload_n 0, 1) := by decide +kernel
theorem dX6_gradesOf_19 : decode cX6_gradesOf 19 = .ok (.getfield 7, 3) := by decide +kernel
theorem dX6_gradesOf_22 : decode cX6_gradesOf 22 = .ok (.iload_n 1, 1) := by decide +kernel
theorem dX6_gradesOf_23 : decode cX6_gradesOf 23 = .ok (.iload_n 3, 1) := by decide +kernel
theorem dX6_gradesOf_24 : decode cX6_gradesOf 24 = .ok (.invokestatic 48, 3) := by decide +kernel
theorem dX6_gradesOf_27 : decode cX6_gradesOf 27 = .ok (.iaload, 1) := by decide +kernel
theorem dX6_gradesOf_28 : decode cX6_gradesOf 28 = .ok (.istore 4, 2) := by decide +kernel
theorem dX6_gradesOf_30 : decode cX6_gradesOf 30 = .ok (.iload_n 2, 1) := by decide +kernel
theorem dX6_gradesOf_31 : decode cX6_gradesOf 31 = .ok (.aload_n 0, 1) := by decide +kernel
theorem dX6_gradesOf_32 : decode cX6_gradesOf 32 = .ok (.getfield 7, 3) := by decide +kernel
theorem dX6_gradesOf_35 : decode cX6_gradesOf 35 = .ok (.iload 4, 2) := by decide +kernel
theorem dX6_gradesOf_37 : decode cX6_gradesOf 37 = .ok (.iconst 0, 1) := by decide +kernel
theorem dX6_gradesOf_38 : decode cX6_gradesOf 38 = .ok (.invokestatic 44, 3) := by decide +kernel
theorem dX6_gradesOf_41 : decode cX6_gradesOf 41 = .ok (.iaload, 1) := by decide +kernel
theorem dX6_gradesOf_42 : decode cX6_gradesOf 42 = .ok (.aload_n 0, 1) := by decide +kernel
theorem dX6_gradesOf_43 : decode cX6_gradesOf 43 = .ok (.getfield 7, 3) := by decide +kernel
theorem dX6_gradesOf_46 : decode cX6_gradesOf 46 = .ok (.iload 4, 2) := by decide +kernel
theorem dX6_gradesOf_48 : decode cX6_gradesOf 48 = .ok (.iconst 1, 1) := by decide +kernel
theorem dX6_gradesOf_49 : decode cX6_gradesOf 49 = .ok (.invokestatic 44, 3) := by decide +kernel
theorem dX6_gradesOf_52 : decode cX6_gradesOf 52 = .ok (.iaload, 1) := by decide +kernel
theorem dX6_gradesOf_53 : decode cX6_gradesOf 53 = .ok (.iadd, 1) := by decide +kernel
theorem dX6_gradesOf_54 : decode cX6_gradesOf 54 = .ok (.iadd, 1) := by decide +kernel
theorem dX6_gradesOf_55 : decode cX6_gradesOf 55 = .ok (.istore_n 2, 1) := by decide +kernel
theorem dX6_gradesOf_56 : decode cX6_gradesOf 56 = .ok (.iinc 3 1, 3) := by decide +kernel
theorem dX6_gradesOf_59 : decode cX6_gradesOf 59 = .ok (.goto (-55), 3) := by decide +kernel
theorem dX6_gradesOf_62 : decode cX6_gradesOf 62 = .ok (.iload_n 2, 1) := by decide +kernel
theorem dX6_gradesOf_63 : decode cX6_gradesOf 63 = .ok (.ireturn, 1) := by decide +kernel
theorem dX6_canLay_0 : decode cX6_canLay 0 = .ok (.iconst 0, 1) := by decide +kernel
theorem dX6_canLay_1 : decode cX6_canLay 1 = .ok (.istore 4, 2) := by decide +kernel
theorem dX6_canLay_3 : decode cX6_canLay 3 = .ok (.iconst 0, 1) := by decide +kernel
theorem dX6_canLay_4 : decode cX6_canLay 4 = .ok (.istore 5, 2) := by decide +kernel
theorem dX6_canLay_6 : decode cX6_canLay 6 = .ok (.iload 5, 2) := by decide +kernel
theorem dX6_canLay_8 : decode cX6_canLay 8 = .ok (.aload_n 0, 1) := by decide +kernel
theorem dX6_canLay_9 : decode cX6_canLay 9 = .ok (.getfield 7, 3) := by decide +kernel
theorem dX6_canLay_12 : decode cX6_canLay 12 = .ok (.sipush 337, 3) := by decide +kernel
theorem dX6_canLay_15 : decode cX6_canLay 15 = .ok (.iload_n 1, 1) := by decide +kernel
theorem dX6_canLay_16 : decode cX6_canLay 16 = .ok (.iadd, 1) := by decide +kernel
theorem dX6_canLay_17 : decode cX6_canLay 17 = .ok (.iaload, 1) := by decide +kernel
theorem dX6_canLay_18 : decode cX6_canLay 18 = .ok (.if_icmp .ge 41, 3) := by decide +kernel
theorem dX6_canLay_21 : decode cX6_canLay 21 = .ok (.iload 4, 2) := by decide +kernel
theorem dX6_canLay_23 : decode cX6_canLay 23 = .ok (.ifCond .ne 23, 3) := by decide +kernel
theorem dX6_canLay_26 : decode cX6_canLay 26 = .ok (.aload_n 0, 1) := by decide +kernel
theorem dX6_canLay_27 : decode cX6_canLay 27 = .ok (.aload_n 0, 1) := by decide +kernel
theorem dX6_canLay_28 : decode cX6_canLay 28 = .ok (.getfield 7, 3) := by decide +kernel
theorem dX6_canLay_31 : decode cX6_canLay 31 = .ok (.iload_n 1, 1) := by decide +kernel
theorem dX6_canLay_32 : decode cX6_canLay 32 = .ok (.iload 5, 2) := by decide +kernel
theorem dX6_canLay_34 : decode cX6_canLay 34 = .ok (.invokestatic 48, 3) := by decide +kernel
theorem dX6_canLay_37 : decode cX6_canLay 37 = .ok (.iaload, 1) := by decide +kernel
theorem dX6_canLay_38 : decode cX6_canLay 38 = .ok (.iload_n 2, 1) := by decide +kernel
theorem dX6_canLay_39 : decode cX6_canLay 39 = .ok (.iload_n 3, 1) := by decide +kernel
theorem dX6_canLay_40 : decode cX6_canLay 40 = .ok (.invokevirtual 76, 3) := by decide +kernel
theorem dX6_canLay_43 : decode cX6_canLay 43 = .ok (.ifCond .eq 7, 3) := by decide +kernel
theorem dX6_canLay_46 : decode cX6_canLay 46 = .ok (.iconst 1, 1) := by decide +kernel
theorem dX6_canLay_47 : decode cX6_canLay 47 = .ok (.goto 4, 3) := by decide +kernel
theorem dX6_canLay_50 : decode cX6_canLay 50 = .ok (.iconst 0, 1) := by decide +kernel
theorem dX6_canLay_51 : decode cX6_canLay 51 = .ok (.istore 4, 2) := by decide +kernel
theorem dX6_canLay_53 : decode cX6_canLay 53 = .ok (.iinc 5 1, 3) := by decide +kernel
theorem dX6_canLay_56 : decode cX6_canLay 56 = .ok (.goto (-50), 3) := by decide +kernel
theorem dX6_canLay_59 : decode cX6_canLay 59 = .ok (.iload 4, 2) := by decide +kernel
theorem dX6_canLay_61 : decode cX6_canLay 61 = .ok (.ireturn, 1) := by decide +kernel
theorem dX6_endsFor_0 : decode cX6_endsFor 0 = .ok (.iconst 0, 1) := by decide +kernel
theorem dX6_endsFor_1 : decode cX6_endsFor 1 = .ok (.istore_n 2, 1) := by decide +kernel
theorem dX6_endsFor_2 : decode cX6_endsFor 2 = .ok (.iconst 0, 1) := by decide +kernel
theorem dX6_endsFor_3 : decode cX6_endsFor 3 = .ok (.istore_n 3, 1) := by decide +kernel
theorem dX6_endsFor_4 : decode cX6_endsFor 4 = .ok (.iload_n 3, 1) := by decide +kernel
theorem dX6_endsFor_5 : decode cX6_endsFor 5 = .ok (.iconst 3, 1) := by decide +kernel
theorem dX6_endsFor_6 : decode cX6_endsFor 6 = .ok (.if_icmp .ge 58, 3) := by decide +kernel
theorem dX6_endsFor_9 : decode cX6_endsFor 9 = .ok (.iload_n 2, 1) := by decide +kernel
theorem dX6_endsFor_10 : decode cX6_endsFor 10 = .ok (.aload_n 0, 1) := by decide +kernel
theorem dX6_endsFor_11 : decode cX6_endsFor 11 = .ok (.iload_n 1, 1) := by decide +kernel
theorem dX6_endsFor_12 : decode cX6_endsFor 12 = .ok (.iload_n 3, 1) := by decide +kernel
theorem dX6_endsFor_13 : decode cX6_endsFor 13 = .ok (.iconst 0, 1) := by decide +kernel
theorem dX6_endsFor_14 : decode cX6_endsFor 14 = .ok (.invokevirtual 155, 3) := by decide +kernel
theorem dX6_endsFor_17 : decode cX6_endsFor 17 = .ok (.ifCond .eq 7, 3) := by decide +kernel
theorem dX6_endsFor_20 : decode cX6_endsFor 20 = .ok (.iconst 1, 1) := by decide +kernel
theorem dX6_endsFor_21 : decode cX6_endsFor 21 = .ok (.goto 4, 3) := by decide +kernel
theorem dX6_endsFor_24 : decode cX6_endsFor 24 = .ok (.iconst 0, 1) := by decide +kernel
theorem dX6_endsFor_25 : decode cX6_endsFor 25 = .ok (.iadd, 1) := by decide +kernel
theorem dX6_endsFor_26 : decode cX6_endsFor 26 = .ok (.istore_n 2, 1) := by decide +kernel
theorem dX6_endsFor_27 : decode cX6_endsFor 27 = .ok (.iload_n 2, 1) := by decide +kernel
theorem dX6_endsFor_28 : decode cX6_endsFor 28 = .ok (.aload_n 0, 1) := by decide +kernel
theorem dX6_endsFor_29 : decode cX6_endsFor 29 = .ok (.getfield 7, 3) := by decide +kernel
theorem dX6_endsFor_32 : decode cX6_endsFor 32 = .ok (.iload_n 3, 1) := by decide +kernel
theorem dX6_endsFor_33 : decode cX6_endsFor 33 = .ok (.iconst 0, 1) := by decide +kernel
theorem dX6_endsFor_34 : decode cX6_endsFor 34 = .ok (.invokestatic 62, 3) := by decide +kernel
theorem dX6_endsFor_37 : decode cX6_endsFor 37 = .ok (.iaload, 1) := by decide +kernel
theorem dX6_endsFor_38 : decode cX6_endsFor 38 = .ok (.ifCond .le 17, 3) := by decide +kernel
theorem dX6_endsFor_41 : decode cX6_endsFor 41 = .ok (.aload_n 0, 1) := by decide +kernel
theorem dX6_endsFor_42 : decode cX6_endsFor 42 = .ok (.iload_n 1, 1) := by decide +kernel
theorem dX6_endsFor_43 : decode cX6_endsFor 43 = .ok (.iload_n 3, 1) := by decide +kernel
theorem dX6_endsFor_44 : decode cX6_endsFor 44 = .ok (.iconst 1, 1) := by decide +kernel
theorem dX6_endsFor_45 : decode cX6_endsFor 45 = .ok (.invokevirtual 155, 3) := by decide +kernel
theorem dX6_endsFor_48 : decode cX6_endsFor 48 = .ok (.ifCond .eq 7, 3) := by decide +kernel
theorem dX6_endsFor_51 : decode cX6_endsFor 51 = .ok (.iconst 1, 1) := by decide +kernel
theorem dX6_endsFor_52 : decode cX6_endsFor 52 = .ok (.goto 4, 3) := by decide +kernel
theorem dX6_endsFor_55 : decode cX6_endsFor 55 = .ok (.iconst 0, 1) := by decide +kernel
theorem dX6_endsFor_56 : decode cX6_endsFor 56 = .ok (.iadd, 1) := by decide +kernel
theorem dX6_endsFor_57 : decode cX6_endsFor 57 = .ok (.istore_n 2, 1) := by decide +kernel
theorem dX6_endsFor_58 : decode cX6_endsFor 58 = .ok (.iinc 3 1, 3) := by decide +kernel
theorem dX6_endsFor_61 : decode cX6_endsFor 61 = .ok (.goto (-57), 3) := by decide +kernel
theorem dX6_endsFor_64 : decode cX6_endsFor 64 = .ok (.iload_n 2, 1) := by decide +kernel
theorem dX6_endsFor_65 : decode cX6_endsFor 65 = .ok (.ireturn, 1) := by decide +kernel
theorem dX6_ofPlayer_0 : decode cX6_ofPlayer 0 = .ok (.iload_n 2, 1) := by decide +kernel
theorem dX6_ofPlayer_1 : decode cX6_ofPlayer 1 = .ok (.tableswitch 106 0 5 #[39, 50, 56, 67, 84, 95], 39) := by decide +kernel
theorem dX6_ofPlayer_40 : decode cX6_ofPlayer 40 = .ok (.aload_n 0, 1) := by decide +kernel
theorem dX6_ofPlayer_41 : decode cX6_ofPlayer 41 = .ok (.getfield 7, 3) := by decide +kernel
theorem dX6_ofPlayer_44 : decode cX6_ofPlayer 44 = .ok (.sipush 337, 3) := by decide +kernel
theorem dX6_ofPlayer_47 : decode cX6_ofPlayer 47 = .ok (.iload_n 1, 1) := by decide +kernel
theorem dX6_ofPlayer_48 : decode cX6_ofPlayer 48 = .ok (.iadd, 1) := by decide +kernel
theorem dX6_ofPlayer_49 : decode cX6_ofPlayer 49 = .ok (.iaload, 1) := by decide +kernel
theorem dX6_ofPlayer_50 : decode cX6_ofPlayer 50 = .ok (.ireturn, 1) := by decide +kernel
theorem dX6_ofPlayer_51 : decode cX6_ofPlayer 51 = .ok (.aload_n 0, 1) := by decide +kernel
theorem dX6_ofPlayer_52 : decode cX6_ofPlayer 52 = .ok (.iload_n 1, 1) := by decide +kernel
theorem dX6_ofPlayer_53 : decode cX6_ofPlayer 53 = .ok (.invokevirtual 158, 3) := by decide +kernel
theorem dX6_ofPlayer_56 : decode cX6_ofPlayer 56 = .ok (.ireturn, 1) := by decide +kernel
theorem dX6_ofPlayer_57 : decode cX6_ofPlayer 57 = .ok (.aload_n 0, 1) := by decide +kernel
theorem dX6_ofPlayer_58 : decode cX6_ofPlayer 58 = .ok (.getfield 7, 3) := by decide +kernel
theorem dX6_ofPlayer_61 : decode cX6_ofPlayer 61 = .ok (.sipush 346, 3) := by decide +kernel
theorem dX6_ofPlayer_64 : decode cX6_ofPlayer 64 = .ok (.iload_n 1, 1) := by decide +kernel
theorem dX6_ofPlayer_65 : decode cX6_ofPlayer 65 = .ok (.iadd, 1) := by decide +kernel
theorem dX6_ofPlayer_66 : decode cX6_ofPlayer 66 = .ok (.iaload, 1) := by decide +kernel
theorem dX6_ofPlayer_67 : decode cX6_ofPlayer 67 = .ok (.ireturn, 1) := by decide +kernel
theorem dX6_ofPlayer_68 : decode cX6_ofPlayer 68 = .ok (.aload_n 0, 1) := by decide +kernel
theorem dX6_ofPlayer_69 : decode cX6_ofPlayer 69 = .ok (.iload_n 1, 1) := by decide +kernel
theorem dX6_ofPlayer_70 : decode cX6_ofPlayer 70 = .ok (.invokevirtual 158, 3) := by decide +kernel
theorem dX6_ofPlayer_73 : decode cX6_ofPlayer 73 = .ok (.aload_n 0, 1) := by decide +kernel
theorem dX6_ofPlayer_74 : decode cX6_ofPlayer 74 = .ok (.getfield 7, 3) := by decide +kernel
theorem dX6_ofPlayer_77 : decode cX6_ofPlayer 77 = .ok (.sipush 346, 3) := by decide +kernel
theorem dX6_ofPlayer_80 : decode cX6_ofPlayer 80 = .ok (.iload_n 1, 1) := by decide +kernel
theorem dX6_ofPlayer_81 : decode cX6_ofPlayer 81 = .ok (.iadd, 1) := by decide +kernel
theorem dX6_ofPlayer_82 : decode cX6_ofPlayer 82 = .ok (.iaload, 1) := by decide +kernel
theorem dX6_ofPlayer_83 : decode cX6_ofPlayer 83 = .ok (.iadd, 1) := by decide +kernel
theorem dX6_ofPlayer_84 : decode cX6_ofPlayer 84 = .ok (.ireturn, 1) := by decide +kernel
theorem dX6_ofPlayer_85 : decode cX6_ofPlayer 85 = .ok (.aload_n 0, 1) := by decide +kernel
theorem dX6_ofPlayer_86 : decode cX6_ofPlayer 86 = .ok (.getfield 7, 3) := by decide +kernel
theorem dX6_ofPlayer_89 : decode cX6_ofPlayer 89 = .ok (.sipush 350, 3) := by decide +kernel
theorem dX6_ofPlayer_92 : decode cX6_ofPlayer 92 = .ok (.iload_n 1, 1) := by decide +kernel
theorem dX6_ofPlayer_93 : decode cX6_ofPlayer 93 = .ok (.iadd, 1) := by decide +kernel
theorem dX6_ofPlayer_94 : decode cX6_ofPlayer 94 = .ok (.iaload, 1) := by decide +kernel
theorem dX6_ofPlayer_95 : decode cX6_ofPlayer 95 = .ok (.ireturn, 1) := by decide +kernel
theorem dX6_ofPlayer_96 : decode cX6_ofPlayer 96 = .ok (.aload_n 0, 1) := by decide +kernel
theorem dX6_ofPlayer_97 : decode cX6_ofPlayer 97 = .ok (.getfield 7, 3) := by decide +kernel
theorem dX6_ofPlayer_100 : decode cX6_ofPlayer 100 = .ok (.sipush 354, 3) := by decide +kernel
theorem dX6_ofPlayer_103 : decode cX6_ofPlayer 103 = .ok (.iload_n 1, 1) := by decide +kernel
theorem dX6_ofPlayer_104 : decode cX6_ofPlayer 104 = .ok (.iadd, 1) := by decide +kernel
theorem dX6_ofPlayer_105 : decode cX6_ofPlayer 105 = .ok (.iaload, 1) := by decide +kernel
theorem dX6_ofPlayer_106 : decode cX6_ofPlayer 106 = .ok (.ireturn, 1) := by decide +kernel
theorem dX6_ofPlayer_107 : decode cX6_ofPlayer 107 = .ok (.aload_n 0, 1) := by decide +kernel
theorem dX6_ofPlayer_108 : decode cX6_ofPlayer 108 = .ok (.iload_n 1, 1) := by decide +kernel
theorem dX6_ofPlayer_109 : decode cX6_ofPlayer 109 = .ok (.invokevirtual 161, 3) := by decide +kernel
theorem dX6_ofPlayer_112 : decode cX6_ofPlayer 112 = .ok (.ireturn, 1) := by decide +kernel
theorem dX6_playerOf_0 : decode cX6_playerOf 0 = .ok (.aload_n 0, 1) := by decide +kernel
theorem dX6_playerOf_1 : decode cX6_playerOf 1 = .ok (.aload_n 0, 1) := by decide +kernel
theorem dX6_playerOf_2 : decode cX6_playerOf 2 = .ok (.iload_n 1, 1) := by decide +kernel
theorem dX6_playerOf_3 : decode cX6_playerOf 3 = .ok (.invokevirtual 152, 3) := by decide +kernel
theorem dX6_playerOf_6 : decode cX6_playerOf 6 = .ok (.ifCond .ne 7, 3) := by decide +kernel
theorem dX6_playerOf_9 : decode cX6_playerOf 9 = .ok (.iconst 1, 1) := by decide +kernel
theorem dX6_playerOf_10 : decode cX6_playerOf 10 = .ok (.goto 18, 3) := by decide +kernel
theorem dX6_playerOf_13 : decode cX6_playerOf 13 = .ok (.iload_n 2, 1) := by decide +kernel
theorem dX6_playerOf_14 : decode cX6_playerOf 14 = .ok (.iconst 0, 1) := by decide +kernel
theorem dX6_playerOf_15 : decode cX6_playerOf 15 = .ok (.bipush 6, 2) := by decide +kernel
theorem dX6_playerOf_17 : decode cX6_playerOf 17 = .ok (.invokestatic 37, 3) := by decide +kernel
theorem dX6_playerOf_20 : decode cX6_playerOf 20 = .ok (.ifCond .eq 7, 3) := by decide +kernel
theorem dX6_playerOf_23 : decode cX6_playerOf 23 = .ok (.iconst 0, 1) := by decide +kernel
theorem dX6_playerOf_24 : decode cX6_playerOf 24 = .ok (.goto 4, 3) := by decide +kernel
theorem dX6_playerOf_27 : decode cX6_playerOf 27 = .ok (.iconst 2, 1) := by decide +kernel
theorem dX6_playerOf_28 : decode cX6_playerOf 28 = .ok (.invokevirtual 65, 3) := by decide +kernel
theorem dX6_playerOf_31 : decode cX6_playerOf 31 = .ok (.ifCond .eq 12, 3) := by decide +kernel
theorem dX6_playerOf_34 : decode cX6_playerOf 34 = .ok (.aload_n 0, 1) := by decide +kernel
theorem dX6_playerOf_35 : decode cX6_playerOf 35 = .ok (.iload_n 1, 1) := by decide +kernel
theorem dX6_playerOf_36 : decode cX6_playerOf 36 = .ok (.iload_n 2, 1) := by decide +kernel
theorem dX6_playerOf_37 : decode cX6_playerOf 37 = .ok (.invokevirtual 164, 3) := by decide +kernel
theorem dX6_playerOf_40 : decode cX6_playerOf 40 = .ok (.goto 4, 3) := by decide +kernel
theorem dX6_playerOf_43 : decode cX6_playerOf 43 = .ok (.iconst 0, 1) := by decide +kernel
theorem dX6_playerOf_44 : decode cX6_playerOf 44 = .ok (.ireturn, 1) := by decide +kernel
theorem dX6_rowOf_0 : decode cX6_rowOf 0 = .ok (.aload_n 0, 1) := by decide +kernel
theorem dX6_rowOf_1 : decode cX6_rowOf 1 = .ok (.iload_n 1, 1) := by decide +kernel
theorem dX6_rowOf_2 : decode cX6_rowOf 2 = .ok (.invokestatic 97, 3) := by decide +kernel
theorem dX6_rowOf_5 : decode cX6_rowOf 5 = .ok (.ifCond .ne 7, 3) := by decide +kernel
theorem dX6_rowOf_8 : decode cX6_rowOf 8 = .ok (.iconst 1, 1) := by decide +kernel
theorem dX6_rowOf_9 : decode cX6_rowOf 9 = .ok (.goto 17, 3) := by decide +kernel
theorem dX6_rowOf_12 : decode cX6_rowOf 12 = .ok (.iload_n 2, 1) := by decide +kernel
theorem dX6_rowOf_13 : decode cX6_rowOf 13 = .ok (.iconst 0, 1) := by decide +kernel
theorem dX6_rowOf_14 : decode cX6_rowOf 14 = .ok (.iconst 3, 1) := by decide +kernel
theorem dX6_rowOf_15 : decode cX6_rowOf 15 = .ok (.invokestatic 37, 3) := by decide +kernel
theorem dX6_rowOf_18 : decode cX6_rowOf 18 = .ok (.ifCond .eq 7, 3) := by decide +kernel
theorem dX6_rowOf_21 : decode cX6_rowOf 21 = .ok (.iconst 0, 1) := by decide +kernel
theorem dX6_rowOf_22 : decode cX6_rowOf 22 = .ok (.goto 4, 3) := by decide +kernel
theorem dX6_rowOf_25 : decode cX6_rowOf 25 = .ok (.iconst 2, 1) := by decide +kernel
theorem dX6_rowOf_26 : decode cX6_rowOf 26 = .ok (.invokevirtual 65, 3) := by decide +kernel
theorem dX6_rowOf_29 : decode cX6_rowOf 29 = .ok (.ifCond .eq 16, 3) := by decide +kernel
theorem dX6_rowOf_32 : decode cX6_rowOf 32 = .ok (.aload_n 0, 1) := by decide +kernel
theorem dX6_rowOf_33 : decode cX6_rowOf 33 = .ok (.getfield 7, 3) := by decide +kernel
theorem dX6_rowOf_36 : decode cX6_rowOf 36 = .ok (.iload_n 1, 1) := by decide +kernel
theorem dX6_rowOf_37 : decode cX6_rowOf 37 = .ok (.iload_n 2, 1) := by decide +kernel
theorem dX6_rowOf_38 : decode cX6_rowOf 38 = .ok (.invokestatic 62, 3) := by decide +kernel
theorem dX6_rowOf_41 : decode cX6_rowOf 41 = .ok (.iaload, 1) := by decide +kernel
theorem dX6_rowOf_42 : decode cX6_rowOf 42 = .ok (.goto 4, 3) := by decide +kernel
theorem dX6_rowOf_45 : decode cX6_rowOf 45 = .ok (.iconst 0, 1) := by decide +kernel
theorem dX6_rowOf_46 : decode cX6_rowOf 46 = .ok (.ireturn, 1) := by decide +kernel
theorem dX6_sumOf_0 : decode cX6_sumOf 0 = .ok (.aload_n 0, 1) := by decide +kernel
theorem dX6_sumOf_1 : decode cX6_sumOf 1 = .ok (.getfield 7, 3) := by decide +kernel
theorem dX6_sumOf_4 : decode cX6_sumOf 4 = .ok (.iload_n 1, 1) := by decide +kernel
theorem dX6_sumOf_5 : decode cX6_sumOf 5 = .ok (.iaload, 1) := by decide +kernel
theorem dX6_sumOf_6 : decode cX6_sumOf 6 = .ok (.aload_n 0, 1) := by decide +kernel
theorem dX6_sumOf_7 : decode cX6_sumOf 7 = .ok (.getfield 7, 3) := by decide +kernel
theorem dX6_sumOf_10 : decode cX6_sumOf 10 = .ok (.iload_n 1, 1) := by decide +kernel
theorem dX6_sumOf_11 : decode cX6_sumOf 11 = .ok (.iconst 1, 1) := by decide +kernel
theorem dX6_sumOf_12 : decode cX6_sumOf 12 = .ok (.iadd, 1) := by decide +kernel
theorem dX6_sumOf_13 : decode cX6_sumOf 13 = .ok (.iaload, 1) := by decide +kernel
theorem dX6_sumOf_14 : decode cX6_sumOf 14 = .ok (.iadd, 1) := by decide +kernel
theorem dX6_sumOf_15 : decode cX6_sumOf 15 = .ok (.aload_n 0, 1) := by decide +kernel
theorem dX6_sumOf_16 : decode cX6_sumOf 16 = .ok (.getfield 7, 3) := by decide +kernel
theorem dX6_sumOf_19 : decode cX6_sumOf 19 = .ok (.iload_n 1, 1) := by decide +kernel
theorem dX6_sumOf_20 : decode cX6_sumOf 20 = .ok (.iconst 2, 1) := by decide +kernel
theorem dX6_sumOf_21 : decode cX6_sumOf 21 = .ok (.iadd, 1) := by decide +kernel
theorem dX6_sumOf_22 : decode cX6_sumOf 22 = .ok (.iaload, 1) := by decide +kernel
theorem dX6_sumOf_23 : decode cX6_sumOf 23 = .ok (.iadd, 1) := by decide +kernel
theorem dX6_sumOf_24 : decode cX6_sumOf 24 = .ok (.aload_n 0, 1) := by decide +kernel
theorem dX6_sumOf_25 : decode cX6_sumOf 25 = .ok (.getfield 7, 3) := by decide +kernel
theorem dX6_sumOf_28 : decode cX6_sumOf 28 = .ok (.iload_n 1, 1) := by decide +kernel
theorem dX6_sumOf_29 : decode cX6_sumOf 29 = .ok (.iconst 3, 1) := by decide +kernel
theorem dX6_sumOf_30 : decode cX6_sumOf 30 = .ok (.iadd, 1) := by decide +kernel
theorem dX6_sumOf_31 : decode cX6_sumOf 31 = .ok (.iaload, 1) := by decide +kernel
theorem dX6_sumOf_32 : decode cX6_sumOf 32 = .ok (.iadd, 1) := by decide +kernel
theorem dX6_sumOf_33 : decode cX6_sumOf 33 = .ok (.ireturn, 1) := by decide +kernel
theorem dX6_winner_0 : decode cX6_winner 0 = .ok (.iconst (-1), 1) := by decide +kernel
theorem dX6_winner_1 : decode cX6_winner 1 = .ok (.istore_n 1, 1) := by decide +kernel
theorem dX6_winner_2 : decode cX6_winner 2 = .ok (.iconst 0, 1) := by decide +kernel
theorem dX6_winner_3 : decode cX6_winner 3 = .ok (.istore_n 2, 1) := by decide +kernel
theorem dX6_winner_4 : decode cX6_winner 4 = .ok (.iconst 0, 1) := by decide +kernel
theorem dX6_winner_5 : decode cX6_winner 5 = .ok (.istore_n 3, 1) := by decide +kernel
theorem dX6_winner_6 : decode cX6_winner 6 = .ok (.iload_n 3, 1) := by decide +kernel
theorem dX6_winner_7 : decode cX6_winner 7 = .ok (.aload_n 0, 1) := by decide +kernel
theorem dX6_winner_8 : decode cX6_winner 8 = .ok (.getfield 7, 3) := by decide +kernel
theorem dX6_winner_11 : decode cX6_winner 11 = .ok (.sipush 341, 3) := by decide +kernel
theorem dX6_winner_14 : decode cX6_winner 14 = .ok (.iaload, 1) := by decide +kernel
theorem dX6_winner_15 : decode cX6_winner 15 = .ok (.if_icmp .ge 70, 3) := by decide +kernel
theorem dX6_winner_18 : decode cX6_winner 18 = .ok (.aload_n 0, 1) := by decide +kernel
theorem dX6_winner_19 : decode cX6_winner 19 = .ok (.getfield 7, 3) := by decide +kernel
theorem dX6_winner_22 : decode cX6_winner 22 = .ok (.sipush 342, 3) := by decide +kernel
theorem dX6_winner_25 : decode cX6_winner 25 = .ok (.iaload, 1) := by decide +kernel
theorem dX6_winner_26 : decode cX6_winner 26 = .ok (.iconst (-1), 1) := by decide +kernel
theorem dX6_winner_27 : decode cX6_winner 27 = .ok (.if_icmp .ne 58, 3) := by decide +kernel
theorem dX6_winner_30 : decode cX6_winner 30 = .ok (.aload_n 0, 1) := by decide +kernel
theorem dX6_winner_31 : decode cX6_winner 31 = .ok (.iload_n 3, 1) := by decide +kernel
theorem dX6_winner_32 : decode cX6_winner 32 = .ok (.iconst 3, 1) := by decide +kernel
theorem dX6_winner_33 : decode cX6_winner 33 = .ok (.invokevirtual 164, 3) := by decide +kernel
theorem dX6_winner_36 : decode cX6_winner 36 = .ok (.istore 4, 2) := by decide +kernel
theorem dX6_winner_38 : decode cX6_winner 38 = .ok (.iload_n 1, 1) := by decide +kernel
theorem dX6_winner_39 : decode cX6_winner 39 = .ok (.iconst (-1), 1) := by decide +kernel
theorem dX6_winner_40 : decode cX6_winner 40 = .ok (.if_icmp .eq 9, 3) := by decide +kernel
theorem dX6_winner_43 : decode cX6_winner 43 = .ok (.iload 4, 2) := by decide +kernel
theorem dX6_winner_45 : decode cX6_winner 45 = .ok (.iload_n 2, 1) := by decide +kernel
theorem dX6_winner_46 : decode cX6_winner 46 = .ok (.if_icmp .ge 7, 3) := by decide +kernel
theorem dX6_winner_49 : decode cX6_winner 49 = .ok (.iconst 1, 1) := by decide +kernel
theorem dX6_winner_50 : decode cX6_winner 50 = .ok (.goto 4, 3) := by decide +kernel
theorem dX6_winner_53 : decode cX6_winner 53 = .ok (.iconst 0, 1) := by decide +kernel
theorem dX6_winner_54 : decode cX6_winner 54 = .ok (.istore 5, 2) := by decide +kernel
theorem dX6_winner_56 : decode cX6_winner 56 = .ok (.iload 5, 2) := by decide +kernel
theorem dX6_winner_58 : decode cX6_winner 58 = .ok (.ifCond .eq 7, 3) := by decide +kernel
theorem dX6_winner_61 : decode cX6_winner 61 = .ok (.iload_n 3, 1) := by decide +kernel
theorem dX6_winner_62 : decode cX6_winner 62 = .ok (.goto 4, 3) := by decide +kernel
theorem dX6_winner_65 : decode cX6_winner 65 = .ok (.iload_n 1, 1) := by decide +kernel
theorem dX6_winner_66 : decode cX6_winner 66 = .ok (.istore_n 1, 1) := by decide +kernel
theorem dX6_winner_67 : decode cX6_winner 67 = .ok (.iload 5, 2) := by decide +kernel
theorem dX6_winner_69 : decode cX6_winner 69 = .ok (.ifCond .eq 8, 3) := by decide +kernel
theorem dX6_winner_72 : decode cX6_winner 72 = .ok (.iload 4, 2) := by decide +kernel
theorem dX6_winner_74 : decode cX6_winner 74 = .ok (.goto 4, 3) := by decide +kernel
theorem dX6_winner_77 : decode cX6_winner 77 = .ok (.iload_n 2, 1) := by decide +kernel
theorem dX6_winner_78 : decode cX6_winner 78 = .ok (.istore_n 2, 1) := by decide +kernel
theorem dX6_winner_79 : decode cX6_winner 79 = .ok (.iinc 3 1, 3) := by decide +kernel
theorem dX6_winner_82 : decode cX6_winner 82 = .ok (.goto (-76), 3) := by decide +kernel
theorem dX6_winner_85 : decode cX6_winner 85 = .ok (.iload_n 1, 1) := by decide +kernel
theorem dX6_winner_86 : decode cX6_winner 86 = .ok (.ireturn, 1) := by decide +kernel
theorem dX6_counted_0 : decode cX6_counted 0 = .ok (.iload_n 1, 1) := by decide +kernel
theorem dX6_counted_1 : decode cX6_counted 1 = .ok (.tableswitch 147 0 10 #[59, 68, 77, 82, 90, 98, 107, 116, 124, 129, 138], 59) := by decide +kernel
theorem dX6_counted_60 : decode cX6_counted 60 = .ok (.aload_n 0, 1) := by decide +kernel
theorem dX6_counted_61 : decode cX6_counted 61 = .ok (.getfield 7, 3) := by decide +kernel
theorem dX6_counted_64 : decode cX6_counted 64 = .ok (.sipush 341, 3) := by decide +kernel
theorem dX6_counted_67 : decode cX6_counted 67 = .ok (.iaload, 1) := by decide +kernel
theorem dX6_counted_68 : decode cX6_counted 68 = .ok (.ireturn, 1) := by decide +kernel
theorem dX6_counted_69 : decode cX6_counted 69 = .ok (.aload_n 0, 1) := by decide +kernel
theorem dX6_counted_70 : decode cX6_counted 70 = .ok (.getfield 7, 3) := by decide +kernel
theorem dX6_counted_73 : decode cX6_counted 73 = .ok (.sipush 342, 3) := by decide +kernel
theorem dX6_counted_76 : decode cX6_counted 76 = .ok (.iaload, 1) := by decide +kernel
theorem dX6_counted_77 : decode cX6_counted 77 = .ok (.ireturn, 1) := by decide +kernel
theorem dX6_counted_78 : decode cX6_counted 78 = .ok (.aload_n 0, 1) := by decide +kernel
theorem dX6_counted_79 : decode cX6_counted 79 = .ok (.invokevirtual 72, 3) := by decide +kernel
theorem dX6_counted_82 : decode cX6_counted 82 = .ok (.ireturn, 1) := by decide +kernel
theorem dX6_counted_83 : decode cX6_counted 83 = .ok (.aload_n 0, 1) := by decide +kernel
theorem dX6_counted_84 : decode cX6_counted 84 = .ok (.sipush 337, 3) := by decide +kernel
theorem dX6_counted_87 : decode cX6_counted 87 = .ok (.invokevirtual 167, 3) := by decide +kernel
theorem dX6_counted_90 : decode cX6_counted 90 = .ok (.ireturn, 1) := by decide +kernel
theorem dX6_counted_91 : decode cX6_counted 91 = .ok (.aload_n 0, 1) := by decide +kernel
theorem dX6_counted_92 : decode cX6_counted 92 = .ok (.sipush 350, 3) := by decide +kernel
theorem dX6_counted_95 : decode cX6_counted 95 = .ok (.invokevirtual 167, 3) := by decide +kernel
theorem dX6_counted_98 : decode cX6_counted 98 = .ok (.ireturn, 1) := by decide +kernel
theorem dX6_counted_99 : decode cX6_counted 99 = .ok (.aload_n 0, 1) := by decide +kernel
theorem dX6_counted_100 : decode cX6_counted 100 = .ok (.getfield 7, 3) := by decide +kernel
theorem dX6_counted_103 : decode cX6_counted 103 = .ok (.sipush 345, 3) := by decide +kernel
theorem dX6_counted_106 : decode cX6_counted 106 = .ok (.iaload, 1) := by decide +kernel
theorem dX6_counted_107 : decode cX6_counted 107 = .ok (.ireturn, 1) := by decide +kernel
theorem dX6_counted_108 : decode cX6_counted 108 = .ok (.aload_n 0, 1) := by decide +kernel
theorem dX6_counted_109 : decode cX6_counted 109 = .ok (.getfield 7, 3) := by decide +kernel
theorem dX6_counted_112 : decode cX6_counted 112 = .ok (.sipush 344, 3) := by decide +kernel
theorem dX6_counted_115 : decode cX6_counted 115 = .ok (.iaload, 1) := by decide +kernel
theorem dX6_counted_116 : decode cX6_counted 116 = .ok (.ireturn, 1) := by decide +kernel
theorem dX6_counted_117 : decode cX6_counted 117 = .ok (.aload_n 0, 1) := by decide +kernel
theorem dX6_counted_118 : decode cX6_counted 118 = .ok (.sipush 346, 3) := by decide +kernel
theorem dX6_counted_121 : decode cX6_counted 121 = .ok (.invokevirtual 167, 3) := by decide +kernel
theorem dX6_counted_124 : decode cX6_counted 124 = .ok (.ireturn, 1) := by decide +kernel
theorem dX6_counted_125 : decode cX6_counted 125 = .ok (.aload_n 0, 1) := by decide +kernel
theorem dX6_counted_126 : decode cX6_counted 126 = .ok (.invokevirtual 170, 3) := by decide +kernel
theorem dX6_counted_129 : decode cX6_counted 129 = .ok (.ireturn, 1) := by decide +kernel
theorem dX6_counted_130 : decode cX6_counted 130 = .ok (.aload_n 0, 1) := by decide +kernel
theorem dX6_counted_131 : decode cX6_counted 131 = .ok (.getfield 7, 3) := by decide +kernel
theorem dX6_counted_134 : decode cX6_counted 134 = .ok (.sipush 358, 3) := by decide +kernel
theorem dX6_counted_137 : decode cX6_counted 137 = .ok (.iaload, 1) := by decide +kernel
theorem dX6_counted_138 : decode cX6_counted 138 = .ok (.ireturn, 1) := by decide +kernel
theorem dX6_counted_139 : decode cX6_counted 139 = .ok (.aload_n 0, 1) := by decide +kernel
theorem dX6_counted_140 : decode cX6_counted 140 = .ok (.getfield 7, 3) := by decide +kernel
theorem dX6_counted_143 : decode cX6_counted 143 = .ok (.sipush 343, 3) := by decide +kernel
theorem dX6_counted_146 : decode cX6_counted 146 = .ok (.iaload, 1) := by decide +kernel
theorem dX6_counted_147 : decode cX6_counted 147 = .ok (.ireturn, 1) := by decide +kernel
theorem dX6_counted_148 : decode cX6_counted 148 = .ok (.aload_n 0, 1) := by decide +kernel
theorem dX6_counted_149 : decode cX6_counted 149 = .ok (.getfield 41, 3) := by decide +kernel
theorem dX6_counted_152 : decode cX6_counted 152 = .ok (.ireturn, 1) := by decide +kernel
theorem dX6_count_0 : decode cX6_count 0 = .ok (.aload_n 0, 1) := by decide +kernel
theorem dX6_count_1 : decode cX6_count 1 = .ok (.iload_n 1, 1) := by decide +kernel
theorem dX6_count_2 : decode cX6_count 2 = .ok (.iconst 0, 1) := by decide +kernel
theorem dX6_count_3 : decode cX6_count 3 = .ok (.bipush 11, 2) := by decide +kernel
theorem dX6_count_5 : decode cX6_count 5 = .ok (.invokestatic 37, 3) := by decide +kernel
theorem dX6_count_8 : decode cX6_count 8 = .ok (.ifCond .eq 7, 3) := by decide +kernel
theorem dX6_count_11 : decode cX6_count 11 = .ok (.iconst 0, 1) := by decide +kernel
theorem dX6_count_12 : decode cX6_count 12 = .ok (.goto 4, 3) := by decide +kernel
theorem dX6_count_15 : decode cX6_count 15 = .ok (.iconst 1, 1) := by decide +kernel
theorem dX6_count_16 : decode cX6_count 16 = .ok (.invokevirtual 65, 3) := by decide +kernel
theorem dX6_count_19 : decode cX6_count 19 = .ok (.ifCond .eq 11, 3) := by decide +kernel
theorem dX6_count_22 : decode cX6_count 22 = .ok (.aload_n 0, 1) := by decide +kernel
theorem dX6_count_23 : decode cX6_count 23 = .ok (.iload_n 1, 1) := by decide +kernel
theorem dX6_count_24 : decode cX6_count 24 = .ok (.invokevirtual 173, 3) := by decide +kernel
theorem dX6_count_27 : decode cX6_count 27 = .ok (.goto 4, 3) := by decide +kernel
theorem dX6_count_30 : decode cX6_count 30 = .ok (.iconst 0, 1) := by decide +kernel
theorem dX6_count_31 : decode cX6_count 31 = .ok (.ireturn, 1) := by decide +kernel
theorem dX6_setting_0 : decode cX6_setting 0 = .ok (.aload_n 0, 1) := by decide +kernel
theorem dX6_setting_1 : decode cX6_setting 1 = .ok (.iconst 0, 1) := by decide +kernel
theorem dX6_setting_2 : decode cX6_setting 2 = .ok (.putfield 33, 3) := by decide +kernel
theorem dX6_setting_5 : decode cX6_setting 5 = .ok (.aload_n 0, 1) := by decide +kernel
theorem dX6_setting_6 : decode cX6_setting 6 = .ok (.getfield 7, 3) := by decide +kernel
theorem dX6_setting_9 : decode cX6_setting 9 = .ok (.sipush 359, 3) := by decide +kernel
theorem dX6_setting_12 : decode cX6_setting 12 = .ok (.iaload, 1) := by decide +kernel
theorem dX6_setting_13 : decode cX6_setting 13 = .ok (.ireturn, 1) := by decide +kernel
theorem dX6_whyNot_0 : decode cX6_whyNot 0 = .ok (.aload_n 0, 1) := by decide +kernel
theorem dX6_whyNot_1 : decode cX6_whyNot 1 = .ok (.iload_n 2, 1) := by decide +kernel
theorem dX6_whyNot_2 : decode cX6_whyNot 2 = .ok (.invokestatic 97, 3) := by decide +kernel
theorem dX6_whyNot_5 : decode cX6_whyNot 5 = .ok (.ifCond .ne 7, 3) := by decide +kernel
theorem dX6_whyNot_8 : decode cX6_whyNot 8 = .ok (.iconst 1, 1) := by decide +kernel
theorem dX6_whyNot_9 : decode cX6_whyNot 9 = .ok (.goto 17, 3) := by decide +kernel
theorem dX6_whyNot_12 : decode cX6_whyNot 12 = .ok (.iload_n 3, 1) := by decide +kernel
theorem dX6_whyNot_13 : decode cX6_whyNot 13 = .ok (.iconst 0, 1) := by decide +kernel
theorem dX6_whyNot_14 : decode cX6_whyNot 14 = .ok (.iconst 1, 1) := by decide +kernel
theorem dX6_whyNot_15 : decode cX6_whyNot 15 = .ok (.invokestatic 37, 3) := by decide +kernel
theorem dX6_whyNot_18 : decode cX6_whyNot 18 = .ok (.ifCond .eq 7, 3) := by decide +kernel
theorem dX6_whyNot_21 : decode cX6_whyNot 21 = .ok (.iconst 0, 1) := by decide +kernel
theorem dX6_whyNot_22 : decode cX6_whyNot 22 = .ok (.goto 4, 3) := by decide +kernel
theorem dX6_whyNot_25 : decode cX6_whyNot 25 = .ok (.iconst 2, 1) := by decide +kernel
theorem dX6_whyNot_26 : decode cX6_whyNot 26 = .ok (.invokevirtual 65, 3) := by decide +kernel
theorem dX6_whyNot_29 : decode cX6_whyNot 29 = .ok (.ifCond .eq 13, 3) := by decide +kernel
theorem dX6_whyNot_32 : decode cX6_whyNot 32 = .ok (.aload_n 0, 1) := by decide +kernel
theorem dX6_whyNot_33 : decode cX6_whyNot 33 = .ok (.iload_n 1, 1) := by decide +kernel
theorem dX6_whyNot_34 : decode cX6_whyNot 34 = .ok (.iload_n 2, 1) := by decide +kernel
theorem dX6_whyNot_35 : decode cX6_whyNot 35 = .ok (.iload_n 3, 1) := by decide +kernel
theorem dX6_whyNot_36 : decode cX6_whyNot 36 = .ok (.invokevirtual 82, 3) := by decide +kernel
theorem dX6_whyNot_39 : decode cX6_whyNot 39 = .ok (.goto 4, 3) := by decide +kernel
theorem dX6_whyNot_42 : decode cX6_whyNot 42 = .ok (.iconst 0, 1) := by decide +kernel
theorem dX6_whyNot_43 : decode cX6_whyNot 43 = .ok (.ireturn, 1) := by decide +kernel
theorem dX6_tries_0 : decode cX6_tries 0 = .ok (.aload_n 0, 1) := by decide +kernel
theorem dX6_tries_1 : decode cX6_tries 1 = .ok (.getfield 7, 3) := by decide +kernel
theorem dX6_tries_4 : decode cX6_tries 4 = .ok (.sipush 337, 3) := by decide +kernel
theorem dX6_tries_7 : decode cX6_tries 7 = .ok (.iload_n 1, 1) := by decide +kernel
theorem dX6_tries_8 : decode cX6_tries 8 = .ok (.iadd, 1) := by decide +kernel
theorem dX6_tries_9 : decode cX6_tries 9 = .ok (.iaload, 1) := by decide +kernel
theorem dX6_tries_10 : decode cX6_tries 10 = .ok (.istore_n 3, 1) := by decide +kernel
theorem dX6_tries_11 : decode cX6_tries 11 = .ok (.iconst 0, 1) := by decide +kernel
theorem dX6_tries_12 : decode cX6_tries 12 = .ok (.istore 4, 2) := by decide +kernel
theorem dX6_tries_14 : decode cX6_tries 14 = .ok (.iload 4, 2) := by decide +kernel
theorem dX6_tries_16 : decode cX6_tries 16 = .ok (.bipush 7, 2) := by decide +kernel
theorem dX6_tries_18 : decode cX6_tries 18 = .ok (.iload_n 3, 1) := by decide +kernel
theorem dX6_tries_19 : decode cX6_tries 19 = .ok (.ishl, 1) := by decide +kernel
theorem dX6_tries_20 : decode cX6_tries 20 = .ok (.if_icmp .ge 27, 3) := by decide +kernel
theorem dX6_tries_23 : decode cX6_tries 23 = .ok (.aload_n 0, 1) := by decide +kernel
theorem dX6_tries_24 : decode cX6_tries 24 = .ok (.getfield 22, 3) := by decide +kernel
theorem dX6_tries_27 : decode cX6_tries 27 = .ok (.iload 4, 2) := by decide +kernel
theorem dX6_tries_29 : decode cX6_tries 29 = .ok (.iload 4, 2) := by decide +kernel
theorem dX6_tries_31 : decode cX6_tries 31 = .ok (.iload_n 2, 1) := by decide +kernel
theorem dX6_tries_32 : decode cX6_tries 32 = .ok (.if_icmp .ne 7, 3) := by decide +kernel
theorem dX6_tries_35 : decode cX6_tries 35 = .ok (.iconst 1, 1) := by decide +kernel
theorem dX6_tries_36 : decode cX6_tries 36 = .ok (.goto 4, 3) := by decide +kernel
theorem dX6_tries_39 : decode cX6_tries 39 = .ok (.iconst 0, 1) := by decide +kernel
theorem dX6_tries_40 : decode cX6_tries 40 = .ok (.bastore, 1) := by decide +kernel
theorem dX6_tries_41 : decode cX6_tries 41 = .ok (.iinc 4 1, 3) := by decide +kernel
theorem dX6_tries_44 : decode cX6_tries 44 = .ok (.goto (-30), 3) := by decide +kernel
theorem dX6_tries_47 : decode cX6_tries 47 = .ok (.iconst 0, 1) := by decide +kernel
theorem dX6_tries_48 : decode cX6_tries 48 = .ok (.istore 4, 2) := by decide +kernel
theorem dX6_tries_50 : decode cX6_tries 50 = .ok (.iconst 0, 1) := by decide +kernel
theorem dX6_tries_51 : decode cX6_tries 51 = .ok (.istore 5, 2) := by decide +kernel
theorem dX6_tries_53 : decode cX6_tries 53 = .ok (.iload 5, 2) := by decide +kernel
theorem dX6_tries_55 : decode cX6_tries 55 = .ok (.iconst 1, 1) := by decide +kernel
theorem dX6_tries_56 : decode cX6_tries 56 = .ok (.iload_n 3, 1) := by decide +kernel
theorem dX6_tries_57 : decode cX6_tries 57 = .ok (.ishl, 1) := by decide +kernel
theorem dX6_tries_58 : decode cX6_tries 58 = .ok (.if_icmp .ge 72, 3) := by decide +kernel
theorem dX6_tries_61 : decode cX6_tries 61 = .ok (.iconst 0, 1) := by decide +kernel
theorem dX6_tries_62 : decode cX6_tries 62 = .ok (.istore 6, 2) := by decide +kernel
theorem dX6_tries_64 : decode cX6_tries 64 = .ok (.iload 6, 2) := by decide +kernel
theorem dX6_tries_66 : decode cX6_tries 66 = .ok (.bipush 7, 2) := by decide +kernel
theorem dX6_tries_68 : decode cX6_tries 68 = .ok (.if_icmp .ge 56, 3) := by decide +kernel
theorem dX6_tries_71 : decode cX6_tries 71 = .ok (.aload_n 0, 1) := by decide +kernel
theorem dX6_tries_72 : decode cX6_tries 72 = .ok (.getfield 22, 3) := by decide +kernel
theorem dX6_tries_75 : decode cX6_tries 75 = .ok (.bipush 7, 2) := by decide +kernel
theorem dX6_tries_77 : decode cX6_tries 77 = .ok (.iload 5, 2) := by decide +kernel
theorem dX6_tries_79 : decode cX6_tries 79 = .ok (.imul, 1) := by decide +kernel
theorem dX6_tries_80 : decode cX6_tries 80 = .ok (.iload 6, 2) := by decide +kernel
theorem dX6_tries_82 : decode cX6_tries 82 = .ok (.iadd, 1) := by decide +kernel
theorem dX6_tries_83 : decode cX6_tries 83 = .ok (.baload, 1) := by decide +kernel
theorem dX6_tries_84 : decode cX6_tries 84 = .ok (.ifCond .eq 34, 3) := by decide +kernel
theorem dX6_tries_87 : decode cX6_tries 87 = .ok (.iload 5, 2) := by decide +kernel
theorem dX6_tries_89 : decode cX6_tries 89 = .ok (.invokestatic 176, 3) := by decide +kernel
theorem dX6_tries_92 : decode cX6_tries 92 = .ok (.iload 4, 2) := by decide +kernel
theorem dX6_tries_94 : decode cX6_tries 94 = .ok (.if_icmp .le 11, 3) := by decide +kernel
theorem dX6_tries_97 : decode cX6_tries 97 = .ok (.iload 5, 2) := by decide +kernel
theorem dX6_tries_99 : decode cX6_tries 99 = .ok (.invokestatic 176, 3) := by decide +kernel
theorem dX6_tries_102 : decode cX6_tries 102 = .ok (.goto 5, 3) := by decide +kernel
theorem dX6_tries_105 : decode cX6_tries 105 = .ok (.iload 4, 2) := by decide +kernel
theorem dX6_tries_107 : decode cX6_tries 107 = .ok (.istore 4, 2) := by decide +kernel
theorem dX6_tries_109 : decode cX6_tries 109 = .ok (.aload_n 0, 1) := by decide +kernel
theorem dX6_tries_110 : decode cX6_tries 110 = .ok (.iload_n 1, 1) := by decide +kernel
theorem dX6_tries_111 : decode cX6_tries 111 = .ok (.iload 5, 2) := by decide +kernel
theorem dX6_tries_113 : decode cX6_tries 113 = .ok (.iload 6, 2) := by decide +kernel
theorem dX6_tries_115 : decode cX6_tries 115 = .ok (.invokevirtual 179, 3) := by decide +kernel
theorem dX6_tries_118 : decode cX6_tries 118 = .ok (.iinc 6 1, 3) := by decide +kernel
theorem dX6_tries_121 : decode cX6_tries 121 = .ok (.goto (-57), 3) := by decide +kernel
theorem dX6_tries_124 : decode cX6_tries 124 = .ok (.iinc 5 1, 3) := by decide +kernel
theorem dX6_tries_127 : decode cX6_tries 127 = .ok (.goto (-74), 3) := by decide +kernel
theorem dX6_tries_130 : decode cX6_tries 130 = .ok (.iload 4, 2) := by decide +kernel
theorem dX6_tries_132 : decode cX6_tries 132 = .ok (.ireturn, 1) := by decide +kernel
theorem dX6_goesOn_0 : decode cX6_goesOn 0 = .ok (.iconst 0, 1) := by decide +kernel
theorem dX6_goesOn_1 : decode cX6_goesOn 1 = .ok (.istore 4, 2) := by decide +kernel
theorem dX6_goesOn_3 : decode cX6_goesOn 3 = .ok (.iload 4, 2) := by decide +kernel
theorem dX6_goesOn_5 : decode cX6_goesOn 5 = .ok (.aload_n 0, 1) := by decide +kernel
theorem dX6_goesOn_6 : decode cX6_goesOn 6 = .ok (.getfield 7, 3) := by decide +kernel
theorem dX6_goesOn_9 : decode cX6_goesOn 9 = .ok (.sipush 337, 3) := by decide +kernel
theorem dX6_goesOn_12 : decode cX6_goesOn 12 = .ok (.iload_n 1, 1) := by decide +kernel
theorem dX6_goesOn_13 : decode cX6_goesOn 13 = .ok (.iadd, 1) := by decide +kernel
theorem dX6_goesOn_14 : decode cX6_goesOn 14 = .ok (.iaload, 1) := by decide +kernel
theorem dX6_goesOn_15 : decode cX6_goesOn 15 = .ok (.if_icmp .ge 92, 3) := by decide +kernel
theorem dX6_goesOn_18 : decode cX6_goesOn 18 = .ok (.aload_n 0, 1) := by decide +kernel
theorem dX6_goesOn_19 : decode cX6_goesOn 19 = .ok (.getfield 7, 3) := by decide +kernel
theorem dX6_goesOn_22 : decode cX6_goesOn 22 = .ok (.iload_n 1, 1) := by decide +kernel
theorem dX6_goesOn_23 : decode cX6_goesOn 23 = .ok (.iload 4, 2) := by decide +kernel
theorem dX6_goesOn_25 : decode cX6_goesOn 25 = .ok (.invokestatic 48, 3) := by decide +kernel
theorem dX6_goesOn_28 : decode cX6_goesOn 28 = .ok (.iaload, 1) := by decide +kernel
theorem dX6_goesOn_29 : decode cX6_goesOn 29 = .ok (.istore 5, 2) := by decide +kernel
theorem dX6_goesOn_31 : decode cX6_goesOn 31 = .ok (.iconst 0, 1) := by decide +kernel
theorem dX6_goesOn_32 : decode cX6_goesOn 32 = .ok (.istore 6, 2) := by decide +kernel
theorem dX6_goesOn_34 : decode cX6_goesOn 34 = .ok (.iload 6, 2) := by decide +kernel
theorem dX6_goesOn_36 : decode cX6_goesOn 36 = .ok (.iconst 2, 1) := by decide +kernel
theorem dX6_goesOn_37 : decode cX6_goesOn 37 = .ok (.if_icmp .ge 64, 3) := by decide +kernel
theorem dX6_goesOn_40 : decode cX6_goesOn 40 = .ok (.iload_n 2, 1) := by decide +kernel
theorem dX6_goesOn_41 : decode cX6_goesOn 41 = .ok (.iload 4, 2) := by decide +kernel
theorem dX6_goesOn_43 : decode cX6_goesOn 43 = .ok (.ishr, 1) := by decide +kernel
theorem dX6_goesOn_44 : decode cX6_goesOn 44 = .ok (.iconst 1, 1) := by decide +kernel
theorem dX6_goesOn_45 : decode cX6_goesOn 45 = .ok (.iand, 1) := by decide +kernel
theorem dX6_goesOn_46 : decode cX6_goesOn 46 = .ok (.ifCond .ne 49, 3) := by decide +kernel
theorem dX6_goesOn_49 : decode cX6_goesOn 49 = .ok (.aload_n 0, 1) := by decide +kernel
theorem dX6_goesOn_50 : decode cX6_goesOn 50 = .ok (.getfield 7, 3) := by decide +kernel
theorem dX6_goesOn_53 : decode cX6_goesOn 53 = .ok (.iload 5, 2) := by decide +kernel
theorem dX6_goesOn_55 : decode cX6_goesOn 55 = .ok (.iload 6, 2) := by decide +kernel
theorem dX6_goesOn_57 : decode cX6_goesOn 57 = .ok (.invokestatic 44, 3) := by decide +kernel
theorem dX6_goesOn_60 : decode cX6_goesOn 60 = .ok (.iaload, 1) := by decide +kernel
theorem dX6_goesOn_61 : decode cX6_goesOn 61 = .ok (.iload_n 3, 1) := by decide +kernel
theorem dX6_goesOn_62 : decode cX6_goesOn 62 = .ok (.if_icmp .ne 33, 3) := by decide +kernel
theorem dX6_goesOn_65 : decode cX6_goesOn 65 = .ok (.aload_n 0, 1) := by decide +kernel
theorem dX6_goesOn_66 : decode cX6_goesOn 66 = .ok (.getfield 22, 3) := by decide +kernel
theorem dX6_goesOn_69 : decode cX6_goesOn 69 = .ok (.bipush 7, 2) := by decide +kernel
theorem dX6_goesOn_71 : decode cX6_goesOn 71 = .ok (.iload_n 2, 1) := by decide +kernel
theorem dX6_goesOn_72 : decode cX6_goesOn 72 = .ok (.iconst 1, 1) := by decide +kernel
theorem dX6_goesOn_73 : decode cX6_goesOn 73 = .ok (.iload 4, 2) := by decide +kernel
theorem dX6_goesOn_75 : decode cX6_goesOn 75 = .ok (.ishl, 1) := by decide +kernel
theorem dX6_goesOn_76 : decode cX6_goesOn 76 = .ok (.ior, 1) := by decide +kernel
theorem dX6_goesOn_77 : decode cX6_goesOn 77 = .ok (.imul, 1) := by decide +kernel
theorem dX6_goesOn_78 : decode cX6_goesOn 78 = .ok (.aload_n 0, 1) := by decide +kernel
theorem dX6_goesOn_79 : decode cX6_goesOn 79 = .ok (.getfield 7, 3) := by decide +kernel
theorem dX6_goesOn_82 : decode cX6_goesOn 82 = .ok (.iload 5, 2) := by decide +kernel
theorem dX6_goesOn_84 : decode cX6_goesOn 84 = .ok (.iconst 1, 1) := by decide +kernel
theorem dX6_goesOn_85 : decode cX6_goesOn 85 = .ok (.iload 6, 2) := by decide +kernel
theorem dX6_goesOn_87 : decode cX6_goesOn 87 = .ok (.isub, 1) := by decide +kernel
theorem dX6_goesOn_88 : decode cX6_goesOn 88 = .ok (.invokestatic 44, 3) := by decide +kernel
theorem dX6_goesOn_91 : decode cX6_goesOn 91 = .ok (.iaload, 1) := by decide +kernel
theorem dX6_goesOn_92 : decode cX6_goesOn 92 = .ok (.iadd, 1) := by decide +kernel
theorem dX6_goesOn_93 : decode cX6_goesOn 93 = .ok (.iconst 1, 1) := by decide +kernel
theorem dX6_goesOn_94 : decode cX6_goesOn 94 = .ok (.bastore, 1) := by decide +kernel
theorem dX6_goesOn_95 : decode cX6_goesOn 95 = .ok (.iinc 6 1, 3) := by decide +kernel
theorem dX6_goesOn_98 : decode cX6_goesOn 98 = .ok (.goto (-64), 3) := by decide +kernel
theorem dX6_goesOn_101 : decode cX6_goesOn 101 = .ok (.iinc 4 1, 3) := by decide +kernel
theorem dX6_goesOn_104 : decode cX6_goesOn 104 = .ok (.goto (-101), 3) := by decide +kernel
theorem dX6_goesOn_107 : decode cX6_goesOn 107 = .ok (.return_, 1) := by decide +kernel
theorem dX6_ones_0 : decode cX6_ones 0 = .ok (.iconst 0, 1) := by decide +kernel
theorem dX6_ones_1 : decode cX6_ones 1 = .ok (.istore_n 1, 1) := by decide +kernel
theorem dX6_ones_2 : decode cX6_ones 2 = .ok (.iconst 0, 1) := by decide +kernel
theorem dX6_ones_3 : decode cX6_ones 3 = .ok (.istore_n 2, 1) := by decide +kernel
theorem dX6_ones_4 : decode cX6_ones 4 = .ok (.iload_n 2, 1) := by decide +kernel
theorem dX6_ones_5 : decode cX6_ones 5 = .ok (.bipush 10, 2) := by decide +kernel
theorem dX6_ones_7 : decode cX6_ones 7 = .ok (.if_icmp .ge 17, 3) := by decide +kernel
theorem dX6_ones_10 : decode cX6_ones 10 = .ok (.iload_n 1, 1) := by decide +kernel
theorem dX6_ones_11 : decode cX6_ones 11 = .ok (.iload_n 0, 1) := by decide +kernel
theorem dX6_ones_12 : decode cX6_ones 12 = .ok (.iload_n 2, 1) := by decide +kernel
theorem dX6_ones_13 : decode cX6_ones 13 = .ok (.ishr, 1) := by decide +kernel
theorem dX6_ones_14 : decode cX6_ones 14 = .ok (.iconst 1, 1) := by decide +kernel
theorem dX6_ones_15 : decode cX6_ones 15 = .ok (.iand, 1) := by decide +kernel
theorem dX6_ones_16 : decode cX6_ones 16 = .ok (.iadd, 1) := by decide +kernel
theorem dX6_ones_17 : decode cX6_ones 17 = .ok (.istore_n 1, 1) := by decide +kernel
theorem dX6_ones_18 : decode cX6_ones 18 = .ok (.iinc 2 1, 3) := by decide +kernel
theorem dX6_ones_21 : decode cX6_ones 21 = .ok (.goto (-17), 3) := by decide +kernel
theorem dX6_ones_24 : decode cX6_ones 24 = .ok (.iload_n 1, 1) := by decide +kernel
theorem dX6_ones_25 : decode cX6_ones 25 = .ok (.ireturn, 1) := by decide +kernel
theorem dX6_longestOf_0 : decode cX6_longestOf 0 = .ok (.aload_n 0, 1) := by decide +kernel
theorem dX6_longestOf_1 : decode cX6_longestOf 1 = .ok (.getfield 7, 3) := by decide +kernel
theorem dX6_longestOf_4 : decode cX6_longestOf 4 = .ok (.sipush 337, 3) := by decide +kernel
theorem dX6_longestOf_7 : decode cX6_longestOf 7 = .ok (.iload_n 1, 1) := by decide +kernel
theorem dX6_longestOf_8 : decode cX6_longestOf 8 = .ok (.iadd, 1) := by decide +kernel
theorem dX6_longestOf_9 : decode cX6_longestOf 9 = .ok (.iaload, 1) := by decide +kernel
theorem dX6_longestOf_10 : decode cX6_longestOf 10 = .ok (.bipush 10, 2) := by decide +kernel
theorem dX6_longestOf_12 : decode cX6_longestOf 12 = .ok (.if_icmp .le 7, 3) := by decide +kernel
theorem dX6_longestOf_15 : decode cX6_longestOf 15 = .ok (.iconst (-1), 1) := by decide +kernel
theorem dX6_longestOf_16 : decode cX6_longestOf 16 = .ok (.goto 9, 3) := by decide +kernel
theorem dX6_longestOf_19 : decode cX6_longestOf 19 = .ok (.aload_n 0, 1) := by decide +kernel
theorem dX6_longestOf_20 : decode cX6_longestOf 20 = .ok (.iload_n 1, 1) := by decide +kernel
theorem dX6_longestOf_21 : decode cX6_longestOf 21 = .ok (.iload_n 2, 1) := by decide +kernel
theorem dX6_longestOf_22 : decode cX6_longestOf 22 = .ok (.invokevirtual 182, 3) := by decide +kernel
theorem dX6_longestOf_25 : decode cX6_longestOf 25 = .ok (.ireturn, 1) := by decide +kernel
theorem dX6_longest_0 : decode cX6_longest 0 = .ok (.aload_n 0, 1) := by decide +kernel
theorem dX6_longest_1 : decode cX6_longest 1 = .ok (.aload_n 0, 1) := by decide +kernel
theorem dX6_longest_2 : decode cX6_longest 2 = .ok (.iload_n 1, 1) := by decide +kernel
theorem dX6_longest_3 : decode cX6_longest 3 = .ok (.invokevirtual 152, 3) := by decide +kernel
theorem dX6_longest_6 : decode cX6_longest 6 = .ok (.ifCond .ne 7, 3) := by decide +kernel
theorem dX6_longest_9 : decode cX6_longest 9 = .ok (.iconst 1, 1) := by decide +kernel
theorem dX6_longest_10 : decode cX6_longest 10 = .ok (.goto 18, 3) := by decide +kernel
theorem dX6_longest_13 : decode cX6_longest 13 = .ok (.iload_n 2, 1) := by decide +kernel
theorem dX6_longest_14 : decode cX6_longest 14 = .ok (.iconst 0, 1) := by decide +kernel
theorem dX6_longest_15 : decode cX6_longest 15 = .ok (.bipush 6, 2) := by decide +kernel
theorem dX6_longest_17 : decode cX6_longest 17 = .ok (.invokestatic 37, 3) := by decide +kernel
theorem dX6_longest_20 : decode cX6_longest 20 = .ok (.ifCond .eq 7, 3) := by decide +kernel
theorem dX6_longest_23 : decode cX6_longest 23 = .ok (.iconst 0, 1) := by decide +kernel
theorem dX6_longest_24 : decode cX6_longest 24 = .ok (.goto 4, 3) := by decide +kernel
theorem dX6_longest_27 : decode cX6_longest 27 = .ok (.iconst 2, 1) := by decide +kernel
theorem dX6_longest_28 : decode cX6_longest 28 = .ok (.invokevirtual 65, 3) := by decide +kernel
theorem dX6_longest_31 : decode cX6_longest 31 = .ok (.ifCond .eq 12, 3) := by decide +kernel
theorem dX6_longest_34 : decode cX6_longest 34 = .ok (.aload_n 0, 1) := by decide +kernel
theorem dX6_longest_35 : decode cX6_longest 35 = .ok (.iload_n 1, 1) := by decide +kernel
theorem dX6_longest_36 : decode cX6_longest 36 = .ok (.iload_n 2, 1) := by decide +kernel
theorem dX6_longest_37 : decode cX6_longest 37 = .ok (.invokevirtual 185, 3) := by decide +kernel
theorem dX6_longest_40 : decode cX6_longest 40 = .ok (.goto 4, 3) := by decide +kernel
theorem dX6_longest_43 : decode cX6_longest 43 = .ok (.iconst 0, 1) := by decide +kernel
theorem dX6_longest_44 : decode cX6_longest 44 = .ok (.ireturn, 1) := by decide +kernel
theorem dX6_wholeOf_0 : decode cX6_wholeOf 0 = .ok (.aload_n 0, 1) := by decide +kernel
theorem dX6_wholeOf_1 : decode cX6_wholeOf 1 = .ok (.iload_n 1, 1) := by decide +kernel
theorem dX6_wholeOf_2 : decode cX6_wholeOf 2 = .ok (.iload_n 2, 1) := by decide +kernel
theorem dX6_wholeOf_3 : decode cX6_wholeOf 3 = .ok (.invokevirtual 185, 3) := by decide +kernel
theorem dX6_wholeOf_6 : decode cX6_wholeOf 6 = .ok (.istore_n 3, 1) := by decide +kernel
theorem dX6_wholeOf_7 : decode cX6_wholeOf 7 = .ok (.iload_n 3, 1) := by decide +kernel
theorem dX6_wholeOf_8 : decode cX6_wholeOf 8 = .ok (.iconst (-1), 1) := by decide +kernel
theorem dX6_wholeOf_9 : decode cX6_wholeOf 9 = .ok (.if_icmp .ne 7, 3) := by decide +kernel
theorem dX6_wholeOf_12 : decode cX6_wholeOf 12 = .ok (.iconst (-1), 1) := by decide +kernel
theorem dX6_wholeOf_13 : decode cX6_wholeOf 13 = .ok (.goto 22, 3) := by decide +kernel
theorem dX6_wholeOf_16 : decode cX6_wholeOf 16 = .ok (.iload_n 3, 1) := by decide +kernel
theorem dX6_wholeOf_17 : decode cX6_wholeOf 17 = .ok (.aload_n 0, 1) := by decide +kernel
theorem dX6_wholeOf_18 : decode cX6_wholeOf 18 = .ok (.getfield 7, 3) := by decide +kernel
theorem dX6_wholeOf_21 : decode cX6_wholeOf 21 = .ok (.sipush 337, 3) := by decide +kernel
theorem dX6_wholeOf_24 : decode cX6_wholeOf 24 = .ok (.iload_n 1, 1) := by decide +kernel
theorem dX6_wholeOf_25 : decode cX6_wholeOf 25 = .ok (.iadd, 1) := by decide +kernel
theorem dX6_wholeOf_26 : decode cX6_wholeOf 26 = .ok (.iaload, 1) := by decide +kernel
theorem dX6_wholeOf_27 : decode cX6_wholeOf 27 = .ok (.if_icmp .ne 7, 3) := by decide +kernel
theorem dX6_wholeOf_30 : decode cX6_wholeOf 30 = .ok (.iconst 1, 1) := by decide +kernel
theorem dX6_wholeOf_31 : decode cX6_wholeOf 31 = .ok (.goto 4, 3) := by decide +kernel
theorem dX6_wholeOf_34 : decode cX6_wholeOf 34 = .ok (.iconst 0, 1) := by decide +kernel
theorem dX6_wholeOf_35 : decode cX6_wholeOf 35 = .ok (.ireturn, 1) := by decide +kernel
theorem dX6_whole_0 : decode cX6_whole 0 = .ok (.iload_n 2, 1) := by decide +kernel
theorem dX6_whole_1 : decode cX6_whole 1 = .ok (.iconst 0, 1) := by decide +kernel
theorem dX6_whole_2 : decode cX6_whole 2 = .ok (.bipush 6, 2) := by decide +kernel
theorem dX6_whole_4 : decode cX6_whole 4 = .ok (.invokestatic 37, 3) := by decide +kernel
theorem dX6_whole_7 : decode cX6_whole 7 = .ok (.ifCond .eq 16, 3) := by decide +kernel
theorem dX6_whole_10 : decode cX6_whole 10 = .ok (.iload_n 3, 1) := by decide +kernel
theorem dX6_whole_11 : decode cX6_whole 11 = .ok (.iconst 0, 1) := by decide +kernel
theorem dX6_whole_12 : decode cX6_whole 12 = .ok (.iconst 1, 1) := by decide +kernel
theorem dX6_whole_13 : decode cX6_whole 13 = .ok (.invokestatic 37, 3) := by decide +kernel
theorem dX6_whole_16 : decode cX6_whole 16 = .ok (.ifCond .eq 7, 3) := by decide +kernel
theorem dX6_whole_19 : decode cX6_whole 19 = .ok (.iconst 1, 1) := by decide +kernel
theorem dX6_whole_20 : decode cX6_whole 20 = .ok (.goto 4, 3) := by decide +kernel
theorem dX6_whole_23 : decode cX6_whole 23 = .ok (.iconst 0, 1) := by decide +kernel
theorem dX6_whole_24 : decode cX6_whole 24 = .ok (.istore 4, 2) := by decide +kernel
theorem dX6_whole_26 : decode cX6_whole 26 = .ok (.aload_n 0, 1) := by decide +kernel
theorem dX6_whole_27 : decode cX6_whole 27 = .ok (.aload_n 0, 1) := by decide +kernel
theorem dX6_whole_28 : decode cX6_whole 28 = .ok (.iload_n 1, 1) := by decide +kernel
theorem dX6_whole_29 : decode cX6_whole 29 = .ok (.invokevirtual 152, 3) := by decide +kernel
theorem dX6_whole_32 : decode cX6_whole 32 = .ok (.ifCond .ne 7, 3) := by decide +kernel
theorem dX6_whole_35 : decode cX6_whole 35 = .ok (.iconst 1, 1) := by decide +kernel
theorem dX6_whole_36 : decode cX6_whole 36 = .ok (.goto 13, 3) := by decide +kernel
theorem dX6_whole_39 : decode cX6_whole 39 = .ok (.iload 4, 2) := by decide +kernel
theorem dX6_whole_41 : decode cX6_whole 41 = .ok (.ifCond .eq 7, 3) := by decide +kernel
theorem dX6_whole_44 : decode cX6_whole 44 = .ok (.iconst 0, 1) := by decide +kernel
theorem dX6_whole_45 : decode cX6_whole 45 = .ok (.goto 4, 3) := by decide +kernel
theorem dX6_whole_48 : decode cX6_whole 48 = .ok (.iconst 2, 1) := by decide +kernel
theorem dX6_whole_49 : decode cX6_whole 49 = .ok (.invokevirtual 65, 3) := by decide +kernel
theorem dX6_whole_52 : decode cX6_whole 52 = .ok (.ifCond .eq 12, 3) := by decide +kernel
theorem dX6_whole_55 : decode cX6_whole 55 = .ok (.aload_n 0, 1) := by decide +kernel
theorem dX6_whole_56 : decode cX6_whole 56 = .ok (.iload_n 1, 1) := by decide +kernel
theorem dX6_whole_57 : decode cX6_whole 57 = .ok (.iload_n 2, 1) := by decide +kernel
theorem dX6_whole_58 : decode cX6_whole 58 = .ok (.invokevirtual 188, 3) := by decide +kernel
theorem dX6_whole_61 : decode cX6_whole 61 = .ok (.goto 4, 3) := by decide +kernel
theorem dX6_whole_64 : decode cX6_whole 64 = .ok (.iconst 0, 1) := by decide +kernel
theorem dX6_whole_65 : decode cX6_whole 65 = .ok (.ireturn, 1) := by decide +kernel
theorem dX6_fitsSomewhere_0 : decode cX6_fitsSomewhere 0 = .ok (.iconst 0, 1) := by decide +kernel
theorem dX6_fitsSomewhere_1 : decode cX6_fitsSomewhere 1 = .ok (.istore_n 2, 1) := by decide +kernel
theorem dX6_fitsSomewhere_2 : decode cX6_fitsSomewhere 2 = .ok (.iconst 0, 1) := by decide +kernel
theorem dX6_fitsSomewhere_3 : decode cX6_fitsSomewhere 3 = .ok (.istore_n 3, 1) := by decide +kernel
theorem dX6_fitsSomewhere_4 : decode cX6_fitsSomewhere 4 = .ok (.iload_n 3, 1) := by decide +kernel
theorem dX6_fitsSomewhere_5 : decode cX6_fitsSomewhere 5 = .ok (.bipush 6, 2) := by decide +kernel
theorem dX6_fitsSomewhere_7 : decode cX6_fitsSomewhere 7 = .ok (.if_icmp .ge 33, 3) := by decide +kernel
theorem dX6_fitsSomewhere_10 : decode cX6_fitsSomewhere 10 = .ok (.iload_n 2, 1) := by decide +kernel
theorem dX6_fitsSomewhere_11 : decode cX6_fitsSomewhere 11 = .ok (.ifCond .ne 17, 3) := by decide +kernel
theorem dX6_fitsSomewhere_14 : decode cX6_fitsSomewhere 14 = .ok (.aload_n 0, 1) := by decide +kernel
theorem dX6_fitsSomewhere_15 : decode cX6_fitsSomewhere 15 = .ok (.iload_n 1, 1) := by decide +kernel
theorem dX6_fitsSomewhere_16 : decode cX6_fitsSomewhere 16 = .ok (.iload_n 3, 1) := by decide +kernel
theorem dX6_fitsSomewhere_17 : decode cX6_fitsSomewhere 17 = .ok (.iconst 2, 1) := by decide +kernel
theorem dX6_fitsSomewhere_18 : decode cX6_fitsSomewhere 18 = .ok (.idiv, 1) := by decide +kernel
theorem dX6_fitsSomewhere_19 : decode cX6_fitsSomewhere 19 = .ok (.iload_n 3, 1) := by decide +kernel
theorem dX6_fitsSomewhere_20 : decode cX6_fitsSomewhere 20 = .ok (.iconst 2, 1) := by decide +kernel
theorem dX6_fitsSomewhere_21 : decode cX6_fitsSomewhere 21 = .ok (.irem, 1) := by decide +kernel
theorem dX6_fitsSomewhere_22 : decode cX6_fitsSomewhere 22 = .ok (.invokevirtual 76, 3) := by decide +kernel
theorem dX6_fitsSomewhere_25 : decode cX6_fitsSomewhere 25 = .ok (.ifCond .eq 7, 3) := by decide +kernel
theorem dX6_fitsSomewhere_28 : decode cX6_fitsSomewhere 28 = .ok (.iconst 1, 1) := by decide +kernel
theorem dX6_fitsSomewhere_29 : decode cX6_fitsSomewhere 29 = .ok (.goto 4, 3) := by decide +kernel
theorem dX6_fitsSomewhere_32 : decode cX6_fitsSomewhere 32 = .ok (.iconst 0, 1) := by decide +kernel
theorem dX6_fitsSomewhere_33 : decode cX6_fitsSomewhere 33 = .ok (.istore_n 2, 1) := by decide +kernel
theorem dX6_fitsSomewhere_34 : decode cX6_fitsSomewhere 34 = .ok (.iinc 3 1, 3) := by decide +kernel
theorem dX6_fitsSomewhere_37 : decode cX6_fitsSomewhere 37 = .ok (.goto (-33), 3) := by decide +kernel
theorem dX6_fitsSomewhere_40 : decode cX6_fitsSomewhere 40 = .ok (.iload_n 2, 1) := by decide +kernel
theorem dX6_fitsSomewhere_41 : decode cX6_fitsSomewhere 41 = .ok (.ireturn, 1) := by decide +kernel
theorem dX6_advised_0 : decode cX6_advised 0 = .ok (.iconst (-1), 1) := by decide +kernel
theorem dX6_advised_1 : decode cX6_advised 1 = .ok (.istore_n 1, 1) := by decide +kernel
theorem dX6_advised_2 : decode cX6_advised 2 = .ok (.iconst 0, 1) := by decide +kernel
theorem dX6_advised_3 : decode cX6_advised 3 = .ok (.istore_n 2, 1) := by decide +kernel
theorem dX6_advised_4 : decode cX6_advised 4 = .ok (.iconst 0, 1) := by decide +kernel
theorem dX6_advised_5 : decode cX6_advised 5 = .ok (.istore_n 3, 1) := by decide +kernel
theorem dX6_advised_6 : decode cX6_advised 6 = .ok (.aload_n 0, 1) := by decide +kernel
theorem dX6_advised_7 : decode cX6_advised 7 = .ok (.getfield 7, 3) := by decide +kernel
theorem dX6_advised_10 : decode cX6_advised 10 = .ok (.sipush 342, 3) := by decide +kernel
theorem dX6_advised_13 : decode cX6_advised 13 = .ok (.iaload, 1) := by decide +kernel
theorem dX6_advised_14 : decode cX6_advised 14 = .ok (.iconst (-1), 1) := by decide +kernel
theorem dX6_advised_15 : decode cX6_advised 15 = .ok (.if_icmp .eq 140, 3) := by decide +kernel
theorem dX6_advised_18 : decode cX6_advised 18 = .ok (.iload_n 3, 1) := by decide +kernel
theorem dX6_advised_19 : decode cX6_advised 19 = .ok (.aload_n 0, 1) := by decide +kernel
theorem dX6_advised_20 : decode cX6_advised 20 = .ok (.getfield 7, 3) := by decide +kernel
theorem dX6_advised_23 : decode cX6_advised 23 = .ok (.sipush 337, 3) := by decide +kernel
theorem dX6_advised_26 : decode cX6_advised 26 = .ok (.aload_n 0, 1) := by decide +kernel
theorem dX6_advised_27 : decode cX6_advised 27 = .ok (.getfield 7, 3) := by decide +kernel
theorem dX6_advised_30 : decode cX6_advised 30 = .ok (.sipush 342, 3) := by decide +kernel
theorem dX6_advised_33 : decode cX6_advised 33 = .ok (.iaload, 1) := by decide +kernel
theorem dX6_advised_34 : decode cX6_advised 34 = .ok (.iadd, 1) := by decide +kernel
theorem dX6_advised_35 : decode cX6_advised 35 = .ok (.iaload, 1) := by decide +kernel
theorem dX6_advised_36 : decode cX6_advised 36 = .ok (.if_icmp .ge 119, 3) := by decide +kernel
theorem dX6_advised_39 : decode cX6_advised 39 = .ok (.aload_n 0, 1) := by decide +kernel
theorem dX6_advised_40 : decode cX6_advised 40 = .ok (.getfield 7, 3) := by decide +kernel
theorem dX6_advised_43 : decode cX6_advised 43 = .ok (.aload_n 0, 1) := by decide +kernel
theorem dX6_advised_44 : decode cX6_advised 44 = .ok (.getfield 7, 3) := by decide +kernel
theorem dX6_advised_47 : decode cX6_advised 47 = .ok (.sipush 342, 3) := by decide +kernel
theorem dX6_advised_50 : decode cX6_advised 50 = .ok (.iaload, 1) := by decide +kernel
theorem dX6_advised_51 : decode cX6_advised 51 = .ok (.iload_n 3, 1) := by decide +kernel
theorem dX6_advised_52 : decode cX6_advised 52 = .ok (.invokestatic 48, 3) := by decide +kernel
theorem dX6_advised_55 : decode cX6_advised 55 = .ok (.iaload, 1) := by decide +kernel
theorem dX6_advised_56 : decode cX6_advised 56 = .ok (.istore 4, 2) := by decide +kernel
theorem dX6_advised_58 : decode cX6_advised 58 = .ok (.sipush 1000, 3) := by decide +kernel
theorem dX6_advised_61 : decode cX6_advised 61 = .ok (.aload_n 0, 1) := by decide +kernel
theorem dX6_advised_62 : decode cX6_advised 62 = .ok (.getfield 7, 3) := by decide +kernel
theorem dX6_advised_65 : decode cX6_advised 65 = .ok (.iload 4, 2) := by decide +kernel
theorem dX6_advised_67 : decode cX6_advised 67 = .ok (.iconst 0, 1) := by decide +kernel
theorem dX6_advised_68 : decode cX6_advised 68 = .ok (.invokestatic 44, 3) := by decide +kernel
theorem dX6_advised_71 : decode cX6_advised 71 = .ok (.iaload, 1) := by decide +kernel
theorem dX6_advised_72 : decode cX6_advised 72 = .ok (.aload_n 0, 1) := by decide +kernel
theorem dX6_advised_73 : decode cX6_advised 73 = .ok (.getfield 7, 3) := by decide +kernel
theorem dX6_advised_76 : decode cX6_advised 76 = .ok (.iload 4, 2) := by decide +kernel
theorem dX6_advised_78 : decode cX6_advised 78 = .ok (.iconst 1, 1) := by decide +kernel
theorem dX6_advised_79 : decode cX6_advised 79 = .ok (.invokestatic 44, 3) := by decide +kernel
theorem dX6_advised_82 : decode cX6_advised 82 = .ok (.iaload, 1) := by decide +kernel
theorem dX6_advised_83 : decode cX6_advised 83 = .ok (.iadd, 1) := by decide +kernel
theorem dX6_advised_84 : decode cX6_advised 84 = .ok (.imul, 1) := by decide +kernel
theorem dX6_advised_85 : decode cX6_advised 85 = .ok (.aload_n 0, 1) := by decide +kernel
theorem dX6_advised_86 : decode cX6_advised 86 = .ok (.getfield 7, 3) := by decide +kernel
theorem dX6_advised_89 : decode cX6_advised 89 = .ok (.iload 4, 2) := by decide +kernel
theorem dX6_advised_91 : decode cX6_advised 91 = .ok (.iconst 4, 1) := by decide +kernel
theorem dX6_advised_92 : decode cX6_advised 92 = .ok (.invokestatic 44, 3) := by decide +kernel
theorem dX6_advised_95 : decode cX6_advised 95 = .ok (.iaload, 1) := by decide +kernel
theorem dX6_advised_96 : decode cX6_advised 96 = .ok (.iadd, 1) := by decide +kernel
theorem dX6_advised_97 : decode cX6_advised 97 = .ok (.istore 5, 2) := by decide +kernel
theorem dX6_advised_99 : decode cX6_advised 99 = .ok (.aload_n 0, 1) := by decide +kernel
theorem dX6_advised_100 : decode cX6_advised 100 = .ok (.iload 4, 2) := by decide +kernel
theorem dX6_advised_102 : decode cX6_advised 102 = .ok (.invokevirtual 191, 3) := by decide +kernel
theorem dX6_advised_105 : decode cX6_advised 105 = .ok (.ifCond .eq 18, 3) := by decide +kernel
theorem dX6_advised_108 : decode cX6_advised 108 = .ok (.iload_n 1, 1) := by decide +kernel
theorem dX6_advised_109 : decode cX6_advised 109 = .ok (.iconst (-1), 1) := by decide +kernel
theorem dX6_advised_110 : decode cX6_advised 110 = .ok (.if_icmp .eq 9, 3) := by decide +kernel
theorem dX6_advised_113 : decode cX6_advised 113 = .ok (.iload 5, 2) := by decide +kernel
theorem dX6_advised_115 : decode cX6_advised 115 = .ok (.iload_n 2, 1) := by decide +kernel
theorem dX6_advised_116 : decode cX6_advised 116 = .ok (.if_icmp .le 7, 3) := by decide +kernel
theorem dX6_advised_119 : decode cX6_advised 119 = .ok (.iconst 1, 1) := by decide +kernel
theorem dX6_advised_120 : decode cX6_advised 120 = .ok (.goto 4, 3) := by decide +kernel
theorem dX6_advised_123 : decode cX6_advised 123 = .ok (.iconst 0, 1) := by decide +kernel
theorem dX6_advised_124 : decode cX6_advised 124 = .ok (.istore 6, 2) := by decide +kernel
theorem dX6_advised_126 : decode cX6_advised 126 = .ok (.iload 6, 2) := by decide +kernel
theorem dX6_advised_128 : decode cX6_advised 128 = .ok (.ifCond .eq 7, 3) := by decide +kernel
theorem dX6_advised_131 : decode cX6_advised 131 = .ok (.iload_n 3, 1) := by decide +kernel
theorem dX6_advised_132 : decode cX6_advised 132 = .ok (.goto 4, 3) := by decide +kernel
theorem dX6_advised_135 : decode cX6_advised 135 = .ok (.iload_n 1, 1) := by decide +kernel
theorem dX6_advised_136 : decode cX6_advised 136 = .ok (.istore_n 1, 1) := by decide +kernel
theorem dX6_advised_137 : decode cX6_advised 137 = .ok (.iload 6, 2) := by decide +kernel
theorem dX6_advised_139 : decode cX6_advised 139 = .ok (.ifCond .eq 8, 3) := by decide +kernel
theorem dX6_advised_142 : decode cX6_advised 142 = .ok (.iload 5, 2) := by decide +kernel
theorem dX6_advised_144 : decode cX6_advised 144 = .ok (.goto 4, 3) := by decide +kernel
theorem dX6_advised_147 : decode cX6_advised 147 = .ok (.iload_n 2, 1) := by decide +kernel
theorem dX6_advised_148 : decode cX6_advised 148 = .ok (.istore_n 2, 1) := by decide +kernel
theorem dX6_advised_149 : decode cX6_advised 149 = .ok (.iinc 3 1, 3) := by decide +kernel
theorem dX6_advised_152 : decode cX6_advised 152 = .ok (.goto (-146), 3) := by decide +kernel
theorem dX6_advised_155 : decode cX6_advised 155 = .ok (.iload_n 1, 1) := by decide +kernel
theorem dX6_advised_156 : decode cX6_advised 156 = .ok (.ireturn, 1) := by decide +kernel
theorem dX6_advice_0 : decode cX6_advice 0 = .ok (.aload_n 0, 1) := by decide +kernel
theorem dX6_advice_1 : decode cX6_advice 1 = .ok (.iconst 0, 1) := by decide +kernel
theorem dX6_advice_2 : decode cX6_advice 2 = .ok (.putfield 33, 3) := by decide +kernel
theorem dX6_advice_5 : decode cX6_advice 5 = .ok (.aload_n 0, 1) := by decide +kernel
theorem dX6_advice_6 : decode cX6_advice 6 = .ok (.invokevirtual 194, 3) := by decide +kernel
theorem dX6_advice_9 : decode cX6_advice 9 = .ok (.ireturn, 1) := by decide +kernel
theorem dX6_halvesOf_0 : decode cX6_halvesOf 0 = .ok (.iconst 0, 1) := by decide +kernel
theorem dX6_halvesOf_1 : decode cX6_halvesOf 1 = .ok (.istore_n 2, 1) := by decide +kernel
theorem dX6_halvesOf_2 : decode cX6_halvesOf 2 = .ok (.iconst 0, 1) := by decide +kernel
theorem dX6_halvesOf_3 : decode cX6_halvesOf 3 = .ok (.istore_n 3, 1) := by decide +kernel
theorem dX6_halvesOf_4 : decode cX6_halvesOf 4 = .ok (.iload_n 3, 1) := by decide +kernel
theorem dX6_halvesOf_5 : decode cX6_halvesOf 5 = .ok (.bipush 56, 2) := by decide +kernel
theorem dX6_halvesOf_7 : decode cX6_halvesOf 7 = .ok (.if_icmp .ge 51, 3) := by decide +kernel
theorem dX6_halvesOf_10 : decode cX6_halvesOf 10 = .ok (.iload_n 2, 1) := by decide +kernel
theorem dX6_halvesOf_11 : decode cX6_halvesOf 11 = .ok (.aload_n 0, 1) := by decide +kernel
theorem dX6_halvesOf_12 : decode cX6_halvesOf 12 = .ok (.getfield 7, 3) := by decide +kernel
theorem dX6_halvesOf_15 : decode cX6_halvesOf 15 = .ok (.iload_n 3, 1) := by decide +kernel
theorem dX6_halvesOf_16 : decode cX6_halvesOf 16 = .ok (.iconst 2, 1) := by decide +kernel
theorem dX6_halvesOf_17 : decode cX6_halvesOf 17 = .ok (.idiv, 1) := by decide +kernel
theorem dX6_halvesOf_18 : decode cX6_halvesOf 18 = .ok (.iconst 2, 1) := by decide +kernel
theorem dX6_halvesOf_19 : decode cX6_halvesOf 19 = .ok (.invokestatic 44, 3) := by decide +kernel
theorem dX6_halvesOf_22 : decode cX6_halvesOf 22 = .ok (.iaload, 1) := by decide +kernel
theorem dX6_halvesOf_23 : decode cX6_halvesOf 23 = .ok (.iconst 2, 1) := by decide +kernel
theorem dX6_halvesOf_24 : decode cX6_halvesOf 24 = .ok (.if_icmp .eq 25, 3) := by decide +kernel
theorem dX6_halvesOf_27 : decode cX6_halvesOf 27 = .ok (.aload_n 0, 1) := by decide +kernel
theorem dX6_halvesOf_28 : decode cX6_halvesOf 28 = .ok (.getfield 7, 3) := by decide +kernel
theorem dX6_halvesOf_31 : decode cX6_halvesOf 31 = .ok (.iload_n 3, 1) := by decide +kernel
theorem dX6_halvesOf_32 : decode cX6_halvesOf 32 = .ok (.iconst 2, 1) := by decide +kernel
theorem dX6_halvesOf_33 : decode cX6_halvesOf 33 = .ok (.idiv, 1) := by decide +kernel
theorem dX6_halvesOf_34 : decode cX6_halvesOf 34 = .ok (.iload_n 3, 1) := by decide +kernel
theorem dX6_halvesOf_35 : decode cX6_halvesOf 35 = .ok (.iconst 2, 1) := by decide +kernel
theorem dX6_halvesOf_36 : decode cX6_halvesOf 36 = .ok (.irem, 1) := by decide +kernel
theorem dX6_halvesOf_37 : decode cX6_halvesOf 37 = .ok (.invokestatic 44, 3) := by decide +kernel
theorem dX6_halvesOf_40 : decode cX6_halvesOf 40 = .ok (.iaload, 1) := by decide +kernel
theorem dX6_halvesOf_41 : decode cX6_halvesOf 41 = .ok (.iload_n 1, 1) := by decide +kernel
theorem dX6_halvesOf_42 : decode cX6_halvesOf 42 = .ok (.if_icmp .ne 7, 3) := by decide +kernel
theorem dX6_halvesOf_45 : decode cX6_halvesOf 45 = .ok (.iconst 1, 1) := by decide +kernel
theorem dX6_halvesOf_46 : decode cX6_halvesOf 46 = .ok (.goto 4, 3) := by decide +kernel
theorem dX6_halvesOf_49 : decode cX6_halvesOf 49 = .ok (.iconst 0, 1) := by decide +kernel
theorem dX6_halvesOf_50 : decode cX6_halvesOf 50 = .ok (.iadd, 1) := by decide +kernel
theorem dX6_halvesOf_51 : decode cX6_halvesOf 51 = .ok (.istore_n 2, 1) := by decide +kernel
theorem dX6_halvesOf_52 : decode cX6_halvesOf 52 = .ok (.iinc 3 1, 3) := by decide +kernel
theorem dX6_halvesOf_55 : decode cX6_halvesOf 55 = .ok (.goto (-51), 3) := by decide +kernel
theorem dX6_halvesOf_58 : decode cX6_halvesOf 58 = .ok (.iload_n 2, 1) := by decide +kernel
theorem dX6_halvesOf_59 : decode cX6_halvesOf 59 = .ok (.ireturn, 1) := by decide +kernel
theorem dX6_commonestGrade_0 : decode cX6_commonestGrade 0 = .ok (.iconst 0, 1) := by decide +kernel
theorem dX6_commonestGrade_1 : decode cX6_commonestGrade 1 = .ok (.istore_n 1, 1) := by decide +kernel
theorem dX6_commonestGrade_2 : decode cX6_commonestGrade 2 = .ok (.iconst 1, 1) := by decide +kernel
theorem dX6_commonestGrade_3 : decode cX6_commonestGrade 3 = .ok (.istore_n 2, 1) := by decide +kernel
theorem dX6_commonestGrade_4 : decode cX6_commonestGrade 4 = .ok (.iload_n 2, 1) := by decide +kernel
theorem dX6_commonestGrade_5 : decode cX6_commonestGrade 5 = .ok (.bipush 7, 2) := by decide +kernel
theorem dX6_commonestGrade_7 : decode cX6_commonestGrade 7 = .ok (.if_icmp .ge 28, 3) := by decide +kernel
theorem dX6_commonestGrade_10 : decode cX6_commonestGrade 10 = .ok (.aload_n 0, 1) := by decide +kernel
theorem dX6_commonestGrade_11 : decode cX6_commonestGrade 11 = .ok (.iload_n 2, 1) := by decide +kernel
theorem dX6_commonestGrade_12 : decode cX6_commonestGrade 12 = .ok (.invokevirtual 197, 3) := by decide +kernel
theorem dX6_commonestGrade_15 : decode cX6_commonestGrade 15 = .ok (.aload_n 0, 1) := by decide +kernel
theorem dX6_commonestGrade_16 : decode cX6_commonestGrade 16 = .ok (.iload_n 1, 1) := by decide +kernel
theorem dX6_commonestGrade_17 : decode cX6_commonestGrade 17 = .ok (.invokevirtual 197, 3) := by decide +kernel
theorem dX6_commonestGrade_20 : decode cX6_commonestGrade 20 = .ok (.if_icmp .lt 7, 3) := by decide +kernel
theorem dX6_commonestGrade_23 : decode cX6_commonestGrade 23 = .ok (.iload_n 2, 1) := by decide +kernel
theorem dX6_commonestGrade_24 : decode cX6_commonestGrade 24 = .ok (.goto 4, 3) := by decide +kernel
theorem dX6_commonestGrade_27 : decode cX6_commonestGrade 27 = .ok (.iload_n 1, 1) := by decide +kernel
theorem dX6_commonestGrade_28 : decode cX6_commonestGrade 28 = .ok (.istore_n 1, 1) := by decide +kernel
theorem dX6_commonestGrade_29 : decode cX6_commonestGrade 29 = .ok (.iinc 2 1, 3) := by decide +kernel
theorem dX6_commonestGrade_32 : decode cX6_commonestGrade 32 = .ok (.goto (-28), 3) := by decide +kernel
theorem dX6_commonestGrade_35 : decode cX6_commonestGrade 35 = .ok (.iload_n 1, 1) := by decide +kernel
theorem dX6_commonestGrade_36 : decode cX6_commonestGrade 36 = .ok (.ireturn, 1) := by decide +kernel
theorem dX6_commonest_0 : decode cX6_commonest 0 = .ok (.aload_n 0, 1) := by decide +kernel
theorem dX6_commonest_1 : decode cX6_commonest 1 = .ok (.iconst 0, 1) := by decide +kernel
theorem dX6_commonest_2 : decode cX6_commonest 2 = .ok (.putfield 33, 3) := by decide +kernel
theorem dX6_commonest_5 : decode cX6_commonest 5 = .ok (.aload_n 0, 1) := by decide +kernel
theorem dX6_commonest_6 : decode cX6_commonest 6 = .ok (.invokevirtual 200, 3) := by decide +kernel
theorem dX6_commonest_9 : decode cX6_commonest 9 = .ok (.ireturn, 1) := by decide +kernel
theorem dX6_share_0 : decode cX6_share 0 = .ok (.aload_n 0, 1) := by decide +kernel
theorem dX6_share_1 : decode cX6_share 1 = .ok (.sipush 346, 3) := by decide +kernel
theorem dX6_share_4 : decode cX6_share 4 = .ok (.invokevirtual 167, 3) := by decide +kernel
theorem dX6_share_7 : decode cX6_share 7 = .ok (.i2d, 1) := by decide +kernel
theorem dX6_share_8 : decode cX6_share 8 = .ok (.ldc2_w 203, 3) := by decide +kernel
theorem dX6_share_11 : decode cX6_share 11 = .ok (.ddiv, 1) := by decide +kernel
theorem dX6_share_12 : decode cX6_share 12 = .ok (.dreturn, 1) := by decide +kernel
theorem dX6_rustShare_0 : decode cX6_rustShare 0 = .ok (.aload_n 0, 1) := by decide +kernel
theorem dX6_rustShare_1 : decode cX6_rustShare 1 = .ok (.iconst 0, 1) := by decide +kernel
theorem dX6_rustShare_2 : decode cX6_rustShare 2 = .ok (.putfield 33, 3) := by decide +kernel
theorem dX6_rustShare_5 : decode cX6_rustShare 5 = .ok (.aload_n 0, 1) := by decide +kernel
theorem dX6_rustShare_6 : decode cX6_rustShare 6 = .ok (.invokevirtual 205, 3) := by decide +kernel
theorem dX6_rustShare_9 : decode cX6_rustShare 9 = .ok (.dreturn, 1) := by decide +kernel
theorem dX6_bitsOf_0 : decode cX6_bitsOf 0 = .ok (.dload_n 0, 1) := by decide +kernel
theorem dX6_bitsOf_1 : decode cX6_bitsOf 1 = .ok (.dconst 0, 1) := by decide +kernel
theorem dX6_bitsOf_2 : decode cX6_bitsOf 2 = .ok (.dcmp .l, 1) := by decide +kernel
theorem dX6_bitsOf_3 : decode cX6_bitsOf 3 = .ok (.ifCond .ne 5, 3) := by decide +kernel
theorem dX6_bitsOf_6 : decode cX6_bitsOf 6 = .ok (.lconst 0, 1) := by decide +kernel
theorem dX6_bitsOf_7 : decode cX6_bitsOf 7 = .ok (.lreturn, 1) := by decide +kernel
theorem dX6_bitsOf_8 : decode cX6_bitsOf 8 = .ok (.ldc2_w 209, 3) := by decide +kernel
theorem dX6_bitsOf_11 : decode cX6_bitsOf 11 = .ok (.lstore_n 2, 1) := by decide +kernel
theorem dX6_bitsOf_12 : decode cX6_bitsOf 12 = .ok (.dload_n 0, 1) := by decide +kernel
theorem dX6_bitsOf_13 : decode cX6_bitsOf 13 = .ok (.dstore 4, 2) := by decide +kernel
theorem dX6_bitsOf_15 : decode cX6_bitsOf 15 = .ok (.dload 4, 2) := by decide +kernel
theorem dX6_bitsOf_17 : decode cX6_bitsOf 17 = .ok (.dconst 1, 1) := by decide +kernel
theorem dX6_bitsOf_18 : decode cX6_bitsOf 18 = .ok (.dcmp .g, 1) := by decide +kernel
theorem dX6_bitsOf_19 : decode cX6_bitsOf 19 = .ok (.ifCond .ge 18, 3) := by decide +kernel
theorem dX6_bitsOf_22 : decode cX6_bitsOf 22 = .ok (.dload 4, 2) := by decide +kernel
theorem dX6_bitsOf_24 : decode cX6_bitsOf 24 = .ok (.ldc2_w 211, 3) := by decide +kernel
theorem dX6_bitsOf_27 : decode cX6_bitsOf 27 = .ok (.dmul, 1) := by decide +kernel
theorem dX6_bitsOf_28 : decode cX6_bitsOf 28 = .ok (.dstore 4, 2) := by decide +kernel
theorem dX6_bitsOf_30 : decode cX6_bitsOf 30 = .ok (.lload_n 2, 1) := by decide +kernel
theorem dX6_bitsOf_31 : decode cX6_bitsOf 31 = .ok (.lconst 1, 1) := by decide +kernel
theorem dX6_bitsOf_32 : decode cX6_bitsOf 32 = .ok (.lsub, 1) := by decide +kernel
theorem dX6_bitsOf_33 : decode cX6_bitsOf 33 = .ok (.lstore_n 2, 1) := by decide +kernel
theorem dX6_bitsOf_34 : decode cX6_bitsOf 34 = .ok (.goto (-19), 3) := by decide +kernel
theorem dX6_bitsOf_37 : decode cX6_bitsOf 37 = .ok (.lload_n 2, 1) := by decide +kernel
theorem dX6_bitsOf_38 : decode cX6_bitsOf 38 = .ok (.ldc2_w 213, 3) := by decide +kernel
theorem dX6_bitsOf_41 : decode cX6_bitsOf 41 = .ok (.lmul, 1) := by decide +kernel
theorem dX6_bitsOf_42 : decode cX6_bitsOf 42 = .ok (.dload 4, 2) := by decide +kernel
theorem dX6_bitsOf_44 : decode cX6_bitsOf 44 = .ok (.dconst 1, 1) := by decide +kernel
theorem dX6_bitsOf_45 : decode cX6_bitsOf 45 = .ok (.dsub, 1) := by decide +kernel
theorem dX6_bitsOf_46 : decode cX6_bitsOf 46 = .ok (.ldc2_w 215, 3) := by decide +kernel
theorem dX6_bitsOf_49 : decode cX6_bitsOf 49 = .ok (.dmul, 1) := by decide +kernel
theorem dX6_bitsOf_50 : decode cX6_bitsOf 50 = .ok (.d2l, 1) := by decide +kernel
theorem dX6_bitsOf_51 : decode cX6_bitsOf 51 = .ok (.ladd, 1) := by decide +kernel
theorem dX6_bitsOf_52 : decode cX6_bitsOf 52 = .ok (.lreturn, 1) := by decide +kernel
theorem dX6_digestOne_0 : decode cX6_digestOne 0 = .ok (.aload_n 0, 1) := by decide +kernel
theorem dX6_digestOne_1 : decode cX6_digestOne 1 = .ok (.ldc2_w 217, 3) := by decide +kernel
theorem dX6_digestOne_4 : decode cX6_digestOne 4 = .ok (.aload_n 0, 1) := by decide +kernel
theorem dX6_digestOne_5 : decode cX6_digestOne 5 = .ok (.getfield 219, 3) := by decide +kernel
theorem dX6_digestOne_8 : decode cX6_digestOne 8 = .ok (.lmul, 1) := by decide +kernel
theorem dX6_digestOne_9 : decode cX6_digestOne 9 = .ok (.lload_n 1, 1) := by decide +kernel
theorem dX6_digestOne_10 : decode cX6_digestOne 10 = .ok (.ladd, 1) := by decide +kernel
theorem dX6_digestOne_11 : decode cX6_digestOne 11 = .ok (.putfield 219, 3) := by decide +kernel
theorem dX6_digestOne_14 : decode cX6_digestOne 14 = .ok (.return_, 1) := by decide +kernel
theorem dX6_digestPlayer_0 : decode cX6_digestPlayer 0 = .ok (.iconst 0, 1) := by decide +kernel
theorem dX6_digestPlayer_1 : decode cX6_digestPlayer 1 = .ok (.istore_n 2, 1) := by decide +kernel
theorem dX6_digestPlayer_2 : decode cX6_digestPlayer 2 = .ok (.iload_n 2, 1) := by decide +kernel
theorem dX6_digestPlayer_3 : decode cX6_digestPlayer 3 = .ok (.bipush 7, 2) := by decide +kernel
theorem dX6_digestPlayer_5 : decode cX6_digestPlayer 5 = .ok (.if_icmp .ge 20, 3) := by decide +kernel
theorem dX6_digestPlayer_8 : decode cX6_digestPlayer 8 = .ok (.aload_n 0, 1) := by decide +kernel
theorem dX6_digestPlayer_9 : decode cX6_digestPlayer 9 = .ok (.aload_n 0, 1) := by decide +kernel
theorem dX6_digestPlayer_10 : decode cX6_digestPlayer 10 = .ok (.iload_n 1, 1) := by decide +kernel
theorem dX6_digestPlayer_11 : decode cX6_digestPlayer 11 = .ok (.iload_n 2, 1) := by decide +kernel
theorem dX6_digestPlayer_12 : decode cX6_digestPlayer 12 = .ok (.invokevirtual 164, 3) := by decide +kernel
theorem dX6_digestPlayer_15 : decode cX6_digestPlayer 15 = .ok (.i2l, 1) := by decide +kernel
theorem dX6_digestPlayer_16 : decode cX6_digestPlayer 16 = .ok (.invokevirtual 223, 3) := by decide +kernel
theorem dX6_digestPlayer_19 : decode cX6_digestPlayer 19 = .ok (.iinc 2 1, 3) := by decide +kernel
theorem dX6_digestPlayer_22 : decode cX6_digestPlayer 22 = .ok (.goto (-20), 3) := by decide +kernel
theorem dX6_digestPlayer_25 : decode cX6_digestPlayer 25 = .ok (.iconst 0, 1) := by decide +kernel
theorem dX6_digestPlayer_26 : decode cX6_digestPlayer 26 = .ok (.istore_n 2, 1) := by decide +kernel
theorem dX6_digestPlayer_27 : decode cX6_digestPlayer 27 = .ok (.iload_n 2, 1) := by decide +kernel
theorem dX6_digestPlayer_28 : decode cX6_digestPlayer 28 = .ok (.aload_n 0, 1) := by decide +kernel
theorem dX6_digestPlayer_29 : decode cX6_digestPlayer 29 = .ok (.getfield 7, 3) := by decide +kernel
theorem dX6_digestPlayer_32 : decode cX6_digestPlayer 32 = .ok (.sipush 337, 3) := by decide +kernel
theorem dX6_digestPlayer_35 : decode cX6_digestPlayer 35 = .ok (.iload_n 1, 1) := by decide +kernel
theorem dX6_digestPlayer_36 : decode cX6_digestPlayer 36 = .ok (.iadd, 1) := by decide +kernel
theorem dX6_digestPlayer_37 : decode cX6_digestPlayer 37 = .ok (.iaload, 1) := by decide +kernel
theorem dX6_digestPlayer_38 : decode cX6_digestPlayer 38 = .ok (.if_icmp .ge 24, 3) := by decide +kernel
theorem dX6_digestPlayer_41 : decode cX6_digestPlayer 41 = .ok (.aload_n 0, 1) := by decide +kernel
theorem dX6_digestPlayer_42 : decode cX6_digestPlayer 42 = .ok (.aload_n 0, 1) := by decide +kernel
theorem dX6_digestPlayer_43 : decode cX6_digestPlayer 43 = .ok (.getfield 7, 3) := by decide +kernel
theorem dX6_digestPlayer_46 : decode cX6_digestPlayer 46 = .ok (.iload_n 1, 1) := by decide +kernel
theorem dX6_digestPlayer_47 : decode cX6_digestPlayer 47 = .ok (.iload_n 2, 1) := by decide +kernel
theorem dX6_digestPlayer_48 : decode cX6_digestPlayer 48 = .ok (.invokestatic 48, 3) := by decide +kernel
theorem dX6_digestPlayer_51 : decode cX6_digestPlayer 51 = .ok (.iaload, 1) := by decide +kernel
theorem dX6_digestPlayer_52 : decode cX6_digestPlayer 52 = .ok (.i2l, 1) := by decide +kernel
theorem dX6_digestPlayer_53 : decode cX6_digestPlayer 53 = .ok (.invokevirtual 223, 3) := by decide +kernel
theorem dX6_digestPlayer_56 : decode cX6_digestPlayer 56 = .ok (.iinc 2 1, 3) := by decide +kernel
theorem dX6_digestPlayer_59 : decode cX6_digestPlayer 59 = .ok (.goto (-32), 3) := by decide +kernel
theorem dX6_digestPlayer_62 : decode cX6_digestPlayer 62 = .ok (.iconst 0, 1) := by decide +kernel
theorem dX6_digestPlayer_63 : decode cX6_digestPlayer 63 = .ok (.istore_n 2, 1) := by decide +kernel
theorem dX6_digestPlayer_64 : decode cX6_digestPlayer 64 = .ok (.iload_n 2, 1) := by decide +kernel
theorem dX6_digestPlayer_65 : decode cX6_digestPlayer 65 = .ok (.bipush 7, 2) := by decide +kernel
theorem dX6_digestPlayer_67 : decode cX6_digestPlayer 67 = .ok (.if_icmp .ge 42, 3) := by decide +kernel
theorem dX6_digestPlayer_70 : decode cX6_digestPlayer 70 = .ok (.aload_n 0, 1) := by decide +kernel
theorem dX6_digestPlayer_71 : decode cX6_digestPlayer 71 = .ok (.aload_n 0, 1) := by decide +kernel
theorem dX6_digestPlayer_72 : decode cX6_digestPlayer 72 = .ok (.iload_n 1, 1) := by decide +kernel
theorem dX6_digestPlayer_73 : decode cX6_digestPlayer 73 = .ok (.iload_n 2, 1) := by decide +kernel
theorem dX6_digestPlayer_74 : decode cX6_digestPlayer 74 = .ok (.invokevirtual 185, 3) := by decide +kernel
theorem dX6_digestPlayer_77 : decode cX6_digestPlayer 77 = .ok (.i2l, 1) := by decide +kernel
theorem dX6_digestPlayer_78 : decode cX6_digestPlayer 78 = .ok (.invokevirtual 223, 3) := by decide +kernel
theorem dX6_digestPlayer_81 : decode cX6_digestPlayer 81 = .ok (.aload_n 0, 1) := by decide +kernel
theorem dX6_digestPlayer_82 : decode cX6_digestPlayer 82 = .ok (.aload_n 0, 1) := by decide +kernel
theorem dX6_digestPlayer_83 : decode cX6_digestPlayer 83 = .ok (.iload_n 1, 1) := by decide +kernel
theorem dX6_digestPlayer_84 : decode cX6_digestPlayer 84 = .ok (.iload_n 2, 1) := by decide +kernel
theorem dX6_digestPlayer_85 : decode cX6_digestPlayer 85 = .ok (.invokevirtual 188, 3) := by decide +kernel
theorem dX6_digestPlayer_88 : decode cX6_digestPlayer 88 = .ok (.i2l, 1) := by decide +kernel
theorem dX6_digestPlayer_89 : decode cX6_digestPlayer 89 = .ok (.invokevirtual 223, 3) := by decide +kernel
theorem dX6_digestPlayer_92 : decode cX6_digestPlayer 92 = .ok (.aload_n 0, 1) := by decide +kernel
theorem dX6_digestPlayer_93 : decode cX6_digestPlayer 93 = .ok (.aload_n 0, 1) := by decide +kernel
theorem dX6_digestPlayer_94 : decode cX6_digestPlayer 94 = .ok (.iload_n 1, 1) := by decide +kernel
theorem dX6_digestPlayer_95 : decode cX6_digestPlayer 95 = .ok (.iload_n 2, 1) := by decide +kernel
theorem dX6_digestPlayer_96 : decode cX6_digestPlayer 96 = .ok (.invokevirtual 188, 3) := by decide +kernel
theorem dX6_digestPlayer_99 : decode cX6_digestPlayer 99 = .ok (.i2l, 1) := by decide +kernel
theorem dX6_digestPlayer_100 : decode cX6_digestPlayer 100 = .ok (.invokevirtual 223, 3) := by decide +kernel
theorem dX6_digestPlayer_103 : decode cX6_digestPlayer 103 = .ok (.iinc 2 1, 3) := by decide +kernel
theorem dX6_digestPlayer_106 : decode cX6_digestPlayer 106 = .ok (.goto (-42), 3) := by decide +kernel
theorem dX6_digestPlayer_109 : decode cX6_digestPlayer 109 = .ok (.return_, 1) := by decide +kernel
theorem dX6_digest_0 : decode cX6_digest 0 = .ok (.aload_n 0, 1) := by decide +kernel
theorem dX6_digest_1 : decode cX6_digest 1 = .ok (.iconst 0, 1) := by decide +kernel
theorem dX6_digest_2 : decode cX6_digest 2 = .ok (.putfield 33, 3) := by decide +kernel
theorem dX6_digest_5 : decode cX6_digest 5 = .ok (.aload_n 0, 1) := by decide +kernel
theorem dX6_digest_6 : decode cX6_digest 6 = .ok (.ldc2_w 227, 3) := by decide +kernel
theorem dX6_digest_9 : decode cX6_digest 9 = .ok (.putfield 219, 3) := by decide +kernel
theorem dX6_digest_12 : decode cX6_digest 12 = .ok (.iconst 0, 1) := by decide +kernel
theorem dX6_digest_13 : decode cX6_digest 13 = .ok (.istore_n 1, 1) := by decide +kernel
theorem dX6_digest_14 : decode cX6_digest 14 = .ok (.iload_n 1, 1) := by decide +kernel
theorem dX6_digest_15 : decode cX6_digest 15 = .ok (.bipush 12, 2) := by decide +kernel
theorem dX6_digest_17 : decode cX6_digest 17 = .ok (.if_icmp .ge 19, 3) := by decide +kernel
theorem dX6_digest_20 : decode cX6_digest 20 = .ok (.aload_n 0, 1) := by decide +kernel
theorem dX6_digest_21 : decode cX6_digest 21 = .ok (.aload_n 0, 1) := by decide +kernel
theorem dX6_digest_22 : decode cX6_digest 22 = .ok (.iload_n 1, 1) := by decide +kernel
theorem dX6_digest_23 : decode cX6_digest 23 = .ok (.invokevirtual 173, 3) := by decide +kernel
theorem dX6_digest_26 : decode cX6_digest 26 = .ok (.i2l, 1) := by decide +kernel
theorem dX6_digest_27 : decode cX6_digest 27 = .ok (.invokevirtual 223, 3) := by decide +kernel
theorem dX6_digest_30 : decode cX6_digest 30 = .ok (.iinc 1 1, 3) := by decide +kernel
theorem dX6_digest_33 : decode cX6_digest 33 = .ok (.goto (-19), 3) := by decide +kernel
theorem dX6_digest_36 : decode cX6_digest 36 = .ok (.aload_n 0, 1) := by decide +kernel
theorem dX6_digest_37 : decode cX6_digest 37 = .ok (.aload_n 0, 1) := by decide +kernel
theorem dX6_digest_38 : decode cX6_digest 38 = .ok (.getfield 7, 3) := by decide +kernel
theorem dX6_digest_41 : decode cX6_digest 41 = .ok (.sipush 359, 3) := by decide +kernel
theorem dX6_digest_44 : decode cX6_digest 44 = .ok (.iaload, 1) := by decide +kernel
theorem dX6_digest_45 : decode cX6_digest 45 = .ok (.i2l, 1) := by decide +kernel
theorem dX6_digest_46 : decode cX6_digest 46 = .ok (.invokevirtual 223, 3) := by decide +kernel
theorem dX6_digest_49 : decode cX6_digest 49 = .ok (.iconst 0, 1) := by decide +kernel
theorem dX6_digest_50 : decode cX6_digest 50 = .ok (.istore_n 1, 1) := by decide +kernel
theorem dX6_digest_51 : decode cX6_digest 51 = .ok (.iload_n 1, 1) := by decide +kernel
theorem dX6_digest_52 : decode cX6_digest 52 = .ok (.sipush 196, 3) := by decide +kernel
theorem dX6_digest_55 : decode cX6_digest 55 = .ok (.if_icmp .ge 22, 3) := by decide +kernel
theorem dX6_digest_58 : decode cX6_digest 58 = .ok (.aload_n 0, 1) := by decide +kernel
theorem dX6_digest_59 : decode cX6_digest 59 = .ok (.aload_n 0, 1) := by decide +kernel
theorem dX6_digest_60 : decode cX6_digest 60 = .ok (.getfield 7, 3) := by decide +kernel
theorem dX6_digest_63 : decode cX6_digest 63 = .ok (.iconst 0, 1) := by decide +kernel
theorem dX6_digest_64 : decode cX6_digest 64 = .ok (.iload_n 1, 1) := by decide +kernel
theorem dX6_digest_65 : decode cX6_digest 65 = .ok (.iadd, 1) := by decide +kernel
theorem dX6_digest_66 : decode cX6_digest 66 = .ok (.iaload, 1) := by decide +kernel
theorem dX6_digest_67 : decode cX6_digest 67 = .ok (.i2l, 1) := by decide +kernel
theorem dX6_digest_68 : decode cX6_digest 68 = .ok (.invokevirtual 223, 3) := by decide +kernel
theorem dX6_digest_71 : decode cX6_digest 71 = .ok (.iinc 1 1, 3) := by decide +kernel
theorem dX6_digest_74 : decode cX6_digest 74 = .ok (.goto (-23), 3) := by decide +kernel
theorem dX6_digest_77 : decode cX6_digest 77 = .ok (.iconst 0, 1) := by decide +kernel
theorem dX6_digest_78 : decode cX6_digest 78 = .ok (.istore_n 1, 1) := by decide +kernel
theorem dX6_digest_79 : decode cX6_digest 79 = .ok (.iload_n 1, 1) := by decide +kernel
theorem dX6_digest_80 : decode cX6_digest 80 = .ok (.aload_n 0, 1) := by decide +kernel
theorem dX6_digest_81 : decode cX6_digest 81 = .ok (.getfield 7, 3) := by decide +kernel
theorem dX6_digest_84 : decode cX6_digest 84 = .ok (.sipush 341, 3) := by decide +kernel
theorem dX6_digest_87 : decode cX6_digest 87 = .ok (.iaload, 1) := by decide +kernel
theorem dX6_digest_88 : decode cX6_digest 88 = .ok (.if_icmp .ge 14, 3) := by decide +kernel
theorem dX6_digest_91 : decode cX6_digest 91 = .ok (.aload_n 0, 1) := by decide +kernel
theorem dX6_digest_92 : decode cX6_digest 92 = .ok (.iload_n 1, 1) := by decide +kernel
theorem dX6_digest_93 : decode cX6_digest 93 = .ok (.invokevirtual 229, 3) := by decide +kernel
theorem dX6_digest_96 : decode cX6_digest 96 = .ok (.iinc 1 1, 3) := by decide +kernel
theorem dX6_digest_99 : decode cX6_digest 99 = .ok (.goto (-20), 3) := by decide +kernel
theorem dX6_digest_102 : decode cX6_digest 102 = .ok (.iconst 0, 1) := by decide +kernel
theorem dX6_digest_103 : decode cX6_digest 103 = .ok (.istore_n 1, 1) := by decide +kernel
theorem dX6_digest_104 : decode cX6_digest 104 = .ok (.iload_n 1, 1) := by decide +kernel
theorem dX6_digest_105 : decode cX6_digest 105 = .ok (.bipush 12, 2) := by decide +kernel
theorem dX6_digest_107 : decode cX6_digest 107 = .ok (.if_icmp .ge 24, 3) := by decide +kernel
theorem dX6_digest_110 : decode cX6_digest 110 = .ok (.aload_n 0, 1) := by decide +kernel
theorem dX6_digest_111 : decode cX6_digest 111 = .ok (.aload_n 0, 1) := by decide +kernel
theorem dX6_digest_112 : decode cX6_digest 112 = .ok (.getfield 7, 3) := by decide +kernel
theorem dX6_digest_115 : decode cX6_digest 115 = .ok (.sipush 360, 3) := by decide +kernel
theorem dX6_digest_118 : decode cX6_digest 118 = .ok (.iload_n 1, 1) := by decide +kernel
theorem dX6_digest_119 : decode cX6_digest 119 = .ok (.iadd, 1) := by decide +kernel
theorem dX6_digest_120 : decode cX6_digest 120 = .ok (.iaload, 1) := by decide +kernel
theorem dX6_digest_121 : decode cX6_digest 121 = .ok (.i2l, 1) := by decide +kernel
theorem dX6_digest_122 : decode cX6_digest 122 = .ok (.invokevirtual 223, 3) := by decide +kernel
theorem dX6_digest_125 : decode cX6_digest 125 = .ok (.iinc 1 1, 3) := by decide +kernel
theorem dX6_digest_128 : decode cX6_digest 128 = .ok (.goto (-24), 3) := by decide +kernel
theorem dX6_digest_131 : decode cX6_digest 131 = .ok (.aload_n 0, 1) := by decide +kernel
theorem dX6_digest_132 : decode cX6_digest 132 = .ok (.getfield 7, 3) := by decide +kernel
theorem dX6_digest_135 : decode cX6_digest 135 = .ok (.sipush 224, 3) := by decide +kernel
theorem dX6_digest_138 : decode cX6_digest 138 = .ok (.iaload, 1) := by decide +kernel
theorem dX6_digest_139 : decode cX6_digest 139 = .ok (.istore_n 1, 1) := by decide +kernel
theorem dX6_digest_140 : decode cX6_digest 140 = .ok (.iload_n 1, 1) := by decide +kernel
theorem dX6_digest_141 : decode cX6_digest 141 = .ok (.bipush 28, 2) := by decide +kernel
theorem dX6_digest_143 : decode cX6_digest 143 = .ok (.if_icmp .ge 24, 3) := by decide +kernel
theorem dX6_digest_146 : decode cX6_digest 146 = .ok (.aload_n 0, 1) := by decide +kernel
theorem dX6_digest_147 : decode cX6_digest 147 = .ok (.aload_n 0, 1) := by decide +kernel
theorem dX6_digest_148 : decode cX6_digest 148 = .ok (.getfield 7, 3) := by decide +kernel
theorem dX6_digest_151 : decode cX6_digest 151 = .ok (.sipush 196, 3) := by decide +kernel
theorem dX6_digest_154 : decode cX6_digest 154 = .ok (.iload_n 1, 1) := by decide +kernel
theorem dX6_digest_155 : decode cX6_digest 155 = .ok (.iadd, 1) := by decide +kernel
theorem dX6_digest_156 : decode cX6_digest 156 = .ok (.iaload, 1) := by decide +kernel
theorem dX6_digest_157 : decode cX6_digest 157 = .ok (.i2l, 1) := by decide +kernel
theorem dX6_digest_158 : decode cX6_digest 158 = .ok (.invokevirtual 223, 3) := by decide +kernel
theorem dX6_digest_161 : decode cX6_digest 161 = .ok (.iinc 1 1, 3) := by decide +kernel
theorem dX6_digest_164 : decode cX6_digest 164 = .ok (.goto (-24), 3) := by decide +kernel
theorem dX6_digest_167 : decode cX6_digest 167 = .ok (.aload_n 0, 1) := by decide +kernel
theorem dX6_digest_168 : decode cX6_digest 168 = .ok (.aload_n 0, 1) := by decide +kernel
theorem dX6_digest_169 : decode cX6_digest 169 = .ok (.invokevirtual 194, 3) := by decide +kernel
theorem dX6_digest_172 : decode cX6_digest 172 = .ok (.i2l, 1) := by decide +kernel
theorem dX6_digest_173 : decode cX6_digest 173 = .ok (.invokevirtual 223, 3) := by decide +kernel
theorem dX6_digest_176 : decode cX6_digest 176 = .ok (.aload_n 0, 1) := by decide +kernel
theorem dX6_digest_177 : decode cX6_digest 177 = .ok (.aload_n 0, 1) := by decide +kernel
theorem dX6_digest_178 : decode cX6_digest 178 = .ok (.invokevirtual 200, 3) := by decide +kernel
theorem dX6_digest_181 : decode cX6_digest 181 = .ok (.i2l, 1) := by decide +kernel
theorem dX6_digest_182 : decode cX6_digest 182 = .ok (.invokevirtual 223, 3) := by decide +kernel
theorem dX6_digest_185 : decode cX6_digest 185 = .ok (.aload_n 0, 1) := by decide +kernel
theorem dX6_digest_186 : decode cX6_digest 186 = .ok (.aload_n 0, 1) := by decide +kernel
theorem dX6_digest_187 : decode cX6_digest 187 = .ok (.invokevirtual 205, 3) := by decide +kernel
theorem dX6_digest_190 : decode cX6_digest 190 = .ok (.invokestatic 232, 3) := by decide +kernel
theorem dX6_digest_193 : decode cX6_digest 193 = .ok (.invokevirtual 223, 3) := by decide +kernel
theorem dX6_digest_196 : decode cX6_digest 196 = .ok (.aload_n 0, 1) := by decide +kernel
theorem dX6_digest_197 : decode cX6_digest 197 = .ok (.aload_n 0, 1) := by decide +kernel
theorem dX6_digest_198 : decode cX6_digest 198 = .ok (.getfield 149, 3) := by decide +kernel
theorem dX6_digest_201 : decode cX6_digest 201 = .ok (.iconst 1, 1) := by decide +kernel
theorem dX6_digest_202 : decode cX6_digest 202 = .ok (.iand, 1) := by decide +kernel
theorem dX6_digest_203 : decode cX6_digest 203 = .ok (.i2l, 1) := by decide +kernel
theorem dX6_digest_204 : decode cX6_digest 204 = .ok (.invokevirtual 223, 3) := by decide +kernel
theorem dX6_digest_207 : decode cX6_digest 207 = .ok (.aload_n 0, 1) := by decide +kernel
theorem dX6_digest_208 : decode cX6_digest 208 = .ok (.aload_n 0, 1) := by decide +kernel
theorem dX6_digest_209 : decode cX6_digest 209 = .ok (.getfield 149, 3) := by decide +kernel
theorem dX6_digest_212 : decode cX6_digest 212 = .ok (.iconst 1, 1) := by decide +kernel
theorem dX6_digest_213 : decode cX6_digest 213 = .ok (.ishr, 1) := by decide +kernel
theorem dX6_digest_214 : decode cX6_digest 214 = .ok (.iconst 1, 1) := by decide +kernel
theorem dX6_digest_215 : decode cX6_digest 215 = .ok (.iand, 1) := by decide +kernel
theorem dX6_digest_216 : decode cX6_digest 216 = .ok (.i2l, 1) := by decide +kernel
theorem dX6_digest_217 : decode cX6_digest 217 = .ok (.invokevirtual 223, 3) := by decide +kernel
theorem dX6_digest_220 : decode cX6_digest 220 = .ok (.aload_n 0, 1) := by decide +kernel
theorem dX6_digest_221 : decode cX6_digest 221 = .ok (.aload_n 0, 1) := by decide +kernel
theorem dX6_digest_222 : decode cX6_digest 222 = .ok (.getfield 109, 3) := by decide +kernel
theorem dX6_digest_225 : decode cX6_digest 225 = .ok (.i2l, 1) := by decide +kernel
theorem dX6_digest_226 : decode cX6_digest 226 = .ok (.invokevirtual 223, 3) := by decide +kernel
theorem dX6_digest_229 : decode cX6_digest 229 = .ok (.iconst 0, 1) := by decide +kernel
theorem dX6_digest_230 : decode cX6_digest 230 = .ok (.istore_n 1, 1) := by decide +kernel
theorem dX6_digest_231 : decode cX6_digest 231 = .ok (.iload_n 1, 1) := by decide +kernel
theorem dX6_digest_232 : decode cX6_digest 232 = .ok (.aload_n 0, 1) := by decide +kernel
theorem dX6_digest_233 : decode cX6_digest 233 = .ok (.getfield 109, 3) := by decide +kernel
theorem dX6_digest_236 : decode cX6_digest 236 = .ok (.if_icmp .ge 20, 3) := by decide +kernel
theorem dX6_digest_239 : decode cX6_digest 239 = .ok (.aload_n 0, 1) := by decide +kernel
theorem dX6_digest_240 : decode cX6_digest 240 = .ok (.aload_n 0, 1) := by decide +kernel
theorem dX6_digest_241 : decode cX6_digest 241 = .ok (.getfield 19, 3) := by decide +kernel
theorem dX6_digest_244 : decode cX6_digest 244 = .ok (.iload_n 1, 1) := by decide +kernel
theorem dX6_digest_245 : decode cX6_digest 245 = .ok (.iaload, 1) := by decide +kernel
theorem dX6_digest_246 : decode cX6_digest 246 = .ok (.i2l, 1) := by decide +kernel
theorem dX6_digest_247 : decode cX6_digest 247 = .ok (.invokevirtual 223, 3) := by decide +kernel
theorem dX6_digest_250 : decode cX6_digest 250 = .ok (.iinc 1 1, 3) := by decide +kernel
theorem dX6_digest_253 : decode cX6_digest 253 = .ok (.goto (-22), 3) := by decide +kernel
theorem dX6_digest_256 : decode cX6_digest 256 = .ok (.aload_n 0, 1) := by decide +kernel
theorem dX6_digest_257 : decode cX6_digest 257 = .ok (.getfield 219, 3) := by decide +kernel
theorem dX6_digest_260 : decode cX6_digest 260 = .ok (.lreturn, 1) := by decide +kernel
