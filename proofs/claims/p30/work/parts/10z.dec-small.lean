/-! decode rows, as printed -/
theorem dX1_init_0 : decode cX1_init 0 = .ok (.aload_n 0, 1) := by decide +kernel
theorem dX1_init_1 : decode cX1_init 1 = .ok (.invokespecial 3, 3) := by decide +kernel
theorem dX1_init_4 : decode cX1_init 4 = .ok (.aload_n 0, 1) := by decide +kernel
theorem dX1_init_5 : decode cX1_init 5 = .ok (.bipush 6, 2) := by decide +kernel
theorem dX1_init_7 : decode cX1_init 7 = .ok (.anewarray 9, 3) := by decide +kernel
theorem dX1_init_10 : decode cX1_init 10 = .ok (.putfield 11, 3) := by decide +kernel
theorem dX1_init_13 : decode cX1_init 13 = .ok (.return_, 1) := by decide +kernel
theorem dX1_remember_0 : decode cX1_remember 0 = .ok (.aload_n 0, 1) := by decide +kernel
theorem dX1_remember_1 : decode cX1_remember 1 = .ok (.getfield 17, 3) := by decide +kernel
theorem dX1_remember_4 : decode cX1_remember 4 = .ok (.ifCond .lt 15, 3) := by decide +kernel
theorem dX1_remember_7 : decode cX1_remember 7 = .ok (.aload_n 0, 1) := by decide +kernel
theorem dX1_remember_8 : decode cX1_remember 8 = .ok (.getfield 17, 3) := by decide +kernel
theorem dX1_remember_11 : decode cX1_remember 11 = .ok (.aload_n 0, 1) := by decide +kernel
theorem dX1_remember_12 : decode cX1_remember 12 = .ok (.getfield 11, 3) := by decide +kernel
theorem dX1_remember_15 : decode cX1_remember 15 = .ok (.arraylength, 1) := by decide +kernel
theorem dX1_remember_16 : decode cX1_remember 16 = .ok (.if_icmp .lt 4, 3) := by decide +kernel
theorem dX1_remember_19 : decode cX1_remember 19 = .ok (.return_, 1) := by decide +kernel
theorem dX1_remember_20 : decode cX1_remember 20 = .ok (.aload_n 0, 1) := by decide +kernel
theorem dX1_remember_21 : decode cX1_remember 21 = .ok (.getfield 11, 3) := by decide +kernel
theorem dX1_remember_24 : decode cX1_remember 24 = .ok (.aload_n 0, 1) := by decide +kernel
theorem dX1_remember_25 : decode cX1_remember 25 = .ok (.getfield 17, 3) := by decide +kernel
theorem dX1_remember_28 : decode cX1_remember 28 = .ok (.aaload, 1) := by decide +kernel
theorem dX1_remember_29 : decode cX1_remember 29 = .ok (.astore_n 2, 1) := by decide +kernel
theorem dX1_remember_30 : decode cX1_remember 30 = .ok (.aload_n 2, 1) := by decide +kernel
theorem dX1_remember_31 : decode cX1_remember 31 = .ok (.ifnonnull 21, 3) := by decide +kernel
theorem dX1_remember_34 : decode cX1_remember 34 = .ok (.new 9, 3) := by decide +kernel
theorem dX1_remember_37 : decode cX1_remember 37 = .ok (.dup, 1) := by decide +kernel
theorem dX1_remember_38 : decode cX1_remember 38 = .ok (.invokespecial 21, 3) := by decide +kernel
theorem dX1_remember_41 : decode cX1_remember 41 = .ok (.astore_n 2, 1) := by decide +kernel
theorem dX1_remember_42 : decode cX1_remember 42 = .ok (.aload_n 0, 1) := by decide +kernel
theorem dX1_remember_43 : decode cX1_remember 43 = .ok (.getfield 11, 3) := by decide +kernel
theorem dX1_remember_46 : decode cX1_remember 46 = .ok (.aload_n 0, 1) := by decide +kernel
theorem dX1_remember_47 : decode cX1_remember 47 = .ok (.getfield 17, 3) := by decide +kernel
theorem dX1_remember_50 : decode cX1_remember 50 = .ok (.aload_n 2, 1) := by decide +kernel
theorem dX1_remember_51 : decode cX1_remember 51 = .ok (.aastore, 1) := by decide +kernel
theorem dX1_remember_52 : decode cX1_remember 52 = .ok (.aload_n 2, 1) := by decide +kernel
theorem dX1_remember_53 : decode cX1_remember 53 = .ok (.aload_n 1, 1) := by decide +kernel
theorem dX1_remember_54 : decode cX1_remember 54 = .ok (.invokevirtual 22, 3) := by decide +kernel
theorem dX1_remember_57 : decode cX1_remember 57 = .ok (.aload_n 0, 1) := by decide +kernel
theorem dX1_remember_58 : decode cX1_remember 58 = .ok (.aload_n 0, 1) := by decide +kernel
theorem dX1_remember_59 : decode cX1_remember 59 = .ok (.getfield 17, 3) := by decide +kernel
theorem dX1_remember_62 : decode cX1_remember 62 = .ok (.iconst 1, 1) := by decide +kernel
theorem dX1_remember_63 : decode cX1_remember 63 = .ok (.iadd, 1) := by decide +kernel
theorem dX1_remember_64 : decode cX1_remember 64 = .ok (.aload_n 0, 1) := by decide +kernel
theorem dX1_remember_65 : decode cX1_remember 65 = .ok (.getfield 11, 3) := by decide +kernel
theorem dX1_remember_68 : decode cX1_remember 68 = .ok (.arraylength, 1) := by decide +kernel
theorem dX1_remember_69 : decode cX1_remember 69 = .ok (.if_icmp .ge 12, 3) := by decide +kernel
theorem dX1_remember_72 : decode cX1_remember 72 = .ok (.aload_n 0, 1) := by decide +kernel
theorem dX1_remember_73 : decode cX1_remember 73 = .ok (.getfield 17, 3) := by decide +kernel
theorem dX1_remember_76 : decode cX1_remember 76 = .ok (.iconst 1, 1) := by decide +kernel
theorem dX1_remember_77 : decode cX1_remember 77 = .ok (.iadd, 1) := by decide +kernel
theorem dX1_remember_78 : decode cX1_remember 78 = .ok (.goto 4, 3) := by decide +kernel
theorem dX1_remember_81 : decode cX1_remember 81 = .ok (.iconst 0, 1) := by decide +kernel
theorem dX1_remember_82 : decode cX1_remember 82 = .ok (.putfield 17, 3) := by decide +kernel
theorem dX1_remember_85 : decode cX1_remember 85 = .ok (.aload_n 0, 1) := by decide +kernel
theorem dX1_remember_86 : decode cX1_remember 86 = .ok (.aload_n 0, 1) := by decide +kernel
theorem dX1_remember_87 : decode cX1_remember 87 = .ok (.getfield 26, 3) := by decide +kernel
theorem dX1_remember_90 : decode cX1_remember 90 = .ok (.iconst 1, 1) := by decide +kernel
theorem dX1_remember_91 : decode cX1_remember 91 = .ok (.iadd, 1) := by decide +kernel
theorem dX1_remember_92 : decode cX1_remember 92 = .ok (.aload_n 0, 1) := by decide +kernel
theorem dX1_remember_93 : decode cX1_remember 93 = .ok (.getfield 11, 3) := by decide +kernel
theorem dX1_remember_96 : decode cX1_remember 96 = .ok (.arraylength, 1) := by decide +kernel
theorem dX1_remember_97 : decode cX1_remember 97 = .ok (.invokestatic 29, 3) := by decide +kernel
theorem dX1_remember_100 : decode cX1_remember 100 = .ok (.putfield 26, 3) := by decide +kernel
theorem dX1_remember_103 : decode cX1_remember 103 = .ok (.return_, 1) := by decide +kernel
theorem dX1_restore_0 : decode cX1_restore 0 = .ok (.aload_n 0, 1) := by decide +kernel
theorem dX1_restore_1 : decode cX1_restore 1 = .ok (.getfield 17, 3) := by decide +kernel
theorem dX1_restore_4 : decode cX1_restore 4 = .ok (.ifCond .le 12, 3) := by decide +kernel
theorem dX1_restore_7 : decode cX1_restore 7 = .ok (.aload_n 0, 1) := by decide +kernel
theorem dX1_restore_8 : decode cX1_restore 8 = .ok (.getfield 17, 3) := by decide +kernel
theorem dX1_restore_11 : decode cX1_restore 11 = .ok (.iconst 1, 1) := by decide +kernel
theorem dX1_restore_12 : decode cX1_restore 12 = .ok (.isub, 1) := by decide +kernel
theorem dX1_restore_13 : decode cX1_restore 13 = .ok (.goto 10, 3) := by decide +kernel
theorem dX1_restore_16 : decode cX1_restore 16 = .ok (.aload_n 0, 1) := by decide +kernel
theorem dX1_restore_17 : decode cX1_restore 17 = .ok (.getfield 11, 3) := by decide +kernel
theorem dX1_restore_20 : decode cX1_restore 20 = .ok (.arraylength, 1) := by decide +kernel
theorem dX1_restore_21 : decode cX1_restore 21 = .ok (.iconst 1, 1) := by decide +kernel
theorem dX1_restore_22 : decode cX1_restore 22 = .ok (.isub, 1) := by decide +kernel
theorem dX1_restore_23 : decode cX1_restore 23 = .ok (.istore_n 2, 1) := by decide +kernel
theorem dX1_restore_24 : decode cX1_restore 24 = .ok (.aload_n 0, 1) := by decide +kernel
theorem dX1_restore_25 : decode cX1_restore 25 = .ok (.getfield 26, 3) := by decide +kernel
theorem dX1_restore_28 : decode cX1_restore 28 = .ok (.ifCond .le 20, 3) := by decide +kernel
theorem dX1_restore_31 : decode cX1_restore 31 = .ok (.iload_n 2, 1) := by decide +kernel
theorem dX1_restore_32 : decode cX1_restore 32 = .ok (.ifCond .lt 16, 3) := by decide +kernel
theorem dX1_restore_35 : decode cX1_restore 35 = .ok (.iload_n 2, 1) := by decide +kernel
theorem dX1_restore_36 : decode cX1_restore 36 = .ok (.aload_n 0, 1) := by decide +kernel
theorem dX1_restore_37 : decode cX1_restore 37 = .ok (.getfield 11, 3) := by decide +kernel
theorem dX1_restore_40 : decode cX1_restore 40 = .ok (.arraylength, 1) := by decide +kernel
theorem dX1_restore_41 : decode cX1_restore 41 = .ok (.if_icmp .ge 7, 3) := by decide +kernel
theorem dX1_restore_44 : decode cX1_restore 44 = .ok (.aload_n 1, 1) := by decide +kernel
theorem dX1_restore_45 : decode cX1_restore 45 = .ok (.ifnonnull 4, 3) := by decide +kernel
theorem dX1_restore_48 : decode cX1_restore 48 = .ok (.return_, 1) := by decide +kernel
theorem dX1_restore_49 : decode cX1_restore 49 = .ok (.aload_n 1, 1) := by decide +kernel
theorem dX1_restore_50 : decode cX1_restore 50 = .ok (.aload_n 0, 1) := by decide +kernel
theorem dX1_restore_51 : decode cX1_restore 51 = .ok (.getfield 11, 3) := by decide +kernel
theorem dX1_restore_54 : decode cX1_restore 54 = .ok (.iload_n 2, 1) := by decide +kernel
theorem dX1_restore_55 : decode cX1_restore 55 = .ok (.aaload, 1) := by decide +kernel
theorem dX1_restore_56 : decode cX1_restore 56 = .ok (.invokevirtual 22, 3) := by decide +kernel
theorem dX1_restore_59 : decode cX1_restore 59 = .ok (.aload_n 0, 1) := by decide +kernel
theorem dX1_restore_60 : decode cX1_restore 60 = .ok (.iload_n 2, 1) := by decide +kernel
theorem dX1_restore_61 : decode cX1_restore 61 = .ok (.putfield 17, 3) := by decide +kernel
theorem dX1_restore_64 : decode cX1_restore 64 = .ok (.aload_n 0, 1) := by decide +kernel
theorem dX1_restore_65 : decode cX1_restore 65 = .ok (.dup, 1) := by decide +kernel
theorem dX1_restore_66 : decode cX1_restore 66 = .ok (.getfield 26, 3) := by decide +kernel
theorem dX1_restore_69 : decode cX1_restore 69 = .ok (.iconst 1, 1) := by decide +kernel
theorem dX1_restore_70 : decode cX1_restore 70 = .ok (.isub, 1) := by decide +kernel
theorem dX1_restore_71 : decode cX1_restore 71 = .ok (.putfield 26, 3) := by decide +kernel
theorem dX1_restore_74 : decode cX1_restore 74 = .ok (.return_, 1) := by decide +kernel
theorem dX3_init_0 : decode cX3_init 0 = .ok (.aload_n 0, 1) := by decide +kernel
theorem dX3_init_1 : decode cX3_init 1 = .ok (.invokespecial 3, 3) := by decide +kernel
theorem dX3_init_4 : decode cX3_init 4 = .ok (.aload_n 0, 1) := by decide +kernel
theorem dX3_init_5 : decode cX3_init 5 = .ok (.bipush 60, 2) := by decide +kernel
theorem dX3_init_7 : decode cX3_init 7 = .ok (.newarray .char, 2) := by decide +kernel
theorem dX3_init_9 : decode cX3_init 9 = .ok (.putfield 9, 3) := by decide +kernel
theorem dX3_init_12 : decode cX3_init 12 = .ok (.return_, 1) := by decide +kernel
theorem dX4_init_0 : decode cX4_init 0 = .ok (.aload_n 0, 1) := by decide +kernel
theorem dX4_init_1 : decode cX4_init 1 = .ok (.invokespecial 3, 3) := by decide +kernel
theorem dX4_init_4 : decode cX4_init 4 = .ok (.aload_n 0, 1) := by decide +kernel
theorem dX4_init_5 : decode cX4_init 5 = .ok (.new 9, 3) := by decide +kernel
theorem dX4_init_8 : decode cX4_init 8 = .ok (.dup, 1) := by decide +kernel
theorem dX4_init_9 : decode cX4_init 9 = .ok (.bipush 10, 2) := by decide +kernel
theorem dX4_init_11 : decode cX4_init 11 = .ok (.iconst 2, 1) := by decide +kernel
theorem dX4_init_12 : decode cX4_init 12 = .ok (.invokespecial 11, 3) := by decide +kernel
theorem dX4_init_15 : decode cX4_init 15 = .ok (.putfield 14, 3) := by decide +kernel
theorem dX4_init_18 : decode cX4_init 18 = .ok (.aload_n 0, 1) := by decide +kernel
theorem dX4_init_19 : decode cX4_init 19 = .ok (.sipush 1024, 3) := by decide +kernel
theorem dX4_init_22 : decode cX4_init 22 = .ok (.newarray .int, 2) := by decide +kernel
theorem dX4_init_24 : decode cX4_init 24 = .ok (.putfield 20, 3) := by decide +kernel
theorem dX4_init_27 : decode cX4_init 27 = .ok (.return_, 1) := by decide +kernel
theorem dX4_take_0 : decode cX4_take 0 = .ok (.aload_n 0, 1) := by decide +kernel
theorem dX4_take_1 : decode cX4_take 1 = .ok (.iconst 0, 1) := by decide +kernel
theorem dX4_take_2 : decode cX4_take 2 = .ok (.putfield 24, 3) := by decide +kernel
theorem dX4_take_5 : decode cX4_take 5 = .ok (.aload_n 1, 1) := by decide +kernel
theorem dX4_take_6 : decode cX4_take 6 = .ok (.ifnonnull 4, 3) := by decide +kernel
theorem dX4_take_9 : decode cX4_take 9 = .ok (.return_, 1) := by decide +kernel
theorem dX4_take_10 : decode cX4_take 10 = .ok (.aload_n 0, 1) := by decide +kernel
theorem dX4_take_11 : decode cX4_take 11 = .ok (.aload_n 1, 1) := by decide +kernel
theorem dX4_take_12 : decode cX4_take 12 = .ok (.iload_n 2, 1) := by decide +kernel
theorem dX4_take_13 : decode cX4_take 13 = .ok (.invokevirtual 28, 3) := by decide +kernel
theorem dX4_take_16 : decode cX4_take 16 = .ok (.putfield 24, 3) := by decide +kernel
theorem dX4_take_19 : decode cX4_take 19 = .ok (.iconst 0, 1) := by decide +kernel
theorem dX4_take_20 : decode cX4_take 20 = .ok (.istore_n 3, 1) := by decide +kernel
theorem dX4_take_21 : decode cX4_take 21 = .ok (.iload_n 3, 1) := by decide +kernel
theorem dX4_take_22 : decode cX4_take 22 = .ok (.aload_n 0, 1) := by decide +kernel
theorem dX4_take_23 : decode cX4_take 23 = .ok (.getfield 24, 3) := by decide +kernel
theorem dX4_take_26 : decode cX4_take 26 = .ok (.if_icmp .ge 68, 3) := by decide +kernel
theorem dX4_take_29 : decode cX4_take 29 = .ok (.iload_n 3, 1) := by decide +kernel
theorem dX4_take_30 : decode cX4_take 30 = .ok (.bipush 10, 2) := by decide +kernel
theorem dX4_take_32 : decode cX4_take 32 = .ok (.if_icmp .ge 62, 3) := by decide +kernel
theorem dX4_take_35 : decode cX4_take 35 = .ok (.aload_n 1, 1) := by decide +kernel
theorem dX4_take_36 : decode cX4_take 36 = .ok (.getfield 34, 3) := by decide +kernel
theorem dX4_take_39 : decode cX4_take 39 = .ok (.iload_n 2, 1) := by decide +kernel
theorem dX4_take_40 : decode cX4_take 40 = .ok (.iload_n 3, 1) := by decide +kernel
theorem dX4_take_41 : decode cX4_take 41 = .ok (.invokevirtual 37, 3) := by decide +kernel
theorem dX4_take_44 : decode cX4_take 44 = .ok (.istore 4, 2) := by decide +kernel
theorem dX4_take_46 : decode cX4_take 46 = .ok (.aload_n 0, 1) := by decide +kernel
theorem dX4_take_47 : decode cX4_take 47 = .ok (.getfield 14, 3) := by decide +kernel
theorem dX4_take_50 : decode cX4_take 50 = .ok (.iload_n 3, 1) := by decide +kernel
theorem dX4_take_51 : decode cX4_take 51 = .ok (.iconst 0, 1) := by decide +kernel
theorem dX4_take_52 : decode cX4_take 52 = .ok (.iconst 1, 1) := by decide +kernel
theorem dX4_take_53 : decode cX4_take 53 = .ok (.aload_n 1, 1) := by decide +kernel
theorem dX4_take_54 : decode cX4_take 54 = .ok (.getfield 41, 3) := by decide +kernel
theorem dX4_take_57 : decode cX4_take 57 = .ok (.iload 4, 2) := by decide +kernel
theorem dX4_take_59 : decode cX4_take 59 = .ok (.iconst 0, 1) := by decide +kernel
theorem dX4_take_60 : decode cX4_take 60 = .ok (.invokevirtual 37, 3) := by decide +kernel
theorem dX4_take_63 : decode cX4_take 63 = .ok (.ishl, 1) := by decide +kernel
theorem dX4_take_64 : decode cX4_take 64 = .ok (.invokevirtual 44, 3) := by decide +kernel
theorem dX4_take_67 : decode cX4_take 67 = .ok (.aload_n 0, 1) := by decide +kernel
theorem dX4_take_68 : decode cX4_take 68 = .ok (.getfield 14, 3) := by decide +kernel
theorem dX4_take_71 : decode cX4_take 71 = .ok (.iload_n 3, 1) := by decide +kernel
theorem dX4_take_72 : decode cX4_take 72 = .ok (.iconst 1, 1) := by decide +kernel
theorem dX4_take_73 : decode cX4_take 73 = .ok (.iconst 1, 1) := by decide +kernel
theorem dX4_take_74 : decode cX4_take 74 = .ok (.aload_n 1, 1) := by decide +kernel
theorem dX4_take_75 : decode cX4_take 75 = .ok (.getfield 41, 3) := by decide +kernel
theorem dX4_take_78 : decode cX4_take 78 = .ok (.iload 4, 2) := by decide +kernel
theorem dX4_take_80 : decode cX4_take 80 = .ok (.iconst 1, 1) := by decide +kernel
theorem dX4_take_81 : decode cX4_take 81 = .ok (.invokevirtual 37, 3) := by decide +kernel
theorem dX4_take_84 : decode cX4_take 84 = .ok (.ishl, 1) := by decide +kernel
theorem dX4_take_85 : decode cX4_take 85 = .ok (.invokevirtual 44, 3) := by decide +kernel
theorem dX4_take_88 : decode cX4_take 88 = .ok (.iinc 3 1, 3) := by decide +kernel
theorem dX4_take_91 : decode cX4_take 91 = .ok (.goto (-70), 3) := by decide +kernel
theorem dX4_take_94 : decode cX4_take 94 = .ok (.return_, 1) := by decide +kernel
theorem dX4_isTooLarge_0 : decode cX4_isTooLarge 0 = .ok (.aload_n 0, 1) := by decide +kernel
theorem dX4_isTooLarge_1 : decode cX4_isTooLarge 1 = .ok (.getfield 24, 3) := by decide +kernel
theorem dX4_isTooLarge_4 : decode cX4_isTooLarge 4 = .ok (.bipush 10, 2) := by decide +kernel
theorem dX4_isTooLarge_6 : decode cX4_isTooLarge 6 = .ok (.if_icmp .le 7, 3) := by decide +kernel
theorem dX4_isTooLarge_9 : decode cX4_isTooLarge 9 = .ok (.iconst 1, 1) := by decide +kernel
theorem dX4_isTooLarge_10 : decode cX4_isTooLarge 10 = .ok (.goto 4, 3) := by decide +kernel
theorem dX4_isTooLarge_13 : decode cX4_isTooLarge 13 = .ok (.iconst 0, 1) := by decide +kernel
theorem dX4_isTooLarge_14 : decode cX4_isTooLarge 14 = .ok (.ireturn, 1) := by decide +kernel
theorem dX4_tryFrom_0 : decode cX4_tryFrom 0 = .ok (.aload_n 0, 1) := by decide +kernel
theorem dX4_tryFrom_1 : decode cX4_tryFrom 1 = .ok (.invokevirtual 48, 3) := by decide +kernel
theorem dX4_tryFrom_4 : decode cX4_tryFrom 4 = .ok (.ifCond .eq 4, 3) := by decide +kernel
theorem dX4_tryFrom_7 : decode cX4_tryFrom 7 = .ok (.return_, 1) := by decide +kernel
theorem dX4_tryFrom_8 : decode cX4_tryFrom 8 = .ok (.iconst 1, 1) := by decide +kernel
theorem dX4_tryFrom_9 : decode cX4_tryFrom 9 = .ok (.aload_n 0, 1) := by decide +kernel
theorem dX4_tryFrom_10 : decode cX4_tryFrom 10 = .ok (.getfield 24, 3) := by decide +kernel
theorem dX4_tryFrom_13 : decode cX4_tryFrom 13 = .ok (.ishl, 1) := by decide +kernel
theorem dX4_tryFrom_14 : decode cX4_tryFrom 14 = .ok (.istore_n 2, 1) := by decide +kernel
theorem dX4_tryFrom_15 : decode cX4_tryFrom 15 = .ok (.iconst 0, 1) := by decide +kernel
theorem dX4_tryFrom_16 : decode cX4_tryFrom 16 = .ok (.istore_n 3, 1) := by decide +kernel
theorem dX4_tryFrom_17 : decode cX4_tryFrom 17 = .ok (.iload_n 3, 1) := by decide +kernel
theorem dX4_tryFrom_18 : decode cX4_tryFrom 18 = .ok (.iload_n 2, 1) := by decide +kernel
theorem dX4_tryFrom_19 : decode cX4_tryFrom 19 = .ok (.if_icmp .ge 35, 3) := by decide +kernel
theorem dX4_tryFrom_22 : decode cX4_tryFrom 22 = .ok (.iload_n 3, 1) := by decide +kernel
theorem dX4_tryFrom_23 : decode cX4_tryFrom 23 = .ok (.aload_n 0, 1) := by decide +kernel
theorem dX4_tryFrom_24 : decode cX4_tryFrom 24 = .ok (.getfield 20, 3) := by decide +kernel
theorem dX4_tryFrom_27 : decode cX4_tryFrom 27 = .ok (.arraylength, 1) := by decide +kernel
theorem dX4_tryFrom_28 : decode cX4_tryFrom 28 = .ok (.if_icmp .ge 26, 3) := by decide +kernel
theorem dX4_tryFrom_31 : decode cX4_tryFrom 31 = .ok (.aload_n 0, 1) := by decide +kernel
theorem dX4_tryFrom_32 : decode cX4_tryFrom 32 = .ok (.getfield 20, 3) := by decide +kernel
theorem dX4_tryFrom_35 : decode cX4_tryFrom 35 = .ok (.iload_n 3, 1) := by decide +kernel
theorem dX4_tryFrom_36 : decode cX4_tryFrom 36 = .ok (.iload_n 3, 1) := by decide +kernel
theorem dX4_tryFrom_37 : decode cX4_tryFrom 37 = .ok (.ifCond .ne 9, 3) := by decide +kernel
theorem dX4_tryFrom_40 : decode cX4_tryFrom 40 = .ok (.iconst 1, 1) := by decide +kernel
theorem dX4_tryFrom_41 : decode cX4_tryFrom 41 = .ok (.iload_n 1, 1) := by decide +kernel
theorem dX4_tryFrom_42 : decode cX4_tryFrom 42 = .ok (.ishl, 1) := by decide +kernel
theorem dX4_tryFrom_43 : decode cX4_tryFrom 43 = .ok (.goto 4, 3) := by decide +kernel
theorem dX4_tryFrom_46 : decode cX4_tryFrom 46 = .ok (.iconst 0, 1) := by decide +kernel
theorem dX4_tryFrom_47 : decode cX4_tryFrom 47 = .ok (.iastore, 1) := by decide +kernel
theorem dX4_tryFrom_48 : decode cX4_tryFrom 48 = .ok (.iinc 3 1, 3) := by decide +kernel
theorem dX4_tryFrom_51 : decode cX4_tryFrom 51 = .ok (.goto (-34), 3) := by decide +kernel
theorem dX4_tryFrom_54 : decode cX4_tryFrom 54 = .ok (.iconst 0, 1) := by decide +kernel
theorem dX4_tryFrom_55 : decode cX4_tryFrom 55 = .ok (.istore_n 3, 1) := by decide +kernel
theorem dX4_tryFrom_56 : decode cX4_tryFrom 56 = .ok (.iload_n 3, 1) := by decide +kernel
theorem dX4_tryFrom_57 : decode cX4_tryFrom 57 = .ok (.iload_n 2, 1) := by decide +kernel
theorem dX4_tryFrom_58 : decode cX4_tryFrom 58 = .ok (.if_icmp .ge 32, 3) := by decide +kernel
theorem dX4_tryFrom_61 : decode cX4_tryFrom 61 = .ok (.iload_n 3, 1) := by decide +kernel
theorem dX4_tryFrom_62 : decode cX4_tryFrom 62 = .ok (.aload_n 0, 1) := by decide +kernel
theorem dX4_tryFrom_63 : decode cX4_tryFrom 63 = .ok (.getfield 20, 3) := by decide +kernel
theorem dX4_tryFrom_66 : decode cX4_tryFrom 66 = .ok (.arraylength, 1) := by decide +kernel
theorem dX4_tryFrom_67 : decode cX4_tryFrom 67 = .ok (.if_icmp .ge 23, 3) := by decide +kernel
theorem dX4_tryFrom_70 : decode cX4_tryFrom 70 = .ok (.aload_n 0, 1) := by decide +kernel
theorem dX4_tryFrom_71 : decode cX4_tryFrom 71 = .ok (.getfield 20, 3) := by decide +kernel
theorem dX4_tryFrom_74 : decode cX4_tryFrom 74 = .ok (.iload_n 3, 1) := by decide +kernel
theorem dX4_tryFrom_75 : decode cX4_tryFrom 75 = .ok (.iaload, 1) := by decide +kernel
theorem dX4_tryFrom_76 : decode cX4_tryFrom 76 = .ok (.ifCond .eq 8, 3) := by decide +kernel
theorem dX4_tryFrom_79 : decode cX4_tryFrom 79 = .ok (.aload_n 0, 1) := by decide +kernel
theorem dX4_tryFrom_80 : decode cX4_tryFrom 80 = .ok (.iload_n 3, 1) := by decide +kernel
theorem dX4_tryFrom_81 : decode cX4_tryFrom 81 = .ok (.invokevirtual 52, 3) := by decide +kernel
theorem dX4_tryFrom_84 : decode cX4_tryFrom 84 = .ok (.iinc 3 1, 3) := by decide +kernel
theorem dX4_tryFrom_87 : decode cX4_tryFrom 87 = .ok (.goto (-31), 3) := by decide +kernel
theorem dX4_tryFrom_90 : decode cX4_tryFrom 90 = .ok (.return_, 1) := by decide +kernel
theorem dX4_goOnFrom_0 : decode cX4_goOnFrom 0 = .ok (.iconst 0, 1) := by decide +kernel
theorem dX4_goOnFrom_1 : decode cX4_goOnFrom 1 = .ok (.istore_n 2, 1) := by decide +kernel
theorem dX4_goOnFrom_2 : decode cX4_goOnFrom 2 = .ok (.iload_n 2, 1) := by decide +kernel
theorem dX4_goOnFrom_3 : decode cX4_goOnFrom 3 = .ok (.aload_n 0, 1) := by decide +kernel
theorem dX4_goOnFrom_4 : decode cX4_goOnFrom 4 = .ok (.getfield 24, 3) := by decide +kernel
theorem dX4_goOnFrom_7 : decode cX4_goOnFrom 7 = .ok (.if_icmp .ge 66, 3) := by decide +kernel
theorem dX4_goOnFrom_10 : decode cX4_goOnFrom 10 = .ok (.iload_n 1, 1) := by decide +kernel
theorem dX4_goOnFrom_11 : decode cX4_goOnFrom 11 = .ok (.iconst 1, 1) := by decide +kernel
theorem dX4_goOnFrom_12 : decode cX4_goOnFrom 12 = .ok (.iload_n 2, 1) := by decide +kernel
theorem dX4_goOnFrom_13 : decode cX4_goOnFrom 13 = .ok (.ishl, 1) := by decide +kernel
theorem dX4_goOnFrom_14 : decode cX4_goOnFrom 14 = .ok (.ior, 1) := by decide +kernel
theorem dX4_goOnFrom_15 : decode cX4_goOnFrom 15 = .ok (.istore_n 3, 1) := by decide +kernel
theorem dX4_goOnFrom_16 : decode cX4_goOnFrom 16 = .ok (.iload_n 3, 1) := by decide +kernel
theorem dX4_goOnFrom_17 : decode cX4_goOnFrom 17 = .ok (.iload_n 1, 1) := by decide +kernel
theorem dX4_goOnFrom_18 : decode cX4_goOnFrom 18 = .ok (.if_icmp .eq 49, 3) := by decide +kernel
theorem dX4_goOnFrom_21 : decode cX4_goOnFrom 21 = .ok (.iload_n 1, 1) := by decide +kernel
theorem dX4_goOnFrom_22 : decode cX4_goOnFrom 22 = .ok (.ifCond .lt 45, 3) := by decide +kernel
theorem dX4_goOnFrom_25 : decode cX4_goOnFrom 25 = .ok (.iload_n 1, 1) := by decide +kernel
theorem dX4_goOnFrom_26 : decode cX4_goOnFrom 26 = .ok (.aload_n 0, 1) := by decide +kernel
theorem dX4_goOnFrom_27 : decode cX4_goOnFrom 27 = .ok (.getfield 20, 3) := by decide +kernel
theorem dX4_goOnFrom_30 : decode cX4_goOnFrom 30 = .ok (.arraylength, 1) := by decide +kernel
theorem dX4_goOnFrom_31 : decode cX4_goOnFrom 31 = .ok (.if_icmp .ge 36, 3) := by decide +kernel
theorem dX4_goOnFrom_34 : decode cX4_goOnFrom 34 = .ok (.iload_n 3, 1) := by decide +kernel
theorem dX4_goOnFrom_35 : decode cX4_goOnFrom 35 = .ok (.ifCond .lt 32, 3) := by decide +kernel
theorem dX4_goOnFrom_38 : decode cX4_goOnFrom 38 = .ok (.iload_n 3, 1) := by decide +kernel
theorem dX4_goOnFrom_39 : decode cX4_goOnFrom 39 = .ok (.aload_n 0, 1) := by decide +kernel
theorem dX4_goOnFrom_40 : decode cX4_goOnFrom 40 = .ok (.getfield 20, 3) := by decide +kernel
theorem dX4_goOnFrom_43 : decode cX4_goOnFrom 43 = .ok (.arraylength, 1) := by decide +kernel
theorem dX4_goOnFrom_44 : decode cX4_goOnFrom 44 = .ok (.if_icmp .ge 23, 3) := by decide +kernel
theorem dX4_goOnFrom_47 : decode cX4_goOnFrom 47 = .ok (.aload_n 0, 1) := by decide +kernel
theorem dX4_goOnFrom_48 : decode cX4_goOnFrom 48 = .ok (.getfield 20, 3) := by decide +kernel
theorem dX4_goOnFrom_51 : decode cX4_goOnFrom 51 = .ok (.iload_n 3, 1) := by decide +kernel
theorem dX4_goOnFrom_52 : decode cX4_goOnFrom 52 = .ok (.dup2, 1) := by decide +kernel
theorem dX4_goOnFrom_53 : decode cX4_goOnFrom 53 = .ok (.iaload, 1) := by decide +kernel
theorem dX4_goOnFrom_54 : decode cX4_goOnFrom 54 = .ok (.aload_n 0, 1) := by decide +kernel
theorem dX4_goOnFrom_55 : decode cX4_goOnFrom 55 = .ok (.iload_n 2, 1) := by decide +kernel
theorem dX4_goOnFrom_56 : decode cX4_goOnFrom 56 = .ok (.aload_n 0, 1) := by decide +kernel
theorem dX4_goOnFrom_57 : decode cX4_goOnFrom 57 = .ok (.getfield 20, 3) := by decide +kernel
theorem dX4_goOnFrom_60 : decode cX4_goOnFrom 60 = .ok (.iload_n 1, 1) := by decide +kernel
theorem dX4_goOnFrom_61 : decode cX4_goOnFrom 61 = .ok (.iaload, 1) := by decide +kernel
theorem dX4_goOnFrom_62 : decode cX4_goOnFrom 62 = .ok (.invokevirtual 56, 3) := by decide +kernel
theorem dX4_goOnFrom_65 : decode cX4_goOnFrom 65 = .ok (.ior, 1) := by decide +kernel
theorem dX4_goOnFrom_66 : decode cX4_goOnFrom 66 = .ok (.iastore, 1) := by decide +kernel
theorem dX4_goOnFrom_67 : decode cX4_goOnFrom 67 = .ok (.iinc 2 1, 3) := by decide +kernel
theorem dX4_goOnFrom_70 : decode cX4_goOnFrom 70 = .ok (.goto (-68), 3) := by decide +kernel
theorem dX4_goOnFrom_73 : decode cX4_goOnFrom 73 = .ok (.return_, 1) := by decide +kernel
theorem dX4_openBehind_0 : decode cX4_openBehind 0 = .ok (.aload_n 0, 1) := by decide +kernel
theorem dX4_openBehind_1 : decode cX4_openBehind 1 = .ok (.getfield 14, 3) := by decide +kernel
theorem dX4_openBehind_4 : decode cX4_openBehind 4 = .ok (.iload_n 1, 1) := by decide +kernel
theorem dX4_openBehind_5 : decode cX4_openBehind 5 = .ok (.iconst 0, 1) := by decide +kernel
theorem dX4_openBehind_6 : decode cX4_openBehind 6 = .ok (.invokevirtual 37, 3) := by decide +kernel
theorem dX4_openBehind_9 : decode cX4_openBehind 9 = .ok (.istore_n 3, 1) := by decide +kernel
theorem dX4_openBehind_10 : decode cX4_openBehind 10 = .ok (.aload_n 0, 1) := by decide +kernel
theorem dX4_openBehind_11 : decode cX4_openBehind 11 = .ok (.getfield 14, 3) := by decide +kernel
theorem dX4_openBehind_14 : decode cX4_openBehind 14 = .ok (.iload_n 1, 1) := by decide +kernel
theorem dX4_openBehind_15 : decode cX4_openBehind 15 = .ok (.iconst 1, 1) := by decide +kernel
theorem dX4_openBehind_16 : decode cX4_openBehind 16 = .ok (.invokevirtual 37, 3) := by decide +kernel
theorem dX4_openBehind_19 : decode cX4_openBehind 19 = .ok (.istore 4, 2) := by decide +kernel
theorem dX4_openBehind_21 : decode cX4_openBehind 21 = .ok (.iconst 0, 1) := by decide +kernel
theorem dX4_openBehind_22 : decode cX4_openBehind 22 = .ok (.istore 5, 2) := by decide +kernel
theorem dX4_openBehind_24 : decode cX4_openBehind 24 = .ok (.iload_n 2, 1) := by decide +kernel
theorem dX4_openBehind_25 : decode cX4_openBehind 25 = .ok (.iload_n 3, 1) := by decide +kernel
theorem dX4_openBehind_26 : decode cX4_openBehind 26 = .ok (.iand, 1) := by decide +kernel
theorem dX4_openBehind_27 : decode cX4_openBehind 27 = .ok (.ifCond .eq 10, 3) := by decide +kernel
theorem dX4_openBehind_30 : decode cX4_openBehind 30 = .ok (.iload 5, 2) := by decide +kernel
theorem dX4_openBehind_32 : decode cX4_openBehind 32 = .ok (.iload 4, 2) := by decide +kernel
theorem dX4_openBehind_34 : decode cX4_openBehind 34 = .ok (.ior, 1) := by decide +kernel
theorem dX4_openBehind_35 : decode cX4_openBehind 35 = .ok (.istore 5, 2) := by decide +kernel
theorem dX4_openBehind_37 : decode cX4_openBehind 37 = .ok (.iload_n 2, 1) := by decide +kernel
theorem dX4_openBehind_38 : decode cX4_openBehind 38 = .ok (.iload 4, 2) := by decide +kernel
theorem dX4_openBehind_40 : decode cX4_openBehind 40 = .ok (.iand, 1) := by decide +kernel
theorem dX4_openBehind_41 : decode cX4_openBehind 41 = .ok (.ifCond .eq 9, 3) := by decide +kernel
theorem dX4_openBehind_44 : decode cX4_openBehind 44 = .ok (.iload 5, 2) := by decide +kernel
theorem dX4_openBehind_46 : decode cX4_openBehind 46 = .ok (.iload_n 3, 1) := by decide +kernel
theorem dX4_openBehind_47 : decode cX4_openBehind 47 = .ok (.ior, 1) := by decide +kernel
theorem dX4_openBehind_48 : decode cX4_openBehind 48 = .ok (.istore 5, 2) := by decide +kernel
theorem dX4_openBehind_50 : decode cX4_openBehind 50 = .ok (.iload 5, 2) := by decide +kernel
theorem dX4_openBehind_52 : decode cX4_openBehind 52 = .ok (.ireturn, 1) := by decide +kernel
theorem dX4_mostTiles_0 : decode cX4_mostTiles 0 = .ok (.aload_n 0, 1) := by decide +kernel
theorem dX4_mostTiles_1 : decode cX4_mostTiles 1 = .ok (.invokevirtual 48, 3) := by decide +kernel
theorem dX4_mostTiles_4 : decode cX4_mostTiles 4 = .ok (.ifCond .eq 5, 3) := by decide +kernel
theorem dX4_mostTiles_7 : decode cX4_mostTiles 7 = .ok (.iconst (-1), 1) := by decide +kernel
theorem dX4_mostTiles_8 : decode cX4_mostTiles 8 = .ok (.ireturn, 1) := by decide +kernel
theorem dX4_mostTiles_9 : decode cX4_mostTiles 9 = .ok (.iconst 0, 1) := by decide +kernel
theorem dX4_mostTiles_10 : decode cX4_mostTiles 10 = .ok (.istore_n 1, 1) := by decide +kernel
theorem dX4_mostTiles_11 : decode cX4_mostTiles 11 = .ok (.iconst 1, 1) := by decide +kernel
theorem dX4_mostTiles_12 : decode cX4_mostTiles 12 = .ok (.aload_n 0, 1) := by decide +kernel
theorem dX4_mostTiles_13 : decode cX4_mostTiles 13 = .ok (.getfield 24, 3) := by decide +kernel
theorem dX4_mostTiles_16 : decode cX4_mostTiles 16 = .ok (.ishl, 1) := by decide +kernel
theorem dX4_mostTiles_17 : decode cX4_mostTiles 17 = .ok (.istore_n 2, 1) := by decide +kernel
theorem dX4_mostTiles_18 : decode cX4_mostTiles 18 = .ok (.iconst 0, 1) := by decide +kernel
theorem dX4_mostTiles_19 : decode cX4_mostTiles 19 = .ok (.istore_n 3, 1) := by decide +kernel
theorem dX4_mostTiles_20 : decode cX4_mostTiles 20 = .ok (.iload_n 3, 1) := by decide +kernel
theorem dX4_mostTiles_21 : decode cX4_mostTiles 21 = .ok (.iload_n 2, 1) := by decide +kernel
theorem dX4_mostTiles_22 : decode cX4_mostTiles 22 = .ok (.if_icmp .ge 36, 3) := by decide +kernel
theorem dX4_mostTiles_25 : decode cX4_mostTiles 25 = .ok (.iload_n 3, 1) := by decide +kernel
theorem dX4_mostTiles_26 : decode cX4_mostTiles 26 = .ok (.aload_n 0, 1) := by decide +kernel
theorem dX4_mostTiles_27 : decode cX4_mostTiles 27 = .ok (.getfield 20, 3) := by decide +kernel
theorem dX4_mostTiles_30 : decode cX4_mostTiles 30 = .ok (.arraylength, 1) := by decide +kernel
theorem dX4_mostTiles_31 : decode cX4_mostTiles 31 = .ok (.if_icmp .ge 27, 3) := by decide +kernel
theorem dX4_mostTiles_34 : decode cX4_mostTiles 34 = .ok (.aload_n 0, 1) := by decide +kernel
theorem dX4_mostTiles_35 : decode cX4_mostTiles 35 = .ok (.getfield 20, 3) := by decide +kernel
theorem dX4_mostTiles_38 : decode cX4_mostTiles 38 = .ok (.iload_n 3, 1) := by decide +kernel
theorem dX4_mostTiles_39 : decode cX4_mostTiles 39 = .ok (.iaload, 1) := by decide +kernel
theorem dX4_mostTiles_40 : decode cX4_mostTiles 40 = .ok (.ifCond .eq 12, 3) := by decide +kernel
theorem dX4_mostTiles_43 : decode cX4_mostTiles 43 = .ok (.iload_n 1, 1) := by decide +kernel
theorem dX4_mostTiles_44 : decode cX4_mostTiles 44 = .ok (.iload_n 3, 1) := by decide +kernel
theorem dX4_mostTiles_45 : decode cX4_mostTiles 45 = .ok (.invokestatic 59, 3) := by decide +kernel
theorem dX4_mostTiles_48 : decode cX4_mostTiles 48 = .ok (.invokestatic 64, 3) := by decide +kernel
theorem dX4_mostTiles_51 : decode cX4_mostTiles 51 = .ok (.istore_n 1, 1) := by decide +kernel
theorem dX4_mostTiles_52 : decode cX4_mostTiles 52 = .ok (.iinc 3 1, 3) := by decide +kernel
theorem dX4_mostTiles_55 : decode cX4_mostTiles 55 = .ok (.goto (-35), 3) := by decide +kernel
theorem dX4_mostTiles_58 : decode cX4_mostTiles 58 = .ok (.iload_n 1, 1) := by decide +kernel
theorem dX4_mostTiles_59 : decode cX4_mostTiles 59 = .ok (.ireturn, 1) := by decide +kernel
theorem dX4_wholeByTrying_0 : decode cX4_wholeByTrying 0 = .ok (.aload_n 0, 1) := by decide +kernel
theorem dX4_wholeByTrying_1 : decode cX4_wholeByTrying 1 = .ok (.invokevirtual 48, 3) := by decide +kernel
theorem dX4_wholeByTrying_4 : decode cX4_wholeByTrying 4 = .ok (.ifCond .eq 5, 3) := by decide +kernel
theorem dX4_wholeByTrying_7 : decode cX4_wholeByTrying 7 = .ok (.iconst (-1), 1) := by decide +kernel
theorem dX4_wholeByTrying_8 : decode cX4_wholeByTrying 8 = .ok (.ireturn, 1) := by decide +kernel
theorem dX4_wholeByTrying_9 : decode cX4_wholeByTrying 9 = .ok (.iconst 1, 1) := by decide +kernel
theorem dX4_wholeByTrying_10 : decode cX4_wholeByTrying 10 = .ok (.aload_n 0, 1) := by decide +kernel
theorem dX4_wholeByTrying_11 : decode cX4_wholeByTrying 11 = .ok (.getfield 24, 3) := by decide +kernel
theorem dX4_wholeByTrying_14 : decode cX4_wholeByTrying 14 = .ok (.ishl, 1) := by decide +kernel
theorem dX4_wholeByTrying_15 : decode cX4_wholeByTrying 15 = .ok (.iconst 1, 1) := by decide +kernel
theorem dX4_wholeByTrying_16 : decode cX4_wholeByTrying 16 = .ok (.isub, 1) := by decide +kernel
theorem dX4_wholeByTrying_17 : decode cX4_wholeByTrying 17 = .ok (.istore_n 1, 1) := by decide +kernel
theorem dX4_wholeByTrying_18 : decode cX4_wholeByTrying 18 = .ok (.iload_n 1, 1) := by decide +kernel
theorem dX4_wholeByTrying_19 : decode cX4_wholeByTrying 19 = .ok (.ifCond .lt 25, 3) := by decide +kernel
theorem dX4_wholeByTrying_22 : decode cX4_wholeByTrying 22 = .ok (.iload_n 1, 1) := by decide +kernel
theorem dX4_wholeByTrying_23 : decode cX4_wholeByTrying 23 = .ok (.aload_n 0, 1) := by decide +kernel
theorem dX4_wholeByTrying_24 : decode cX4_wholeByTrying 24 = .ok (.getfield 20, 3) := by decide +kernel
theorem dX4_wholeByTrying_27 : decode cX4_wholeByTrying 27 = .ok (.arraylength, 1) := by decide +kernel
theorem dX4_wholeByTrying_28 : decode cX4_wholeByTrying 28 = .ok (.if_icmp .ge 16, 3) := by decide +kernel
theorem dX4_wholeByTrying_31 : decode cX4_wholeByTrying 31 = .ok (.aload_n 0, 1) := by decide +kernel
theorem dX4_wholeByTrying_32 : decode cX4_wholeByTrying 32 = .ok (.getfield 20, 3) := by decide +kernel
theorem dX4_wholeByTrying_35 : decode cX4_wholeByTrying 35 = .ok (.iload_n 1, 1) := by decide +kernel
theorem dX4_wholeByTrying_36 : decode cX4_wholeByTrying 36 = .ok (.iaload, 1) := by decide +kernel
theorem dX4_wholeByTrying_37 : decode cX4_wholeByTrying 37 = .ok (.ifCond .eq 7, 3) := by decide +kernel
theorem dX4_wholeByTrying_40 : decode cX4_wholeByTrying 40 = .ok (.iconst 1, 1) := by decide +kernel
theorem dX4_wholeByTrying_41 : decode cX4_wholeByTrying 41 = .ok (.goto 4, 3) := by decide +kernel
theorem dX4_wholeByTrying_44 : decode cX4_wholeByTrying 44 = .ok (.iconst 0, 1) := by decide +kernel
theorem dX4_wholeByTrying_45 : decode cX4_wholeByTrying 45 = .ok (.ireturn, 1) := by decide +kernel
theorem dX4_wholeByCounting_0 : decode cX4_wholeByCounting 0 = .ok (.aload_n 0, 1) := by decide +kernel
theorem dX4_wholeByCounting_1 : decode cX4_wholeByCounting 1 = .ok (.invokevirtual 48, 3) := by decide +kernel
theorem dX4_wholeByCounting_4 : decode cX4_wholeByCounting 4 = .ok (.ifCond .eq 5, 3) := by decide +kernel
theorem dX4_wholeByCounting_7 : decode cX4_wholeByCounting 7 = .ok (.iconst (-1), 1) := by decide +kernel
theorem dX4_wholeByCounting_8 : decode cX4_wholeByCounting 8 = .ok (.ireturn, 1) := by decide +kernel
theorem dX4_wholeByCounting_9 : decode cX4_wholeByCounting 9 = .ok (.aload_n 0, 1) := by decide +kernel
theorem dX4_wholeByCounting_10 : decode cX4_wholeByCounting 10 = .ok (.iload_n 1, 1) := by decide +kernel
theorem dX4_wholeByCounting_11 : decode cX4_wholeByCounting 11 = .ok (.invokevirtual 69, 3) := by decide +kernel
theorem dX4_wholeByCounting_14 : decode cX4_wholeByCounting 14 = .ok (.ifCond .eq 15, 3) := by decide +kernel
theorem dX4_wholeByCounting_17 : decode cX4_wholeByCounting 17 = .ok (.aload_n 0, 1) := by decide +kernel
theorem dX4_wholeByCounting_18 : decode cX4_wholeByCounting 18 = .ok (.iload_n 1, 1) := by decide +kernel
theorem dX4_wholeByCounting_19 : decode cX4_wholeByCounting 19 = .ok (.invokevirtual 73, 3) := by decide +kernel
theorem dX4_wholeByCounting_22 : decode cX4_wholeByCounting 22 = .ok (.ifCond .eq 7, 3) := by decide +kernel
theorem dX4_wholeByCounting_25 : decode cX4_wholeByCounting 25 = .ok (.iconst 1, 1) := by decide +kernel
theorem dX4_wholeByCounting_26 : decode cX4_wholeByCounting 26 = .ok (.goto 4, 3) := by decide +kernel
theorem dX4_wholeByCounting_29 : decode cX4_wholeByCounting 29 = .ok (.iconst 0, 1) := by decide +kernel
theorem dX4_wholeByCounting_30 : decode cX4_wholeByCounting 30 = .ok (.ireturn, 1) := by decide +kernel
theorem dX4_hangsTogetherWith_0 : decode cX4_hangsTogetherWith 0 = .ok (.iconst 1, 1) := by decide +kernel
theorem dX4_hangsTogetherWith_1 : decode cX4_hangsTogetherWith 1 = .ok (.iload_n 1, 1) := by decide +kernel
theorem dX4_hangsTogetherWith_2 : decode cX4_hangsTogetherWith 2 = .ok (.ishl, 1) := by decide +kernel
theorem dX4_hangsTogetherWith_3 : decode cX4_hangsTogetherWith 3 = .ok (.istore_n 2, 1) := by decide +kernel
theorem dX4_hangsTogetherWith_4 : decode cX4_hangsTogetherWith 4 = .ok (.iconst 0, 1) := by decide +kernel
theorem dX4_hangsTogetherWith_5 : decode cX4_hangsTogetherWith 5 = .ok (.istore_n 3, 1) := by decide +kernel
theorem dX4_hangsTogetherWith_6 : decode cX4_hangsTogetherWith 6 = .ok (.iload_n 3, 1) := by decide +kernel
theorem dX4_hangsTogetherWith_7 : decode cX4_hangsTogetherWith 7 = .ok (.bipush 7, 2) := by decide +kernel
theorem dX4_hangsTogetherWith_9 : decode cX4_hangsTogetherWith 9 = .ok (.if_icmp .ge 37, 3) := by decide +kernel
theorem dX4_hangsTogetherWith_12 : decode cX4_hangsTogetherWith 12 = .ok (.iconst 0, 1) := by decide +kernel
theorem dX4_hangsTogetherWith_13 : decode cX4_hangsTogetherWith 13 = .ok (.istore 4, 2) := by decide +kernel
theorem dX4_hangsTogetherWith_15 : decode cX4_hangsTogetherWith 15 = .ok (.iload 4, 2) := by decide +kernel
theorem dX4_hangsTogetherWith_17 : decode cX4_hangsTogetherWith 17 = .ok (.aload_n 0, 1) := by decide +kernel
theorem dX4_hangsTogetherWith_18 : decode cX4_hangsTogetherWith 18 = .ok (.getfield 24, 3) := by decide +kernel
theorem dX4_hangsTogetherWith_21 : decode cX4_hangsTogetherWith 21 = .ok (.if_icmp .ge 19, 3) := by decide +kernel
theorem dX4_hangsTogetherWith_24 : decode cX4_hangsTogetherWith 24 = .ok (.iload_n 2, 1) := by decide +kernel
theorem dX4_hangsTogetherWith_25 : decode cX4_hangsTogetherWith 25 = .ok (.aload_n 0, 1) := by decide +kernel
theorem dX4_hangsTogetherWith_26 : decode cX4_hangsTogetherWith 26 = .ok (.iload 4, 2) := by decide +kernel
theorem dX4_hangsTogetherWith_28 : decode cX4_hangsTogetherWith 28 = .ok (.iload_n 2, 1) := by decide +kernel
theorem dX4_hangsTogetherWith_29 : decode cX4_hangsTogetherWith 29 = .ok (.invokevirtual 56, 3) := by decide +kernel
theorem dX4_hangsTogetherWith_32 : decode cX4_hangsTogetherWith 32 = .ok (.ior, 1) := by decide +kernel
theorem dX4_hangsTogetherWith_33 : decode cX4_hangsTogetherWith 33 = .ok (.istore_n 2, 1) := by decide +kernel
theorem dX4_hangsTogetherWith_34 : decode cX4_hangsTogetherWith 34 = .ok (.iinc 4 1, 3) := by decide +kernel
theorem dX4_hangsTogetherWith_37 : decode cX4_hangsTogetherWith 37 = .ok (.goto (-22), 3) := by decide +kernel
theorem dX4_hangsTogetherWith_40 : decode cX4_hangsTogetherWith 40 = .ok (.iinc 3 1, 3) := by decide +kernel
theorem dX4_hangsTogetherWith_43 : decode cX4_hangsTogetherWith 43 = .ok (.goto (-37), 3) := by decide +kernel
theorem dX4_hangsTogetherWith_46 : decode cX4_hangsTogetherWith 46 = .ok (.iconst 0, 1) := by decide +kernel
theorem dX4_hangsTogetherWith_47 : decode cX4_hangsTogetherWith 47 = .ok (.istore_n 3, 1) := by decide +kernel
theorem dX4_hangsTogetherWith_48 : decode cX4_hangsTogetherWith 48 = .ok (.iload_n 3, 1) := by decide +kernel
theorem dX4_hangsTogetherWith_49 : decode cX4_hangsTogetherWith 49 = .ok (.aload_n 0, 1) := by decide +kernel
theorem dX4_hangsTogetherWith_50 : decode cX4_hangsTogetherWith 50 = .ok (.getfield 24, 3) := by decide +kernel
theorem dX4_hangsTogetherWith_53 : decode cX4_hangsTogetherWith 53 = .ok (.if_icmp .ge 20, 3) := by decide +kernel
theorem dX4_hangsTogetherWith_56 : decode cX4_hangsTogetherWith 56 = .ok (.aload_n 0, 1) := by decide +kernel
theorem dX4_hangsTogetherWith_57 : decode cX4_hangsTogetherWith 57 = .ok (.iload_n 3, 1) := by decide +kernel
theorem dX4_hangsTogetherWith_58 : decode cX4_hangsTogetherWith 58 = .ok (.iload_n 2, 1) := by decide +kernel
theorem dX4_hangsTogetherWith_59 : decode cX4_hangsTogetherWith 59 = .ok (.invokevirtual 56, 3) := by decide +kernel
theorem dX4_hangsTogetherWith_62 : decode cX4_hangsTogetherWith 62 = .ok (.ifCond .ne 5, 3) := by decide +kernel
theorem dX4_hangsTogetherWith_65 : decode cX4_hangsTogetherWith 65 = .ok (.iconst 0, 1) := by decide +kernel
theorem dX4_hangsTogetherWith_66 : decode cX4_hangsTogetherWith 66 = .ok (.ireturn, 1) := by decide +kernel
theorem dX4_hangsTogetherWith_67 : decode cX4_hangsTogetherWith 67 = .ok (.iinc 3 1, 3) := by decide +kernel
theorem dX4_hangsTogetherWith_70 : decode cX4_hangsTogetherWith 70 = .ok (.goto (-22), 3) := by decide +kernel
theorem dX4_hangsTogetherWith_73 : decode cX4_hangsTogetherWith 73 = .ok (.iconst 1, 1) := by decide +kernel
theorem dX4_hangsTogetherWith_74 : decode cX4_hangsTogetherWith 74 = .ok (.ireturn, 1) := by decide +kernel
theorem dX4_oddGradesAllow_0 : decode cX4_oddGradesAllow 0 = .ok (.iconst 0, 1) := by decide +kernel
theorem dX4_oddGradesAllow_1 : decode cX4_oddGradesAllow 1 = .ok (.istore_n 2, 1) := by decide +kernel
theorem dX4_oddGradesAllow_2 : decode cX4_oddGradesAllow 2 = .ok (.iconst 0, 1) := by decide +kernel
theorem dX4_oddGradesAllow_3 : decode cX4_oddGradesAllow 3 = .ok (.istore_n 3, 1) := by decide +kernel
theorem dX4_oddGradesAllow_4 : decode cX4_oddGradesAllow 4 = .ok (.iload_n 3, 1) := by decide +kernel
theorem dX4_oddGradesAllow_5 : decode cX4_oddGradesAllow 5 = .ok (.aload_n 0, 1) := by decide +kernel
theorem dX4_oddGradesAllow_6 : decode cX4_oddGradesAllow 6 = .ok (.getfield 24, 3) := by decide +kernel
theorem dX4_oddGradesAllow_9 : decode cX4_oddGradesAllow 9 = .ok (.if_icmp .ge 31, 3) := by decide +kernel
theorem dX4_oddGradesAllow_12 : decode cX4_oddGradesAllow 12 = .ok (.iload_n 2, 1) := by decide +kernel
theorem dX4_oddGradesAllow_13 : decode cX4_oddGradesAllow 13 = .ok (.aload_n 0, 1) := by decide +kernel
theorem dX4_oddGradesAllow_14 : decode cX4_oddGradesAllow 14 = .ok (.getfield 14, 3) := by decide +kernel
theorem dX4_oddGradesAllow_17 : decode cX4_oddGradesAllow 17 = .ok (.iload_n 3, 1) := by decide +kernel
theorem dX4_oddGradesAllow_18 : decode cX4_oddGradesAllow 18 = .ok (.iconst 0, 1) := by decide +kernel
theorem dX4_oddGradesAllow_19 : decode cX4_oddGradesAllow 19 = .ok (.invokevirtual 37, 3) := by decide +kernel
theorem dX4_oddGradesAllow_22 : decode cX4_oddGradesAllow 22 = .ok (.aload_n 0, 1) := by decide +kernel
theorem dX4_oddGradesAllow_23 : decode cX4_oddGradesAllow 23 = .ok (.getfield 14, 3) := by decide +kernel
theorem dX4_oddGradesAllow_26 : decode cX4_oddGradesAllow 26 = .ok (.iload_n 3, 1) := by decide +kernel
theorem dX4_oddGradesAllow_27 : decode cX4_oddGradesAllow 27 = .ok (.iconst 1, 1) := by decide +kernel
theorem dX4_oddGradesAllow_28 : decode cX4_oddGradesAllow 28 = .ok (.invokevirtual 37, 3) := by decide +kernel
theorem dX4_oddGradesAllow_31 : decode cX4_oddGradesAllow 31 = .ok (.ixor, 1) := by decide +kernel
theorem dX4_oddGradesAllow_32 : decode cX4_oddGradesAllow 32 = .ok (.ixor, 1) := by decide +kernel
theorem dX4_oddGradesAllow_33 : decode cX4_oddGradesAllow 33 = .ok (.istore_n 2, 1) := by decide +kernel
theorem dX4_oddGradesAllow_34 : decode cX4_oddGradesAllow 34 = .ok (.iinc 3 1, 3) := by decide +kernel
theorem dX4_oddGradesAllow_37 : decode cX4_oddGradesAllow 37 = .ok (.goto (-33), 3) := by decide +kernel
theorem dX4_oddGradesAllow_40 : decode cX4_oddGradesAllow 40 = .ok (.iload_n 2, 1) := by decide +kernel
theorem dX4_oddGradesAllow_41 : decode cX4_oddGradesAllow 41 = .ok (.ifCond .eq 19, 3) := by decide +kernel
theorem dX4_oddGradesAllow_44 : decode cX4_oddGradesAllow 44 = .ok (.iload_n 2, 1) := by decide +kernel
theorem dX4_oddGradesAllow_45 : decode cX4_oddGradesAllow 45 = .ok (.invokestatic 59, 3) := by decide +kernel
theorem dX4_oddGradesAllow_48 : decode cX4_oddGradesAllow 48 = .ok (.iconst 2, 1) := by decide +kernel
theorem dX4_oddGradesAllow_49 : decode cX4_oddGradesAllow 49 = .ok (.if_icmp .ne 15, 3) := by decide +kernel
theorem dX4_oddGradesAllow_52 : decode cX4_oddGradesAllow 52 = .ok (.iload_n 2, 1) := by decide +kernel
theorem dX4_oddGradesAllow_53 : decode cX4_oddGradesAllow 53 = .ok (.iconst 1, 1) := by decide +kernel
theorem dX4_oddGradesAllow_54 : decode cX4_oddGradesAllow 54 = .ok (.iload_n 1, 1) := by decide +kernel
theorem dX4_oddGradesAllow_55 : decode cX4_oddGradesAllow 55 = .ok (.ishl, 1) := by decide +kernel
theorem dX4_oddGradesAllow_56 : decode cX4_oddGradesAllow 56 = .ok (.iand, 1) := by decide +kernel
theorem dX4_oddGradesAllow_57 : decode cX4_oddGradesAllow 57 = .ok (.ifCond .eq 7, 3) := by decide +kernel
theorem dX4_oddGradesAllow_60 : decode cX4_oddGradesAllow 60 = .ok (.iconst 1, 1) := by decide +kernel
theorem dX4_oddGradesAllow_61 : decode cX4_oddGradesAllow 61 = .ok (.goto 4, 3) := by decide +kernel
theorem dX4_oddGradesAllow_64 : decode cX4_oddGradesAllow 64 = .ok (.iconst 0, 1) := by decide +kernel
theorem dX4_oddGradesAllow_65 : decode cX4_oddGradesAllow 65 = .ok (.ireturn, 1) := by decide +kernel
