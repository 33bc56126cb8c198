/-! decode rows, as printed -/
theorem dX6_init_0 : decode cX6_init 0 = .ok (.aload_n 0, 1) := by decide +kernel
theorem dX6_init_1 : decode cX6_init 1 = .ok (.invokespecial 1, 3) := by decide +kernel
theorem dX6_init_4 : decode cX6_init 4 = .ok (.aload_n 0, 1) := by decide +kernel
theorem dX6_init_5 : decode cX6_init 5 = .ok (.sipush 372, 3) := by decide +kernel
theorem dX6_init_8 : decode cX6_init 8 = .ok (.newarray .int, 2) := by decide +kernel
theorem dX6_init_10 : decode cX6_init 10 = .ok (.putfield 7, 3) := by decide +kernel
theorem dX6_init_13 : decode cX6_init 13 = .ok (.aload_n 0, 1) := by decide +kernel
theorem dX6_init_14 : decode cX6_init 14 = .ok (.sipush 2232, 3) := by decide +kernel
theorem dX6_init_17 : decode cX6_init 17 = .ok (.newarray .int, 2) := by decide +kernel
theorem dX6_init_19 : decode cX6_init 19 = .ok (.putfield 13, 3) := by decide +kernel
theorem dX6_init_22 : decode cX6_init 22 = .ok (.aload_n 0, 1) := by decide +kernel
theorem dX6_init_23 : decode cX6_init 23 = .ok (.sipush 744, 3) := by decide +kernel
theorem dX6_init_26 : decode cX6_init 26 = .ok (.newarray .int, 2) := by decide +kernel
theorem dX6_init_28 : decode cX6_init 28 = .ok (.putfield 16, 3) := by decide +kernel
theorem dX6_init_31 : decode cX6_init 31 = .ok (.aload_n 0, 1) := by decide +kernel
theorem dX6_init_32 : decode cX6_init 32 = .ok (.bipush 60, 2) := by decide +kernel
theorem dX6_init_34 : decode cX6_init 34 = .ok (.newarray .int, 2) := by decide +kernel
theorem dX6_init_36 : decode cX6_init 36 = .ok (.putfield 19, 3) := by decide +kernel
theorem dX6_init_39 : decode cX6_init 39 = .ok (.aload_n 0, 1) := by decide +kernel
theorem dX6_init_40 : decode cX6_init 40 = .ok (.sipush 7168, 3) := by decide +kernel
theorem dX6_init_43 : decode cX6_init 43 = .ok (.newarray .boolean, 2) := by decide +kernel
theorem dX6_init_45 : decode cX6_init 45 = .ok (.putfield 22, 3) := by decide +kernel
theorem dX6_init_48 : decode cX6_init 48 = .ok (.aload_n 0, 1) := by decide +kernel
theorem dX6_init_49 : decode cX6_init 49 = .ok (.bipush 28, 2) := by decide +kernel
theorem dX6_init_51 : decode cX6_init 51 = .ok (.newarray .int, 2) := by decide +kernel
theorem dX6_init_53 : decode cX6_init 53 = .ok (.putfield 26, 3) := by decide +kernel
theorem dX6_init_56 : decode cX6_init 56 = .ok (.aload_n 0, 1) := by decide +kernel
theorem dX6_init_57 : decode cX6_init 57 = .ok (.getfield 7, 3) := by decide +kernel
theorem dX6_init_60 : decode cX6_init 60 = .ok (.sipush 359, 3) := by decide +kernel
theorem dX6_init_63 : decode cX6_init 63 = .ok (.iconst 3, 1) := by decide +kernel
theorem dX6_init_64 : decode cX6_init 64 = .ok (.iastore, 1) := by decide +kernel
theorem dX6_init_65 : decode cX6_init 65 = .ok (.aload_n 0, 1) := by decide +kernel
theorem dX6_init_66 : decode cX6_init 66 = .ok (.iconst 2, 1) := by decide +kernel
theorem dX6_init_67 : decode cX6_init 67 = .ok (.iconst 1, 1) := by decide +kernel
theorem dX6_init_68 : decode cX6_init 68 = .ok (.invokevirtual 29, 3) := by decide +kernel
theorem dX6_init_71 : decode cX6_init 71 = .ok (.return_, 1) := by decide +kernel
theorem dX6_thrown_0 : decode cX6_thrown 0 = .ok (.aload_n 0, 1) := by decide +kernel
theorem dX6_thrown_1 : decode cX6_thrown 1 = .ok (.getfield 33, 3) := by decide +kernel
theorem dX6_thrown_4 : decode cX6_thrown 4 = .ok (.ireturn, 1) := by decide +kernel
theorem dX6_in_0 : decode cX6_in 0 = .ok (.iload_n 0, 1) := by decide +kernel
theorem dX6_in_1 : decode cX6_in 1 = .ok (.iload_n 1, 1) := by decide +kernel
theorem dX6_in_2 : decode cX6_in 2 = .ok (.if_icmp .lt 12, 3) := by decide +kernel
theorem dX6_in_5 : decode cX6_in 5 = .ok (.iload_n 0, 1) := by decide +kernel
theorem dX6_in_6 : decode cX6_in 6 = .ok (.iload_n 2, 1) := by decide +kernel
theorem dX6_in_7 : decode cX6_in 7 = .ok (.if_icmp .gt 7, 3) := by decide +kernel
theorem dX6_in_10 : decode cX6_in 10 = .ok (.iconst 1, 1) := by decide +kernel
theorem dX6_in_11 : decode cX6_in 11 = .ok (.goto 4, 3) := by decide +kernel
theorem dX6_in_14 : decode cX6_in 14 = .ok (.iconst 0, 1) := by decide +kernel
theorem dX6_in_15 : decode cX6_in 15 = .ok (.ireturn, 1) := by decide +kernel
theorem dX6_holds_0 : decode cX6_holds 0 = .ok (.aload_n 0, 1) := by decide +kernel
theorem dX6_holds_1 : decode cX6_holds 1 = .ok (.iload_n 1, 1) := by decide +kernel
theorem dX6_holds_2 : decode cX6_holds 2 = .ok (.putfield 33, 3) := by decide +kernel
theorem dX6_holds_5 : decode cX6_holds 5 = .ok (.iload_n 1, 1) := by decide +kernel
theorem dX6_holds_6 : decode cX6_holds 6 = .ok (.ifCond .ne 7, 3) := by decide +kernel
theorem dX6_holds_9 : decode cX6_holds 9 = .ok (.iconst 1, 1) := by decide +kernel
theorem dX6_holds_10 : decode cX6_holds 10 = .ok (.goto 4, 3) := by decide +kernel
theorem dX6_holds_13 : decode cX6_holds 13 = .ok (.iconst 0, 1) := by decide +kernel
theorem dX6_holds_14 : decode cX6_holds 14 = .ok (.ireturn, 1) := by decide +kernel
theorem dX6_of_0 : decode cX6_of 0 = .ok (.iconst 0, 1) := by decide +kernel
theorem dX6_of_1 : decode cX6_of 1 = .ok (.bipush 7, 2) := by decide +kernel
theorem dX6_of_3 : decode cX6_of 3 = .ok (.iload_n 0, 1) := by decide +kernel
theorem dX6_of_4 : decode cX6_of 4 = .ok (.imul, 1) := by decide +kernel
theorem dX6_of_5 : decode cX6_of 5 = .ok (.iadd, 1) := by decide +kernel
theorem dX6_of_6 : decode cX6_of 6 = .ok (.iload_n 1, 1) := by decide +kernel
theorem dX6_of_7 : decode cX6_of 7 = .ok (.iadd, 1) := by decide +kernel
theorem dX6_of_8 : decode cX6_of 8 = .ok (.ireturn, 1) := by decide +kernel
theorem dX6_inHand_0 : decode cX6_inHand 0 = .ok (.sipush 225, 3) := by decide +kernel
theorem dX6_inHand_3 : decode cX6_inHand 3 = .ok (.bipush 28, 2) := by decide +kernel
theorem dX6_inHand_5 : decode cX6_inHand 5 = .ok (.iload_n 0, 1) := by decide +kernel
theorem dX6_inHand_6 : decode cX6_inHand 6 = .ok (.imul, 1) := by decide +kernel
theorem dX6_inHand_7 : decode cX6_inHand 7 = .ok (.iadd, 1) := by decide +kernel
theorem dX6_inHand_8 : decode cX6_inHand 8 = .ok (.iload_n 1, 1) := by decide +kernel
theorem dX6_inHand_9 : decode cX6_inHand 9 = .ok (.iadd, 1) := by decide +kernel
theorem dX6_inHand_10 : decode cX6_inHand 10 = .ok (.ireturn, 1) := by decide +kernel
theorem dX6_ofRow_0 : decode cX6_ofRow 0 = .ok (.sipush 360, 3) := by decide +kernel
theorem dX6_ofRow_3 : decode cX6_ofRow 3 = .ok (.iconst 4, 1) := by decide +kernel
theorem dX6_ofRow_4 : decode cX6_ofRow 4 = .ok (.iload_n 0, 1) := by decide +kernel
theorem dX6_ofRow_5 : decode cX6_ofRow 5 = .ok (.imul, 1) := by decide +kernel
theorem dX6_ofRow_6 : decode cX6_ofRow 6 = .ok (.iadd, 1) := by decide +kernel
theorem dX6_ofRow_7 : decode cX6_ofRow 7 = .ok (.iload_n 1, 1) := by decide +kernel
theorem dX6_ofRow_8 : decode cX6_ofRow 8 = .ok (.iadd, 1) := by decide +kernel
theorem dX6_ofRow_9 : decode cX6_ofRow 9 = .ok (.ireturn, 1) := by decide +kernel
theorem dX6_isPlayer_0 : decode cX6_isPlayer 0 = .ok (.iload_n 1, 1) := by decide +kernel
theorem dX6_isPlayer_1 : decode cX6_isPlayer 1 = .ok (.iconst 0, 1) := by decide +kernel
theorem dX6_isPlayer_2 : decode cX6_isPlayer 2 = .ok (.aload_n 0, 1) := by decide +kernel
theorem dX6_isPlayer_3 : decode cX6_isPlayer 3 = .ok (.getfield 7, 3) := by decide +kernel
theorem dX6_isPlayer_6 : decode cX6_isPlayer 6 = .ok (.sipush 341, 3) := by decide +kernel
theorem dX6_isPlayer_9 : decode cX6_isPlayer 9 = .ok (.iaload, 1) := by decide +kernel
theorem dX6_isPlayer_10 : decode cX6_isPlayer 10 = .ok (.iconst 1, 1) := by decide +kernel
theorem dX6_isPlayer_11 : decode cX6_isPlayer 11 = .ok (.isub, 1) := by decide +kernel
theorem dX6_isPlayer_12 : decode cX6_isPlayer 12 = .ok (.invokestatic 37, 3) := by decide +kernel
theorem dX6_isPlayer_15 : decode cX6_isPlayer 15 = .ok (.ireturn, 1) := by decide +kernel
theorem dX6_isRow_0 : decode cX6_isRow 0 = .ok (.iload_n 0, 1) := by decide +kernel
theorem dX6_isRow_1 : decode cX6_isRow 1 = .ok (.iconst 0, 1) := by decide +kernel
theorem dX6_isRow_2 : decode cX6_isRow 2 = .ok (.iconst 2, 1) := by decide +kernel
theorem dX6_isRow_3 : decode cX6_isRow 3 = .ok (.invokestatic 37, 3) := by decide +kernel
theorem dX6_isRow_6 : decode cX6_isRow 6 = .ok (.ireturn, 1) := by decide +kernel
theorem dX6_save_0 : decode cX6_save 0 = .ok (.aload_n 0, 1) := by decide +kernel
theorem dX6_save_1 : decode cX6_save 1 = .ok (.getfield 41, 3) := by decide +kernel
theorem dX6_save_4 : decode cX6_save 4 = .ok (.bipush 6, 2) := by decide +kernel
theorem dX6_save_6 : decode cX6_save 6 = .ok (.if_icmp .ne 44, 3) := by decide +kernel
theorem dX6_save_9 : decode cX6_save 9 = .ok (.iconst 0, 1) := by decide +kernel
theorem dX6_save_10 : decode cX6_save 10 = .ok (.istore_n 1, 1) := by decide +kernel
theorem dX6_save_11 : decode cX6_save 11 = .ok (.iload_n 1, 1) := by decide +kernel
theorem dX6_save_12 : decode cX6_save 12 = .ok (.sipush 1860, 3) := by decide +kernel
theorem dX6_save_15 : decode cX6_save 15 = .ok (.if_icmp .ge 25, 3) := by decide +kernel
theorem dX6_save_18 : decode cX6_save 18 = .ok (.aload_n 0, 1) := by decide +kernel
theorem dX6_save_19 : decode cX6_save 19 = .ok (.getfield 13, 3) := by decide +kernel
theorem dX6_save_22 : decode cX6_save 22 = .ok (.iload_n 1, 1) := by decide +kernel
theorem dX6_save_23 : decode cX6_save 23 = .ok (.aload_n 0, 1) := by decide +kernel
theorem dX6_save_24 : decode cX6_save 24 = .ok (.getfield 13, 3) := by decide +kernel
theorem dX6_save_27 : decode cX6_save 27 = .ok (.iload_n 1, 1) := by decide +kernel
theorem dX6_save_28 : decode cX6_save 28 = .ok (.sipush 372, 3) := by decide +kernel
theorem dX6_save_31 : decode cX6_save 31 = .ok (.iadd, 1) := by decide +kernel
theorem dX6_save_32 : decode cX6_save 32 = .ok (.iaload, 1) := by decide +kernel
theorem dX6_save_33 : decode cX6_save 33 = .ok (.iastore, 1) := by decide +kernel
theorem dX6_save_34 : decode cX6_save 34 = .ok (.iinc 1 1, 3) := by decide +kernel
theorem dX6_save_37 : decode cX6_save 37 = .ok (.goto (-26), 3) := by decide +kernel
theorem dX6_save_40 : decode cX6_save 40 = .ok (.aload_n 0, 1) := by decide +kernel
theorem dX6_save_41 : decode cX6_save 41 = .ok (.dup, 1) := by decide +kernel
theorem dX6_save_42 : decode cX6_save 42 = .ok (.getfield 41, 3) := by decide +kernel
theorem dX6_save_45 : decode cX6_save 45 = .ok (.iconst 1, 1) := by decide +kernel
theorem dX6_save_46 : decode cX6_save 46 = .ok (.isub, 1) := by decide +kernel
theorem dX6_save_47 : decode cX6_save 47 = .ok (.putfield 41, 3) := by decide +kernel
theorem dX6_save_50 : decode cX6_save 50 = .ok (.iconst 0, 1) := by decide +kernel
theorem dX6_save_51 : decode cX6_save 51 = .ok (.istore_n 1, 1) := by decide +kernel
theorem dX6_save_52 : decode cX6_save 52 = .ok (.iload_n 1, 1) := by decide +kernel
theorem dX6_save_53 : decode cX6_save 53 = .ok (.sipush 372, 3) := by decide +kernel
theorem dX6_save_56 : decode cX6_save 56 = .ok (.if_icmp .ge 30, 3) := by decide +kernel
theorem dX6_save_59 : decode cX6_save 59 = .ok (.aload_n 0, 1) := by decide +kernel
theorem dX6_save_60 : decode cX6_save 60 = .ok (.getfield 13, 3) := by decide +kernel
theorem dX6_save_63 : decode cX6_save 63 = .ok (.sipush 372, 3) := by decide +kernel
theorem dX6_save_66 : decode cX6_save 66 = .ok (.aload_n 0, 1) := by decide +kernel
theorem dX6_save_67 : decode cX6_save 67 = .ok (.getfield 41, 3) := by decide +kernel
theorem dX6_save_70 : decode cX6_save 70 = .ok (.imul, 1) := by decide +kernel
theorem dX6_save_71 : decode cX6_save 71 = .ok (.iload_n 1, 1) := by decide +kernel
theorem dX6_save_72 : decode cX6_save 72 = .ok (.iadd, 1) := by decide +kernel
theorem dX6_save_73 : decode cX6_save 73 = .ok (.aload_n 0, 1) := by decide +kernel
theorem dX6_save_74 : decode cX6_save 74 = .ok (.getfield 7, 3) := by decide +kernel
theorem dX6_save_77 : decode cX6_save 77 = .ok (.iload_n 1, 1) := by decide +kernel
theorem dX6_save_78 : decode cX6_save 78 = .ok (.iaload, 1) := by decide +kernel
theorem dX6_save_79 : decode cX6_save 79 = .ok (.iastore, 1) := by decide +kernel
theorem dX6_save_80 : decode cX6_save 80 = .ok (.iinc 1 1, 3) := by decide +kernel
theorem dX6_save_83 : decode cX6_save 83 = .ok (.goto (-31), 3) := by decide +kernel
theorem dX6_save_86 : decode cX6_save 86 = .ok (.aload_n 0, 1) := by decide +kernel
theorem dX6_save_87 : decode cX6_save 87 = .ok (.dup, 1) := by decide +kernel
theorem dX6_save_88 : decode cX6_save 88 = .ok (.getfield 41, 3) := by decide +kernel
theorem dX6_save_91 : decode cX6_save 91 = .ok (.iconst 1, 1) := by decide +kernel
theorem dX6_save_92 : decode cX6_save 92 = .ok (.iadd, 1) := by decide +kernel
theorem dX6_save_93 : decode cX6_save 93 = .ok (.putfield 41, 3) := by decide +kernel
theorem dX6_save_96 : decode cX6_save 96 = .ok (.return_, 1) := by decide +kernel
theorem dX6_laysTiles_0 : decode cX6_laysTiles 0 = .ok (.iconst 0, 1) := by decide +kernel
theorem dX6_laysTiles_1 : decode cX6_laysTiles 1 = .ok (.istore_n 1, 1) := by decide +kernel
theorem dX6_laysTiles_2 : decode cX6_laysTiles 2 = .ok (.iconst 0, 1) := by decide +kernel
theorem dX6_laysTiles_3 : decode cX6_laysTiles 3 = .ok (.istore_n 2, 1) := by decide +kernel
theorem dX6_laysTiles_4 : decode cX6_laysTiles 4 = .ok (.iload_n 2, 1) := by decide +kernel
theorem dX6_laysTiles_5 : decode cX6_laysTiles 5 = .ok (.bipush 49, 2) := by decide +kernel
theorem dX6_laysTiles_7 : decode cX6_laysTiles 7 = .ok (.if_icmp .ge 107, 3) := by decide +kernel
theorem dX6_laysTiles_10 : decode cX6_laysTiles 10 = .ok (.iload_n 2, 1) := by decide +kernel
theorem dX6_laysTiles_11 : decode cX6_laysTiles 11 = .ok (.bipush 7, 2) := by decide +kernel
theorem dX6_laysTiles_13 : decode cX6_laysTiles 13 = .ok (.irem, 1) := by decide +kernel
theorem dX6_laysTiles_14 : decode cX6_laysTiles 14 = .ok (.iload_n 2, 1) := by decide +kernel
theorem dX6_laysTiles_15 : decode cX6_laysTiles 15 = .ok (.bipush 7, 2) := by decide +kernel
theorem dX6_laysTiles_17 : decode cX6_laysTiles 17 = .ok (.idiv, 1) := by decide +kernel
theorem dX6_laysTiles_18 : decode cX6_laysTiles 18 = .ok (.if_icmp .lt 90, 3) := by decide +kernel
theorem dX6_laysTiles_21 : decode cX6_laysTiles 21 = .ok (.aload_n 0, 1) := by decide +kernel
theorem dX6_laysTiles_22 : decode cX6_laysTiles 22 = .ok (.getfield 7, 3) := by decide +kernel
theorem dX6_laysTiles_25 : decode cX6_laysTiles 25 = .ok (.iload_n 1, 1) := by decide +kernel
theorem dX6_laysTiles_26 : decode cX6_laysTiles 26 = .ok (.iconst 0, 1) := by decide +kernel
theorem dX6_laysTiles_27 : decode cX6_laysTiles 27 = .ok (.invokestatic 44, 3) := by decide +kernel
theorem dX6_laysTiles_30 : decode cX6_laysTiles 30 = .ok (.iload_n 2, 1) := by decide +kernel
theorem dX6_laysTiles_31 : decode cX6_laysTiles 31 = .ok (.bipush 7, 2) := by decide +kernel
theorem dX6_laysTiles_33 : decode cX6_laysTiles 33 = .ok (.idiv, 1) := by decide +kernel
theorem dX6_laysTiles_34 : decode cX6_laysTiles 34 = .ok (.iastore, 1) := by decide +kernel
theorem dX6_laysTiles_35 : decode cX6_laysTiles 35 = .ok (.aload_n 0, 1) := by decide +kernel
theorem dX6_laysTiles_36 : decode cX6_laysTiles 36 = .ok (.getfield 7, 3) := by decide +kernel
theorem dX6_laysTiles_39 : decode cX6_laysTiles 39 = .ok (.iload_n 1, 1) := by decide +kernel
theorem dX6_laysTiles_40 : decode cX6_laysTiles 40 = .ok (.iconst 1, 1) := by decide +kernel
theorem dX6_laysTiles_41 : decode cX6_laysTiles 41 = .ok (.invokestatic 44, 3) := by decide +kernel
theorem dX6_laysTiles_44 : decode cX6_laysTiles 44 = .ok (.iload_n 2, 1) := by decide +kernel
theorem dX6_laysTiles_45 : decode cX6_laysTiles 45 = .ok (.bipush 7, 2) := by decide +kernel
theorem dX6_laysTiles_47 : decode cX6_laysTiles 47 = .ok (.irem, 1) := by decide +kernel
theorem dX6_laysTiles_48 : decode cX6_laysTiles 48 = .ok (.iastore, 1) := by decide +kernel
theorem dX6_laysTiles_49 : decode cX6_laysTiles 49 = .ok (.aload_n 0, 1) := by decide +kernel
theorem dX6_laysTiles_50 : decode cX6_laysTiles 50 = .ok (.getfield 7, 3) := by decide +kernel
theorem dX6_laysTiles_53 : decode cX6_laysTiles 53 = .ok (.iload_n 1, 1) := by decide +kernel
theorem dX6_laysTiles_54 : decode cX6_laysTiles 54 = .ok (.iconst 2, 1) := by decide +kernel
theorem dX6_laysTiles_55 : decode cX6_laysTiles 55 = .ok (.invokestatic 44, 3) := by decide +kernel
theorem dX6_laysTiles_58 : decode cX6_laysTiles 58 = .ok (.iconst 0, 1) := by decide +kernel
theorem dX6_laysTiles_59 : decode cX6_laysTiles 59 = .ok (.iastore, 1) := by decide +kernel
theorem dX6_laysTiles_60 : decode cX6_laysTiles 60 = .ok (.aload_n 0, 1) := by decide +kernel
theorem dX6_laysTiles_61 : decode cX6_laysTiles 61 = .ok (.getfield 7, 3) := by decide +kernel
theorem dX6_laysTiles_64 : decode cX6_laysTiles 64 = .ok (.iload_n 1, 1) := by decide +kernel
theorem dX6_laysTiles_65 : decode cX6_laysTiles 65 = .ok (.iconst 3, 1) := by decide +kernel
theorem dX6_laysTiles_66 : decode cX6_laysTiles 66 = .ok (.invokestatic 44, 3) := by decide +kernel
theorem dX6_laysTiles_69 : decode cX6_laysTiles 69 = .ok (.iconst (-1), 1) := by decide +kernel
theorem dX6_laysTiles_70 : decode cX6_laysTiles 70 = .ok (.iastore, 1) := by decide +kernel
theorem dX6_laysTiles_71 : decode cX6_laysTiles 71 = .ok (.aload_n 0, 1) := by decide +kernel
theorem dX6_laysTiles_72 : decode cX6_laysTiles 72 = .ok (.getfield 7, 3) := by decide +kernel
theorem dX6_laysTiles_75 : decode cX6_laysTiles 75 = .ok (.iload_n 1, 1) := by decide +kernel
theorem dX6_laysTiles_76 : decode cX6_laysTiles 76 = .ok (.iconst 4, 1) := by decide +kernel
theorem dX6_laysTiles_77 : decode cX6_laysTiles 77 = .ok (.invokestatic 44, 3) := by decide +kernel
theorem dX6_laysTiles_80 : decode cX6_laysTiles 80 = .ok (.iconst 0, 1) := by decide +kernel
theorem dX6_laysTiles_81 : decode cX6_laysTiles 81 = .ok (.iastore, 1) := by decide +kernel
theorem dX6_laysTiles_82 : decode cX6_laysTiles 82 = .ok (.aload_n 0, 1) := by decide +kernel
theorem dX6_laysTiles_83 : decode cX6_laysTiles 83 = .ok (.getfield 7, 3) := by decide +kernel
theorem dX6_laysTiles_86 : decode cX6_laysTiles 86 = .ok (.iload_n 1, 1) := by decide +kernel
theorem dX6_laysTiles_87 : decode cX6_laysTiles 87 = .ok (.iconst 5, 1) := by decide +kernel
theorem dX6_laysTiles_88 : decode cX6_laysTiles 88 = .ok (.invokestatic 44, 3) := by decide +kernel
theorem dX6_laysTiles_91 : decode cX6_laysTiles 91 = .ok (.iconst (-1), 1) := by decide +kernel
theorem dX6_laysTiles_92 : decode cX6_laysTiles 92 = .ok (.iastore, 1) := by decide +kernel
theorem dX6_laysTiles_93 : decode cX6_laysTiles 93 = .ok (.aload_n 0, 1) := by decide +kernel
theorem dX6_laysTiles_94 : decode cX6_laysTiles 94 = .ok (.getfield 7, 3) := by decide +kernel
theorem dX6_laysTiles_97 : decode cX6_laysTiles 97 = .ok (.iload_n 1, 1) := by decide +kernel
theorem dX6_laysTiles_98 : decode cX6_laysTiles 98 = .ok (.bipush 6, 2) := by decide +kernel
theorem dX6_laysTiles_100 : decode cX6_laysTiles 100 = .ok (.invokestatic 44, 3) := by decide +kernel
theorem dX6_laysTiles_103 : decode cX6_laysTiles 103 = .ok (.iconst 0, 1) := by decide +kernel
theorem dX6_laysTiles_104 : decode cX6_laysTiles 104 = .ok (.iastore, 1) := by decide +kernel
theorem dX6_laysTiles_105 : decode cX6_laysTiles 105 = .ok (.iinc 1 1, 3) := by decide +kernel
theorem dX6_laysTiles_108 : decode cX6_laysTiles 108 = .ok (.iinc 2 1, 3) := by decide +kernel
theorem dX6_laysTiles_111 : decode cX6_laysTiles 111 = .ok (.goto (-107), 3) := by decide +kernel
theorem dX6_laysTiles_114 : decode cX6_laysTiles 114 = .ok (.return_, 1) := by decide +kernel
theorem dX6_shuffles_0 : decode cX6_shuffles 0 = .ok (.aload_n 0, 1) := by decide +kernel
theorem dX6_shuffles_1 : decode cX6_shuffles 1 = .ok (.getfield 7, 3) := by decide +kernel
theorem dX6_shuffles_4 : decode cX6_shuffles 4 = .ok (.sipush 343, 3) := by decide +kernel
theorem dX6_shuffles_7 : decode cX6_shuffles 7 = .ok (.iload_n 1, 1) := by decide +kernel
theorem dX6_shuffles_8 : decode cX6_shuffles 8 = .ok (.iastore, 1) := by decide +kernel
theorem dX6_shuffles_9 : decode cX6_shuffles 9 = .ok (.iconst 0, 1) := by decide +kernel
theorem dX6_shuffles_10 : decode cX6_shuffles 10 = .ok (.istore_n 2, 1) := by decide +kernel
theorem dX6_shuffles_11 : decode cX6_shuffles 11 = .ok (.iload_n 2, 1) := by decide +kernel
theorem dX6_shuffles_12 : decode cX6_shuffles 12 = .ok (.bipush 28, 2) := by decide +kernel
theorem dX6_shuffles_14 : decode cX6_shuffles 14 = .ok (.if_icmp .ge 51, 3) := by decide +kernel
theorem dX6_shuffles_17 : decode cX6_shuffles 17 = .ok (.aload_n 0, 1) := by decide +kernel
theorem dX6_shuffles_18 : decode cX6_shuffles 18 = .ok (.getfield 7, 3) := by decide +kernel
theorem dX6_shuffles_21 : decode cX6_shuffles 21 = .ok (.sipush 343, 3) := by decide +kernel
theorem dX6_shuffles_24 : decode cX6_shuffles 24 = .ok (.aload_n 0, 1) := by decide +kernel
theorem dX6_shuffles_25 : decode cX6_shuffles 25 = .ok (.getfield 7, 3) := by decide +kernel
theorem dX6_shuffles_28 : decode cX6_shuffles 28 = .ok (.sipush 343, 3) := by decide +kernel
theorem dX6_shuffles_31 : decode cX6_shuffles 31 = .ok (.iaload, 1) := by decide +kernel
theorem dX6_shuffles_32 : decode cX6_shuffles 32 = .ok (.sipush 421, 3) := by decide +kernel
theorem dX6_shuffles_35 : decode cX6_shuffles 35 = .ok (.imul, 1) := by decide +kernel
theorem dX6_shuffles_36 : decode cX6_shuffles 36 = .ok (.sipush 1663, 3) := by decide +kernel
theorem dX6_shuffles_39 : decode cX6_shuffles 39 = .ok (.iadd, 1) := by decide +kernel
theorem dX6_shuffles_40 : decode cX6_shuffles 40 = .ok (.sipush 10000, 3) := by decide +kernel
theorem dX6_shuffles_43 : decode cX6_shuffles 43 = .ok (.irem, 1) := by decide +kernel
theorem dX6_shuffles_44 : decode cX6_shuffles 44 = .ok (.iastore, 1) := by decide +kernel
theorem dX6_shuffles_45 : decode cX6_shuffles 45 = .ok (.aload_n 0, 1) := by decide +kernel
theorem dX6_shuffles_46 : decode cX6_shuffles 46 = .ok (.getfield 26, 3) := by decide +kernel
theorem dX6_shuffles_49 : decode cX6_shuffles 49 = .ok (.iload_n 2, 1) := by decide +kernel
theorem dX6_shuffles_50 : decode cX6_shuffles 50 = .ok (.aload_n 0, 1) := by decide +kernel
theorem dX6_shuffles_51 : decode cX6_shuffles 51 = .ok (.getfield 7, 3) := by decide +kernel
theorem dX6_shuffles_54 : decode cX6_shuffles 54 = .ok (.sipush 343, 3) := by decide +kernel
theorem dX6_shuffles_57 : decode cX6_shuffles 57 = .ok (.iaload, 1) := by decide +kernel
theorem dX6_shuffles_58 : decode cX6_shuffles 58 = .ok (.iastore, 1) := by decide +kernel
theorem dX6_shuffles_59 : decode cX6_shuffles 59 = .ok (.iinc 2 1, 3) := by decide +kernel
theorem dX6_shuffles_62 : decode cX6_shuffles 62 = .ok (.goto (-51), 3) := by decide +kernel
theorem dX6_shuffles_65 : decode cX6_shuffles 65 = .ok (.iconst 0, 1) := by decide +kernel
theorem dX6_shuffles_66 : decode cX6_shuffles 66 = .ok (.istore_n 2, 1) := by decide +kernel
theorem dX6_shuffles_67 : decode cX6_shuffles 67 = .ok (.iload_n 2, 1) := by decide +kernel
theorem dX6_shuffles_68 : decode cX6_shuffles 68 = .ok (.bipush 28, 2) := by decide +kernel
theorem dX6_shuffles_70 : decode cX6_shuffles 70 = .ok (.if_icmp .ge 84, 3) := by decide +kernel
theorem dX6_shuffles_73 : decode cX6_shuffles 73 = .ok (.iconst 0, 1) := by decide +kernel
theorem dX6_shuffles_74 : decode cX6_shuffles 74 = .ok (.istore_n 3, 1) := by decide +kernel
theorem dX6_shuffles_75 : decode cX6_shuffles 75 = .ok (.iconst 0, 1) := by decide +kernel
theorem dX6_shuffles_76 : decode cX6_shuffles 76 = .ok (.istore 4, 2) := by decide +kernel
theorem dX6_shuffles_78 : decode cX6_shuffles 78 = .ok (.iload 4, 2) := by decide +kernel
theorem dX6_shuffles_80 : decode cX6_shuffles 80 = .ok (.bipush 28, 2) := by decide +kernel
theorem dX6_shuffles_82 : decode cX6_shuffles 82 = .ok (.if_icmp .ge 55, 3) := by decide +kernel
theorem dX6_shuffles_85 : decode cX6_shuffles 85 = .ok (.iload_n 3, 1) := by decide +kernel
theorem dX6_shuffles_86 : decode cX6_shuffles 86 = .ok (.aload_n 0, 1) := by decide +kernel
theorem dX6_shuffles_87 : decode cX6_shuffles 87 = .ok (.getfield 26, 3) := by decide +kernel
theorem dX6_shuffles_90 : decode cX6_shuffles 90 = .ok (.iload 4, 2) := by decide +kernel
theorem dX6_shuffles_92 : decode cX6_shuffles 92 = .ok (.iaload, 1) := by decide +kernel
theorem dX6_shuffles_93 : decode cX6_shuffles 93 = .ok (.aload_n 0, 1) := by decide +kernel
theorem dX6_shuffles_94 : decode cX6_shuffles 94 = .ok (.getfield 26, 3) := by decide +kernel
theorem dX6_shuffles_97 : decode cX6_shuffles 97 = .ok (.iload_n 2, 1) := by decide +kernel
theorem dX6_shuffles_98 : decode cX6_shuffles 98 = .ok (.iaload, 1) := by decide +kernel
theorem dX6_shuffles_99 : decode cX6_shuffles 99 = .ok (.if_icmp .lt 25, 3) := by decide +kernel
theorem dX6_shuffles_102 : decode cX6_shuffles 102 = .ok (.aload_n 0, 1) := by decide +kernel
theorem dX6_shuffles_103 : decode cX6_shuffles 103 = .ok (.getfield 26, 3) := by decide +kernel
theorem dX6_shuffles_106 : decode cX6_shuffles 106 = .ok (.iload 4, 2) := by decide +kernel
theorem dX6_shuffles_108 : decode cX6_shuffles 108 = .ok (.iaload, 1) := by decide +kernel
theorem dX6_shuffles_109 : decode cX6_shuffles 109 = .ok (.aload_n 0, 1) := by decide +kernel
theorem dX6_shuffles_110 : decode cX6_shuffles 110 = .ok (.getfield 26, 3) := by decide +kernel
theorem dX6_shuffles_113 : decode cX6_shuffles 113 = .ok (.iload_n 2, 1) := by decide +kernel
theorem dX6_shuffles_114 : decode cX6_shuffles 114 = .ok (.iaload, 1) := by decide +kernel
theorem dX6_shuffles_115 : decode cX6_shuffles 115 = .ok (.if_icmp .ne 13, 3) := by decide +kernel
theorem dX6_shuffles_118 : decode cX6_shuffles 118 = .ok (.iload 4, 2) := by decide +kernel
theorem dX6_shuffles_120 : decode cX6_shuffles 120 = .ok (.iload_n 2, 1) := by decide +kernel
theorem dX6_shuffles_121 : decode cX6_shuffles 121 = .ok (.if_icmp .ge 7, 3) := by decide +kernel
theorem dX6_shuffles_124 : decode cX6_shuffles 124 = .ok (.iconst 1, 1) := by decide +kernel
theorem dX6_shuffles_125 : decode cX6_shuffles 125 = .ok (.goto 4, 3) := by decide +kernel
theorem dX6_shuffles_128 : decode cX6_shuffles 128 = .ok (.iconst 0, 1) := by decide +kernel
theorem dX6_shuffles_129 : decode cX6_shuffles 129 = .ok (.iadd, 1) := by decide +kernel
theorem dX6_shuffles_130 : decode cX6_shuffles 130 = .ok (.istore_n 3, 1) := by decide +kernel
theorem dX6_shuffles_131 : decode cX6_shuffles 131 = .ok (.iinc 4 1, 3) := by decide +kernel
theorem dX6_shuffles_134 : decode cX6_shuffles 134 = .ok (.goto (-56), 3) := by decide +kernel
theorem dX6_shuffles_137 : decode cX6_shuffles 137 = .ok (.aload_n 0, 1) := by decide +kernel
theorem dX6_shuffles_138 : decode cX6_shuffles 138 = .ok (.getfield 7, 3) := by decide +kernel
theorem dX6_shuffles_141 : decode cX6_shuffles 141 = .ok (.sipush 196, 3) := by decide +kernel
theorem dX6_shuffles_144 : decode cX6_shuffles 144 = .ok (.iload_n 3, 1) := by decide +kernel
theorem dX6_shuffles_145 : decode cX6_shuffles 145 = .ok (.iadd, 1) := by decide +kernel
theorem dX6_shuffles_146 : decode cX6_shuffles 146 = .ok (.iload_n 2, 1) := by decide +kernel
theorem dX6_shuffles_147 : decode cX6_shuffles 147 = .ok (.iastore, 1) := by decide +kernel
theorem dX6_shuffles_148 : decode cX6_shuffles 148 = .ok (.iinc 2 1, 3) := by decide +kernel
theorem dX6_shuffles_151 : decode cX6_shuffles 151 = .ok (.goto (-84), 3) := by decide +kernel
theorem dX6_shuffles_154 : decode cX6_shuffles 154 = .ok (.aload_n 0, 1) := by decide +kernel
theorem dX6_shuffles_155 : decode cX6_shuffles 155 = .ok (.getfield 7, 3) := by decide +kernel
theorem dX6_shuffles_158 : decode cX6_shuffles 158 = .ok (.sipush 224, 3) := by decide +kernel
theorem dX6_shuffles_161 : decode cX6_shuffles 161 = .ok (.iconst 0, 1) := by decide +kernel
theorem dX6_shuffles_162 : decode cX6_shuffles 162 = .ok (.iastore, 1) := by decide +kernel
theorem dX6_shuffles_163 : decode cX6_shuffles 163 = .ok (.return_, 1) := by decide +kernel
theorem dX6_takes_0 : decode cX6_takes 0 = .ok (.aload_n 0, 1) := by decide +kernel
theorem dX6_takes_1 : decode cX6_takes 1 = .ok (.getfield 7, 3) := by decide +kernel
theorem dX6_takes_4 : decode cX6_takes 4 = .ok (.sipush 196, 3) := by decide +kernel
theorem dX6_takes_7 : decode cX6_takes 7 = .ok (.aload_n 0, 1) := by decide +kernel
theorem dX6_takes_8 : decode cX6_takes 8 = .ok (.getfield 7, 3) := by decide +kernel
theorem dX6_takes_11 : decode cX6_takes 11 = .ok (.sipush 224, 3) := by decide +kernel
theorem dX6_takes_14 : decode cX6_takes 14 = .ok (.iaload, 1) := by decide +kernel
theorem dX6_takes_15 : decode cX6_takes 15 = .ok (.iadd, 1) := by decide +kernel
theorem dX6_takes_16 : decode cX6_takes 16 = .ok (.iaload, 1) := by decide +kernel
theorem dX6_takes_17 : decode cX6_takes 17 = .ok (.istore_n 2, 1) := by decide +kernel
theorem dX6_takes_18 : decode cX6_takes 18 = .ok (.aload_n 0, 1) := by decide +kernel
theorem dX6_takes_19 : decode cX6_takes 19 = .ok (.getfield 7, 3) := by decide +kernel
theorem dX6_takes_22 : decode cX6_takes 22 = .ok (.sipush 224, 3) := by decide +kernel
theorem dX6_takes_25 : decode cX6_takes 25 = .ok (.dup2, 1) := by decide +kernel
theorem dX6_takes_26 : decode cX6_takes 26 = .ok (.iaload, 1) := by decide +kernel
theorem dX6_takes_27 : decode cX6_takes 27 = .ok (.iconst 1, 1) := by decide +kernel
theorem dX6_takes_28 : decode cX6_takes 28 = .ok (.iadd, 1) := by decide +kernel
theorem dX6_takes_29 : decode cX6_takes 29 = .ok (.iastore, 1) := by decide +kernel
theorem dX6_takes_30 : decode cX6_takes 30 = .ok (.aload_n 0, 1) := by decide +kernel
theorem dX6_takes_31 : decode cX6_takes 31 = .ok (.getfield 7, 3) := by decide +kernel
theorem dX6_takes_34 : decode cX6_takes 34 = .ok (.iload_n 2, 1) := by decide +kernel
theorem dX6_takes_35 : decode cX6_takes 35 = .ok (.iconst 2, 1) := by decide +kernel
theorem dX6_takes_36 : decode cX6_takes 36 = .ok (.invokestatic 44, 3) := by decide +kernel
theorem dX6_takes_39 : decode cX6_takes 39 = .ok (.iconst 1, 1) := by decide +kernel
theorem dX6_takes_40 : decode cX6_takes 40 = .ok (.iastore, 1) := by decide +kernel
theorem dX6_takes_41 : decode cX6_takes 41 = .ok (.aload_n 0, 1) := by decide +kernel
theorem dX6_takes_42 : decode cX6_takes 42 = .ok (.getfield 7, 3) := by decide +kernel
theorem dX6_takes_45 : decode cX6_takes 45 = .ok (.iload_n 2, 1) := by decide +kernel
theorem dX6_takes_46 : decode cX6_takes 46 = .ok (.iconst 3, 1) := by decide +kernel
theorem dX6_takes_47 : decode cX6_takes 47 = .ok (.invokestatic 44, 3) := by decide +kernel
theorem dX6_takes_50 : decode cX6_takes 50 = .ok (.iload_n 1, 1) := by decide +kernel
theorem dX6_takes_51 : decode cX6_takes 51 = .ok (.iastore, 1) := by decide +kernel
theorem dX6_takes_52 : decode cX6_takes 52 = .ok (.aload_n 0, 1) := by decide +kernel
theorem dX6_takes_53 : decode cX6_takes 53 = .ok (.getfield 7, 3) := by decide +kernel
theorem dX6_takes_56 : decode cX6_takes 56 = .ok (.iload_n 1, 1) := by decide +kernel
theorem dX6_takes_57 : decode cX6_takes 57 = .ok (.aload_n 0, 1) := by decide +kernel
theorem dX6_takes_58 : decode cX6_takes 58 = .ok (.getfield 7, 3) := by decide +kernel
theorem dX6_takes_61 : decode cX6_takes 61 = .ok (.sipush 337, 3) := by decide +kernel
theorem dX6_takes_64 : decode cX6_takes 64 = .ok (.iload_n 1, 1) := by decide +kernel
theorem dX6_takes_65 : decode cX6_takes 65 = .ok (.iadd, 1) := by decide +kernel
theorem dX6_takes_66 : decode cX6_takes 66 = .ok (.iaload, 1) := by decide +kernel
theorem dX6_takes_67 : decode cX6_takes 67 = .ok (.invokestatic 48, 3) := by decide +kernel
theorem dX6_takes_70 : decode cX6_takes 70 = .ok (.iload_n 2, 1) := by decide +kernel
theorem dX6_takes_71 : decode cX6_takes 71 = .ok (.iastore, 1) := by decide +kernel
theorem dX6_takes_72 : decode cX6_takes 72 = .ok (.aload_n 0, 1) := by decide +kernel
theorem dX6_takes_73 : decode cX6_takes 73 = .ok (.getfield 7, 3) := by decide +kernel
theorem dX6_takes_76 : decode cX6_takes 76 = .ok (.sipush 337, 3) := by decide +kernel
theorem dX6_takes_79 : decode cX6_takes 79 = .ok (.iload_n 1, 1) := by decide +kernel
theorem dX6_takes_80 : decode cX6_takes 80 = .ok (.iadd, 1) := by decide +kernel
theorem dX6_takes_81 : decode cX6_takes 81 = .ok (.dup2, 1) := by decide +kernel
theorem dX6_takes_82 : decode cX6_takes 82 = .ok (.iaload, 1) := by decide +kernel
theorem dX6_takes_83 : decode cX6_takes 83 = .ok (.iconst 1, 1) := by decide +kernel
theorem dX6_takes_84 : decode cX6_takes 84 = .ok (.iadd, 1) := by decide +kernel
theorem dX6_takes_85 : decode cX6_takes 85 = .ok (.iastore, 1) := by decide +kernel
theorem dX6_takes_86 : decode cX6_takes 86 = .ok (.iload_n 2, 1) := by decide +kernel
theorem dX6_takes_87 : decode cX6_takes 87 = .ok (.ireturn, 1) := by decide +kernel
theorem dX6_begins_0 : decode cX6_begins 0 = .ok (.aload_n 0, 1) := by decide +kernel
theorem dX6_begins_1 : decode cX6_begins 1 = .ok (.invokevirtual 51, 3) := by decide +kernel
theorem dX6_begins_4 : decode cX6_begins 4 = .ok (.aload_n 0, 1) := by decide +kernel
theorem dX6_begins_5 : decode cX6_begins 5 = .ok (.iload_n 2, 1) := by decide +kernel
theorem dX6_begins_6 : decode cX6_begins 6 = .ok (.invokevirtual 54, 3) := by decide +kernel
theorem dX6_begins_9 : decode cX6_begins 9 = .ok (.aload_n 0, 1) := by decide +kernel
theorem dX6_begins_10 : decode cX6_begins 10 = .ok (.getfield 7, 3) := by decide +kernel
theorem dX6_begins_13 : decode cX6_begins 13 = .ok (.sipush 341, 3) := by decide +kernel
theorem dX6_begins_16 : decode cX6_begins 16 = .ok (.iload_n 1, 1) := by decide +kernel
theorem dX6_begins_17 : decode cX6_begins 17 = .ok (.iastore, 1) := by decide +kernel
theorem dX6_begins_18 : decode cX6_begins 18 = .ok (.aload_n 0, 1) := by decide +kernel
theorem dX6_begins_19 : decode cX6_begins 19 = .ok (.getfield 7, 3) := by decide +kernel
theorem dX6_begins_22 : decode cX6_begins 22 = .ok (.sipush 342, 3) := by decide +kernel
theorem dX6_begins_25 : decode cX6_begins 25 = .ok (.iconst 0, 1) := by decide +kernel
theorem dX6_begins_26 : decode cX6_begins 26 = .ok (.iastore, 1) := by decide +kernel
theorem dX6_begins_27 : decode cX6_begins 27 = .ok (.aload_n 0, 1) := by decide +kernel
theorem dX6_begins_28 : decode cX6_begins 28 = .ok (.getfield 7, 3) := by decide +kernel
theorem dX6_begins_31 : decode cX6_begins 31 = .ok (.sipush 344, 3) := by decide +kernel
theorem dX6_begins_34 : decode cX6_begins 34 = .ok (.iconst 0, 1) := by decide +kernel
theorem dX6_begins_35 : decode cX6_begins 35 = .ok (.iastore, 1) := by decide +kernel
theorem dX6_begins_36 : decode cX6_begins 36 = .ok (.aload_n 0, 1) := by decide +kernel
theorem dX6_begins_37 : decode cX6_begins 37 = .ok (.getfield 7, 3) := by decide +kernel
theorem dX6_begins_40 : decode cX6_begins 40 = .ok (.sipush 345, 3) := by decide +kernel
theorem dX6_begins_43 : decode cX6_begins 43 = .ok (.iconst 0, 1) := by decide +kernel
theorem dX6_begins_44 : decode cX6_begins 44 = .ok (.iastore, 1) := by decide +kernel
theorem dX6_begins_45 : decode cX6_begins 45 = .ok (.iconst 0, 1) := by decide +kernel
theorem dX6_begins_46 : decode cX6_begins 46 = .ok (.istore_n 3, 1) := by decide +kernel
theorem dX6_begins_47 : decode cX6_begins 47 = .ok (.iload_n 3, 1) := by decide +kernel
theorem dX6_begins_48 : decode cX6_begins 48 = .ok (.iconst 4, 1) := by decide +kernel
theorem dX6_begins_49 : decode cX6_begins 49 = .ok (.if_icmp .ge 53, 3) := by decide +kernel
theorem dX6_begins_52 : decode cX6_begins 52 = .ok (.aload_n 0, 1) := by decide +kernel
theorem dX6_begins_53 : decode cX6_begins 53 = .ok (.getfield 7, 3) := by decide +kernel
theorem dX6_begins_56 : decode cX6_begins 56 = .ok (.sipush 337, 3) := by decide +kernel
theorem dX6_begins_59 : decode cX6_begins 59 = .ok (.iload_n 3, 1) := by decide +kernel
theorem dX6_begins_60 : decode cX6_begins 60 = .ok (.iadd, 1) := by decide +kernel
theorem dX6_begins_61 : decode cX6_begins 61 = .ok (.iconst 0, 1) := by decide +kernel
theorem dX6_begins_62 : decode cX6_begins 62 = .ok (.iastore, 1) := by decide +kernel
theorem dX6_begins_63 : decode cX6_begins 63 = .ok (.aload_n 0, 1) := by decide +kernel
theorem dX6_begins_64 : decode cX6_begins 64 = .ok (.getfield 7, 3) := by decide +kernel
theorem dX6_begins_67 : decode cX6_begins 67 = .ok (.sipush 346, 3) := by decide +kernel
theorem dX6_begins_70 : decode cX6_begins 70 = .ok (.iload_n 3, 1) := by decide +kernel
theorem dX6_begins_71 : decode cX6_begins 71 = .ok (.iadd, 1) := by decide +kernel
theorem dX6_begins_72 : decode cX6_begins 72 = .ok (.iconst 0, 1) := by decide +kernel
theorem dX6_begins_73 : decode cX6_begins 73 = .ok (.iastore, 1) := by decide +kernel
theorem dX6_begins_74 : decode cX6_begins 74 = .ok (.aload_n 0, 1) := by decide +kernel
theorem dX6_begins_75 : decode cX6_begins 75 = .ok (.getfield 7, 3) := by decide +kernel
theorem dX6_begins_78 : decode cX6_begins 78 = .ok (.sipush 350, 3) := by decide +kernel
theorem dX6_begins_81 : decode cX6_begins 81 = .ok (.iload_n 3, 1) := by decide +kernel
theorem dX6_begins_82 : decode cX6_begins 82 = .ok (.iadd, 1) := by decide +kernel
theorem dX6_begins_83 : decode cX6_begins 83 = .ok (.iconst 0, 1) := by decide +kernel
theorem dX6_begins_84 : decode cX6_begins 84 = .ok (.iastore, 1) := by decide +kernel
theorem dX6_begins_85 : decode cX6_begins 85 = .ok (.aload_n 0, 1) := by decide +kernel
theorem dX6_begins_86 : decode cX6_begins 86 = .ok (.getfield 7, 3) := by decide +kernel
theorem dX6_begins_89 : decode cX6_begins 89 = .ok (.sipush 354, 3) := by decide +kernel
theorem dX6_begins_92 : decode cX6_begins 92 = .ok (.iload_n 3, 1) := by decide +kernel
theorem dX6_begins_93 : decode cX6_begins 93 = .ok (.iadd, 1) := by decide +kernel
theorem dX6_begins_94 : decode cX6_begins 94 = .ok (.iconst 0, 1) := by decide +kernel
theorem dX6_begins_95 : decode cX6_begins 95 = .ok (.iastore, 1) := by decide +kernel
theorem dX6_begins_96 : decode cX6_begins 96 = .ok (.iinc 3 1, 3) := by decide +kernel
theorem dX6_begins_99 : decode cX6_begins 99 = .ok (.goto (-52), 3) := by decide +kernel
theorem dX6_begins_102 : decode cX6_begins 102 = .ok (.iconst 0, 1) := by decide +kernel
theorem dX6_begins_103 : decode cX6_begins 103 = .ok (.istore_n 3, 1) := by decide +kernel
theorem dX6_begins_104 : decode cX6_begins 104 = .ok (.iload_n 3, 1) := by decide +kernel
theorem dX6_begins_105 : decode cX6_begins 105 = .ok (.iconst 5, 1) := by decide +kernel
theorem dX6_begins_106 : decode cX6_begins 106 = .ok (.iload_n 1, 1) := by decide +kernel
theorem dX6_begins_107 : decode cX6_begins 107 = .ok (.imul, 1) := by decide +kernel
theorem dX6_begins_108 : decode cX6_begins 108 = .ok (.if_icmp .ge 18, 3) := by decide +kernel
theorem dX6_begins_111 : decode cX6_begins 111 = .ok (.aload_n 0, 1) := by decide +kernel
theorem dX6_begins_112 : decode cX6_begins 112 = .ok (.iload_n 3, 1) := by decide +kernel
theorem dX6_begins_113 : decode cX6_begins 113 = .ok (.iconst 5, 1) := by decide +kernel
theorem dX6_begins_114 : decode cX6_begins 114 = .ok (.idiv, 1) := by decide +kernel
theorem dX6_begins_115 : decode cX6_begins 115 = .ok (.invokevirtual 58, 3) := by decide +kernel
theorem dX6_begins_118 : decode cX6_begins 118 = .ok (.istore 4, 2) := by decide +kernel
theorem dX6_begins_120 : decode cX6_begins 120 = .ok (.iinc 3 1, 3) := by decide +kernel
theorem dX6_begins_123 : decode cX6_begins 123 = .ok (.goto (-19), 3) := by decide +kernel
theorem dX6_begins_126 : decode cX6_begins 126 = .ok (.iconst 0, 1) := by decide +kernel
theorem dX6_begins_127 : decode cX6_begins 127 = .ok (.istore_n 3, 1) := by decide +kernel
theorem dX6_begins_128 : decode cX6_begins 128 = .ok (.iload_n 3, 1) := by decide +kernel
theorem dX6_begins_129 : decode cX6_begins 129 = .ok (.iconst 3, 1) := by decide +kernel
theorem dX6_begins_130 : decode cX6_begins 130 = .ok (.if_icmp .ge 53, 3) := by decide +kernel
theorem dX6_begins_133 : decode cX6_begins 133 = .ok (.aload_n 0, 1) := by decide +kernel
theorem dX6_begins_134 : decode cX6_begins 134 = .ok (.getfield 7, 3) := by decide +kernel
theorem dX6_begins_137 : decode cX6_begins 137 = .ok (.iload_n 3, 1) := by decide +kernel
theorem dX6_begins_138 : decode cX6_begins 138 = .ok (.iconst 0, 1) := by decide +kernel
theorem dX6_begins_139 : decode cX6_begins 139 = .ok (.invokestatic 62, 3) := by decide +kernel
theorem dX6_begins_142 : decode cX6_begins 142 = .ok (.iconst 0, 1) := by decide +kernel
theorem dX6_begins_143 : decode cX6_begins 143 = .ok (.iastore, 1) := by decide +kernel
theorem dX6_begins_144 : decode cX6_begins 144 = .ok (.aload_n 0, 1) := by decide +kernel
theorem dX6_begins_145 : decode cX6_begins 145 = .ok (.getfield 7, 3) := by decide +kernel
theorem dX6_begins_148 : decode cX6_begins 148 = .ok (.iload_n 3, 1) := by decide +kernel
theorem dX6_begins_149 : decode cX6_begins 149 = .ok (.iconst 1, 1) := by decide +kernel
theorem dX6_begins_150 : decode cX6_begins 150 = .ok (.invokestatic 62, 3) := by decide +kernel
theorem dX6_begins_153 : decode cX6_begins 153 = .ok (.iconst (-1), 1) := by decide +kernel
theorem dX6_begins_154 : decode cX6_begins 154 = .ok (.iastore, 1) := by decide +kernel
theorem dX6_begins_155 : decode cX6_begins 155 = .ok (.aload_n 0, 1) := by decide +kernel
theorem dX6_begins_156 : decode cX6_begins 156 = .ok (.getfield 7, 3) := by decide +kernel
theorem dX6_begins_159 : decode cX6_begins 159 = .ok (.iload_n 3, 1) := by decide +kernel
theorem dX6_begins_160 : decode cX6_begins 160 = .ok (.iconst 2, 1) := by decide +kernel
theorem dX6_begins_161 : decode cX6_begins 161 = .ok (.invokestatic 62, 3) := by decide +kernel
theorem dX6_begins_164 : decode cX6_begins 164 = .ok (.iconst (-1), 1) := by decide +kernel
theorem dX6_begins_165 : decode cX6_begins 165 = .ok (.iastore, 1) := by decide +kernel
theorem dX6_begins_166 : decode cX6_begins 166 = .ok (.aload_n 0, 1) := by decide +kernel
theorem dX6_begins_167 : decode cX6_begins 167 = .ok (.getfield 7, 3) := by decide +kernel
theorem dX6_begins_170 : decode cX6_begins 170 = .ok (.iload_n 3, 1) := by decide +kernel
theorem dX6_begins_171 : decode cX6_begins 171 = .ok (.iconst 3, 1) := by decide +kernel
theorem dX6_begins_172 : decode cX6_begins 172 = .ok (.invokestatic 62, 3) := by decide +kernel
theorem dX6_begins_175 : decode cX6_begins 175 = .ok (.iconst (-1), 1) := by decide +kernel
theorem dX6_begins_176 : decode cX6_begins 176 = .ok (.iastore, 1) := by decide +kernel
theorem dX6_begins_177 : decode cX6_begins 177 = .ok (.iinc 3 1, 3) := by decide +kernel
theorem dX6_begins_180 : decode cX6_begins 180 = .ok (.goto (-52), 3) := by decide +kernel
theorem dX6_begins_183 : decode cX6_begins 183 = .ok (.return_, 1) := by decide +kernel
theorem dX6_inStock_0 : decode cX6_inStock 0 = .ok (.bipush 28, 2) := by decide +kernel
theorem dX6_inStock_2 : decode cX6_inStock 2 = .ok (.aload_n 0, 1) := by decide +kernel
theorem dX6_inStock_3 : decode cX6_inStock 3 = .ok (.getfield 7, 3) := by decide +kernel
theorem dX6_inStock_6 : decode cX6_inStock 6 = .ok (.sipush 224, 3) := by decide +kernel
theorem dX6_inStock_9 : decode cX6_inStock 9 = .ok (.iaload, 1) := by decide +kernel
theorem dX6_inStock_10 : decode cX6_inStock 10 = .ok (.isub, 1) := by decide +kernel
theorem dX6_inStock_11 : decode cX6_inStock 11 = .ok (.ireturn, 1) := by decide +kernel
theorem dX6_begin_0 : decode cX6_begin 0 = .ok (.aload_n 0, 1) := by decide +kernel
theorem dX6_begin_1 : decode cX6_begin 1 = .ok (.iload_n 1, 1) := by decide +kernel
theorem dX6_begin_2 : decode cX6_begin 2 = .ok (.iconst 2, 1) := by decide +kernel
theorem dX6_begin_3 : decode cX6_begin 3 = .ok (.iconst 4, 1) := by decide +kernel
theorem dX6_begin_4 : decode cX6_begin 4 = .ok (.invokestatic 37, 3) := by decide +kernel
theorem dX6_begin_7 : decode cX6_begin 7 = .ok (.ifCond .eq 18, 3) := by decide +kernel
theorem dX6_begin_10 : decode cX6_begin 10 = .ok (.iload_n 2, 1) := by decide +kernel
theorem dX6_begin_11 : decode cX6_begin 11 = .ok (.iconst 0, 1) := by decide +kernel
theorem dX6_begin_12 : decode cX6_begin 12 = .ok (.sipush 9999, 3) := by decide +kernel
theorem dX6_begin_15 : decode cX6_begin 15 = .ok (.invokestatic 37, 3) := by decide +kernel
theorem dX6_begin_18 : decode cX6_begin 18 = .ok (.ifCond .eq 7, 3) := by decide +kernel
theorem dX6_begin_21 : decode cX6_begin 21 = .ok (.iconst 0, 1) := by decide +kernel
theorem dX6_begin_22 : decode cX6_begin 22 = .ok (.goto 4, 3) := by decide +kernel
theorem dX6_begin_25 : decode cX6_begin 25 = .ok (.iconst 1, 1) := by decide +kernel
theorem dX6_begin_26 : decode cX6_begin 26 = .ok (.invokevirtual 65, 3) := by decide +kernel
theorem dX6_begin_29 : decode cX6_begin 29 = .ok (.ifCond .ne 5, 3) := by decide +kernel
theorem dX6_begin_32 : decode cX6_begin 32 = .ok (.iconst 0, 1) := by decide +kernel
theorem dX6_begin_33 : decode cX6_begin 33 = .ok (.ireturn, 1) := by decide +kernel
theorem dX6_begin_34 : decode cX6_begin 34 = .ok (.aload_n 0, 1) := by decide +kernel
theorem dX6_begin_35 : decode cX6_begin 35 = .ok (.invokevirtual 69, 3) := by decide +kernel
theorem dX6_begin_38 : decode cX6_begin 38 = .ok (.aload_n 0, 1) := by decide +kernel
theorem dX6_begin_39 : decode cX6_begin 39 = .ok (.iload_n 1, 1) := by decide +kernel
theorem dX6_begin_40 : decode cX6_begin 40 = .ok (.iload_n 2, 1) := by decide +kernel
theorem dX6_begin_41 : decode cX6_begin 41 = .ok (.invokevirtual 29, 3) := by decide +kernel
theorem dX6_begin_44 : decode cX6_begin 44 = .ok (.aload_n 0, 1) := by decide +kernel
theorem dX6_begin_45 : decode cX6_begin 45 = .ok (.invokevirtual 72, 3) := by decide +kernel
theorem dX6_begin_48 : decode cX6_begin 48 = .ok (.ireturn, 1) := by decide +kernel
theorem dX6_fits_0 : decode cX6_fits 0 = .ok (.aload_n 0, 1) := by decide +kernel
theorem dX6_fits_1 : decode cX6_fits 1 = .ok (.getfield 7, 3) := by decide +kernel
theorem dX6_fits_4 : decode cX6_fits 4 = .ok (.iload_n 2, 1) := by decide +kernel
theorem dX6_fits_5 : decode cX6_fits 5 = .ok (.iconst 1, 1) := by decide +kernel
theorem dX6_fits_6 : decode cX6_fits 6 = .ok (.iload_n 3, 1) := by decide +kernel
theorem dX6_fits_7 : decode cX6_fits 7 = .ok (.iadd, 1) := by decide +kernel
theorem dX6_fits_8 : decode cX6_fits 8 = .ok (.invokestatic 62, 3) := by decide +kernel
theorem dX6_fits_11 : decode cX6_fits 11 = .ok (.iaload, 1) := by decide +kernel
theorem dX6_fits_12 : decode cX6_fits 12 = .ok (.istore 4, 2) := by decide +kernel
theorem dX6_fits_14 : decode cX6_fits 14 = .ok (.aload_n 0, 1) := by decide +kernel
theorem dX6_fits_15 : decode cX6_fits 15 = .ok (.getfield 7, 3) := by decide +kernel
theorem dX6_fits_18 : decode cX6_fits 18 = .ok (.iload_n 2, 1) := by decide +kernel
theorem dX6_fits_19 : decode cX6_fits 19 = .ok (.iconst 0, 1) := by decide +kernel
theorem dX6_fits_20 : decode cX6_fits 20 = .ok (.invokestatic 62, 3) := by decide +kernel
theorem dX6_fits_23 : decode cX6_fits 23 = .ok (.iaload, 1) := by decide +kernel
theorem dX6_fits_24 : decode cX6_fits 24 = .ok (.ifCond .eq 33, 3) := by decide +kernel
theorem dX6_fits_27 : decode cX6_fits 27 = .ok (.aload_n 0, 1) := by decide +kernel
theorem dX6_fits_28 : decode cX6_fits 28 = .ok (.getfield 7, 3) := by decide +kernel
theorem dX6_fits_31 : decode cX6_fits 31 = .ok (.iload_n 1, 1) := by decide +kernel
theorem dX6_fits_32 : decode cX6_fits 32 = .ok (.iconst 0, 1) := by decide +kernel
theorem dX6_fits_33 : decode cX6_fits 33 = .ok (.invokestatic 44, 3) := by decide +kernel
theorem dX6_fits_36 : decode cX6_fits 36 = .ok (.iaload, 1) := by decide +kernel
theorem dX6_fits_37 : decode cX6_fits 37 = .ok (.iload 4, 2) := by decide +kernel
theorem dX6_fits_39 : decode cX6_fits 39 = .ok (.if_icmp .eq 18, 3) := by decide +kernel
theorem dX6_fits_42 : decode cX6_fits 42 = .ok (.aload_n 0, 1) := by decide +kernel
theorem dX6_fits_43 : decode cX6_fits 43 = .ok (.getfield 7, 3) := by decide +kernel
theorem dX6_fits_46 : decode cX6_fits 46 = .ok (.iload_n 1, 1) := by decide +kernel
theorem dX6_fits_47 : decode cX6_fits 47 = .ok (.iconst 1, 1) := by decide +kernel
theorem dX6_fits_48 : decode cX6_fits 48 = .ok (.invokestatic 44, 3) := by decide +kernel
theorem dX6_fits_51 : decode cX6_fits 51 = .ok (.iaload, 1) := by decide +kernel
theorem dX6_fits_52 : decode cX6_fits 52 = .ok (.iload 4, 2) := by decide +kernel
theorem dX6_fits_54 : decode cX6_fits 54 = .ok (.if_icmp .ne 7, 3) := by decide +kernel
theorem dX6_fits_57 : decode cX6_fits 57 = .ok (.iconst 1, 1) := by decide +kernel
theorem dX6_fits_58 : decode cX6_fits 58 = .ok (.goto 4, 3) := by decide +kernel
theorem dX6_fits_61 : decode cX6_fits 61 = .ok (.iconst 0, 1) := by decide +kernel
theorem dX6_fits_62 : decode cX6_fits 62 = .ok (.ireturn, 1) := by decide +kernel
theorem dX6_refusal_0 : decode cX6_refusal 0 = .ok (.aload_n 0, 1) := by decide +kernel
theorem dX6_refusal_1 : decode cX6_refusal 1 = .ok (.getfield 7, 3) := by decide +kernel
theorem dX6_refusal_4 : decode cX6_refusal 4 = .ok (.sipush 342, 3) := by decide +kernel
theorem dX6_refusal_7 : decode cX6_refusal 7 = .ok (.iaload, 1) := by decide +kernel
theorem dX6_refusal_8 : decode cX6_refusal 8 = .ok (.iconst (-1), 1) := by decide +kernel
theorem dX6_refusal_9 : decode cX6_refusal 9 = .ok (.if_icmp .ne 5, 3) := by decide +kernel
theorem dX6_refusal_12 : decode cX6_refusal 12 = .ok (.iconst 1, 1) := by decide +kernel
theorem dX6_refusal_13 : decode cX6_refusal 13 = .ok (.ireturn, 1) := by decide +kernel
theorem dX6_refusal_14 : decode cX6_refusal 14 = .ok (.iload_n 1, 1) := by decide +kernel
theorem dX6_refusal_15 : decode cX6_refusal 15 = .ok (.iconst 0, 1) := by decide +kernel
theorem dX6_refusal_16 : decode cX6_refusal 16 = .ok (.aload_n 0, 1) := by decide +kernel
theorem dX6_refusal_17 : decode cX6_refusal 17 = .ok (.getfield 7, 3) := by decide +kernel
theorem dX6_refusal_20 : decode cX6_refusal 20 = .ok (.sipush 337, 3) := by decide +kernel
theorem dX6_refusal_23 : decode cX6_refusal 23 = .ok (.aload_n 0, 1) := by decide +kernel
theorem dX6_refusal_24 : decode cX6_refusal 24 = .ok (.getfield 7, 3) := by decide +kernel
theorem dX6_refusal_27 : decode cX6_refusal 27 = .ok (.sipush 342, 3) := by decide +kernel
theorem dX6_refusal_30 : decode cX6_refusal 30 = .ok (.iaload, 1) := by decide +kernel
theorem dX6_refusal_31 : decode cX6_refusal 31 = .ok (.iadd, 1) := by decide +kernel
theorem dX6_refusal_32 : decode cX6_refusal 32 = .ok (.iaload, 1) := by decide +kernel
theorem dX6_refusal_33 : decode cX6_refusal 33 = .ok (.iconst 1, 1) := by decide +kernel
theorem dX6_refusal_34 : decode cX6_refusal 34 = .ok (.isub, 1) := by decide +kernel
theorem dX6_refusal_35 : decode cX6_refusal 35 = .ok (.invokestatic 37, 3) := by decide +kernel
theorem dX6_refusal_38 : decode cX6_refusal 38 = .ok (.ifCond .ne 5, 3) := by decide +kernel
theorem dX6_refusal_41 : decode cX6_refusal 41 = .ok (.iconst 2, 1) := by decide +kernel
theorem dX6_refusal_42 : decode cX6_refusal 42 = .ok (.ireturn, 1) := by decide +kernel
theorem dX6_refusal_43 : decode cX6_refusal 43 = .ok (.aload_n 0, 1) := by decide +kernel
theorem dX6_refusal_44 : decode cX6_refusal 44 = .ok (.aload_n 0, 1) := by decide +kernel
theorem dX6_refusal_45 : decode cX6_refusal 45 = .ok (.getfield 7, 3) := by decide +kernel
theorem dX6_refusal_48 : decode cX6_refusal 48 = .ok (.aload_n 0, 1) := by decide +kernel
theorem dX6_refusal_49 : decode cX6_refusal 49 = .ok (.getfield 7, 3) := by decide +kernel
theorem dX6_refusal_52 : decode cX6_refusal 52 = .ok (.sipush 342, 3) := by decide +kernel
theorem dX6_refusal_55 : decode cX6_refusal 55 = .ok (.iaload, 1) := by decide +kernel
theorem dX6_refusal_56 : decode cX6_refusal 56 = .ok (.iload_n 1, 1) := by decide +kernel
theorem dX6_refusal_57 : decode cX6_refusal 57 = .ok (.invokestatic 48, 3) := by decide +kernel
theorem dX6_refusal_60 : decode cX6_refusal 60 = .ok (.iaload, 1) := by decide +kernel
theorem dX6_refusal_61 : decode cX6_refusal 61 = .ok (.iload_n 2, 1) := by decide +kernel
theorem dX6_refusal_62 : decode cX6_refusal 62 = .ok (.iload_n 3, 1) := by decide +kernel
theorem dX6_refusal_63 : decode cX6_refusal 63 = .ok (.invokevirtual 76, 3) := by decide +kernel
theorem dX6_refusal_66 : decode cX6_refusal 66 = .ok (.ifCond .eq 7, 3) := by decide +kernel
theorem dX6_refusal_69 : decode cX6_refusal 69 = .ok (.iconst 0, 1) := by decide +kernel
theorem dX6_refusal_70 : decode cX6_refusal 70 = .ok (.goto 4, 3) := by decide +kernel
theorem dX6_refusal_73 : decode cX6_refusal 73 = .ok (.iconst 3, 1) := by decide +kernel
theorem dX6_refusal_74 : decode cX6_refusal 74 = .ok (.ireturn, 1) := by decide +kernel
theorem dX6_rusts_0 : decode cX6_rusts 0 = .ok (.aload_n 0, 1) := by decide +kernel
theorem dX6_rusts_1 : decode cX6_rusts 1 = .ok (.getfield 7, 3) := by decide +kernel
theorem dX6_rusts_4 : decode cX6_rusts 4 = .ok (.iload_n 1, 1) := by decide +kernel
theorem dX6_rusts_5 : decode cX6_rusts 5 = .ok (.iconst 1, 1) := by decide +kernel
theorem dX6_rusts_6 : decode cX6_rusts 6 = .ok (.invokestatic 44, 3) := by decide +kernel
theorem dX6_rusts_9 : decode cX6_rusts 9 = .ok (.iaload, 1) := by decide +kernel
theorem dX6_rusts_10 : decode cX6_rusts 10 = .ok (.aload_n 0, 1) := by decide +kernel
theorem dX6_rusts_11 : decode cX6_rusts 11 = .ok (.getfield 7, 3) := by decide +kernel
theorem dX6_rusts_14 : decode cX6_rusts 14 = .ok (.iload_n 1, 1) := by decide +kernel
theorem dX6_rusts_15 : decode cX6_rusts 15 = .ok (.iconst 0, 1) := by decide +kernel
theorem dX6_rusts_16 : decode cX6_rusts 16 = .ok (.invokestatic 44, 3) := by decide +kernel
theorem dX6_rusts_19 : decode cX6_rusts 19 = .ok (.iaload, 1) := by decide +kernel
theorem dX6_rusts_20 : decode cX6_rusts 20 = .ok (.if_icmp .le 7, 3) := by decide +kernel
theorem dX6_rusts_23 : decode cX6_rusts 23 = .ok (.iconst 1, 1) := by decide +kernel
theorem dX6_rusts_24 : decode cX6_rusts 24 = .ok (.goto 4, 3) := by decide +kernel
theorem dX6_rusts_27 : decode cX6_rusts 27 = .ok (.iconst 0, 1) := by decide +kernel
theorem dX6_rusts_28 : decode cX6_rusts 28 = .ok (.istore_n 3, 1) := by decide +kernel
theorem dX6_rusts_29 : decode cX6_rusts 29 = .ok (.aload_n 0, 1) := by decide +kernel
theorem dX6_rusts_30 : decode cX6_rusts 30 = .ok (.getfield 7, 3) := by decide +kernel
theorem dX6_rusts_33 : decode cX6_rusts 33 = .ok (.iload_n 1, 1) := by decide +kernel
theorem dX6_rusts_34 : decode cX6_rusts 34 = .ok (.iload_n 3, 1) := by decide +kernel
theorem dX6_rusts_35 : decode cX6_rusts 35 = .ok (.invokestatic 44, 3) := by decide +kernel
theorem dX6_rusts_38 : decode cX6_rusts 38 = .ok (.iaload, 1) := by decide +kernel
theorem dX6_rusts_39 : decode cX6_rusts 39 = .ok (.ifCond .le 46, 3) := by decide +kernel
theorem dX6_rusts_42 : decode cX6_rusts 42 = .ok (.aload_n 0, 1) := by decide +kernel
theorem dX6_rusts_43 : decode cX6_rusts 43 = .ok (.getfield 7, 3) := by decide +kernel
theorem dX6_rusts_46 : decode cX6_rusts 46 = .ok (.iload_n 1, 1) := by decide +kernel
theorem dX6_rusts_47 : decode cX6_rusts 47 = .ok (.iload_n 3, 1) := by decide +kernel
theorem dX6_rusts_48 : decode cX6_rusts 48 = .ok (.invokestatic 44, 3) := by decide +kernel
theorem dX6_rusts_51 : decode cX6_rusts 51 = .ok (.dup2, 1) := by decide +kernel
theorem dX6_rusts_52 : decode cX6_rusts 52 = .ok (.iaload, 1) := by decide +kernel
theorem dX6_rusts_53 : decode cX6_rusts 53 = .ok (.iconst 1, 1) := by decide +kernel
theorem dX6_rusts_54 : decode cX6_rusts 54 = .ok (.isub, 1) := by decide +kernel
theorem dX6_rusts_55 : decode cX6_rusts 55 = .ok (.iastore, 1) := by decide +kernel
theorem dX6_rusts_56 : decode cX6_rusts 56 = .ok (.aload_n 0, 1) := by decide +kernel
theorem dX6_rusts_57 : decode cX6_rusts 57 = .ok (.getfield 7, 3) := by decide +kernel
theorem dX6_rusts_60 : decode cX6_rusts 60 = .ok (.iload_n 1, 1) := by decide +kernel
theorem dX6_rusts_61 : decode cX6_rusts 61 = .ok (.bipush 6, 2) := by decide +kernel
theorem dX6_rusts_63 : decode cX6_rusts 63 = .ok (.invokestatic 44, 3) := by decide +kernel
theorem dX6_rusts_66 : decode cX6_rusts 66 = .ok (.dup2, 1) := by decide +kernel
theorem dX6_rusts_67 : decode cX6_rusts 67 = .ok (.iaload, 1) := by decide +kernel
theorem dX6_rusts_68 : decode cX6_rusts 68 = .ok (.iconst 1, 1) := by decide +kernel
theorem dX6_rusts_69 : decode cX6_rusts 69 = .ok (.iadd, 1) := by decide +kernel
theorem dX6_rusts_70 : decode cX6_rusts 70 = .ok (.iastore, 1) := by decide +kernel
theorem dX6_rusts_71 : decode cX6_rusts 71 = .ok (.aload_n 0, 1) := by decide +kernel
theorem dX6_rusts_72 : decode cX6_rusts 72 = .ok (.getfield 7, 3) := by decide +kernel
theorem dX6_rusts_75 : decode cX6_rusts 75 = .ok (.sipush 346, 3) := by decide +kernel
theorem dX6_rusts_78 : decode cX6_rusts 78 = .ok (.iload_n 2, 1) := by decide +kernel
theorem dX6_rusts_79 : decode cX6_rusts 79 = .ok (.iadd, 1) := by decide +kernel
theorem dX6_rusts_80 : decode cX6_rusts 80 = .ok (.dup2, 1) := by decide +kernel
theorem dX6_rusts_81 : decode cX6_rusts 81 = .ok (.iaload, 1) := by decide +kernel
theorem dX6_rusts_82 : decode cX6_rusts 82 = .ok (.iconst 1, 1) := by decide +kernel
theorem dX6_rusts_83 : decode cX6_rusts 83 = .ok (.iadd, 1) := by decide +kernel
theorem dX6_rusts_84 : decode cX6_rusts 84 = .ok (.iastore, 1) := by decide +kernel
theorem dX6_rusts_85 : decode cX6_rusts 85 = .ok (.return_, 1) := by decide +kernel
theorem dX6_isOver_0 : decode cX6_isOver 0 = .ok (.aload_n 0, 1) := by decide +kernel
theorem dX6_isOver_1 : decode cX6_isOver 1 = .ok (.getfield 7, 3) := by decide +kernel
theorem dX6_isOver_4 : decode cX6_isOver 4 = .ok (.sipush 342, 3) := by decide +kernel
theorem dX6_isOver_7 : decode cX6_isOver 7 = .ok (.iaload, 1) := by decide +kernel
theorem dX6_isOver_8 : decode cX6_isOver 8 = .ok (.istore_n 2, 1) := by decide +kernel
theorem dX6_isOver_9 : decode cX6_isOver 9 = .ok (.aload_n 0, 1) := by decide +kernel
theorem dX6_isOver_10 : decode cX6_isOver 10 = .ok (.getfield 7, 3) := by decide +kernel
theorem dX6_isOver_13 : decode cX6_isOver 13 = .ok (.sipush 345, 3) := by decide +kernel
theorem dX6_isOver_16 : decode cX6_isOver 16 = .ok (.dup2, 1) := by decide +kernel
theorem dX6_isOver_17 : decode cX6_isOver 17 = .ok (.iaload, 1) := by decide +kernel
theorem dX6_isOver_18 : decode cX6_isOver 18 = .ok (.iconst 1, 1) := by decide +kernel
theorem dX6_isOver_19 : decode cX6_isOver 19 = .ok (.iadd, 1) := by decide +kernel
theorem dX6_isOver_20 : decode cX6_isOver 20 = .ok (.iastore, 1) := by decide +kernel
theorem dX6_isOver_21 : decode cX6_isOver 21 = .ok (.aload_n 0, 1) := by decide +kernel
theorem dX6_isOver_22 : decode cX6_isOver 22 = .ok (.getfield 7, 3) := by decide +kernel
theorem dX6_isOver_25 : decode cX6_isOver 25 = .ok (.sipush 344, 3) := by decide +kernel
theorem dX6_isOver_28 : decode cX6_isOver 28 = .ok (.iload_n 1, 1) := by decide +kernel
theorem dX6_isOver_29 : decode cX6_isOver 29 = .ok (.ifCond .eq 16, 3) := by decide +kernel
theorem dX6_isOver_32 : decode cX6_isOver 32 = .ok (.aload_n 0, 1) := by decide +kernel
theorem dX6_isOver_33 : decode cX6_isOver 33 = .ok (.getfield 7, 3) := by decide +kernel
theorem dX6_isOver_36 : decode cX6_isOver 36 = .ok (.sipush 344, 3) := by decide +kernel
theorem dX6_isOver_39 : decode cX6_isOver 39 = .ok (.iaload, 1) := by decide +kernel
theorem dX6_isOver_40 : decode cX6_isOver 40 = .ok (.iconst 1, 1) := by decide +kernel
theorem dX6_isOver_41 : decode cX6_isOver 41 = .ok (.iadd, 1) := by decide +kernel
theorem dX6_isOver_42 : decode cX6_isOver 42 = .ok (.goto 4, 3) := by decide +kernel
theorem dX6_isOver_45 : decode cX6_isOver 45 = .ok (.iconst 0, 1) := by decide +kernel
theorem dX6_isOver_46 : decode cX6_isOver 46 = .ok (.iastore, 1) := by decide +kernel
theorem dX6_isOver_47 : decode cX6_isOver 47 = .ok (.aload_n 0, 1) := by decide +kernel
theorem dX6_isOver_48 : decode cX6_isOver 48 = .ok (.getfield 7, 3) := by decide +kernel
theorem dX6_isOver_51 : decode cX6_isOver 51 = .ok (.sipush 337, 3) := by decide +kernel
theorem dX6_isOver_54 : decode cX6_isOver 54 = .ok (.iload_n 2, 1) := by decide +kernel
theorem dX6_isOver_55 : decode cX6_isOver 55 = .ok (.iadd, 1) := by decide +kernel
theorem dX6_isOver_56 : decode cX6_isOver 56 = .ok (.iaload, 1) := by decide +kernel
theorem dX6_isOver_57 : decode cX6_isOver 57 = .ok (.ifCond .ne 14, 3) := by decide +kernel
theorem dX6_isOver_60 : decode cX6_isOver 60 = .ok (.aload_n 0, 1) := by decide +kernel
theorem dX6_isOver_61 : decode cX6_isOver 61 = .ok (.getfield 7, 3) := by decide +kernel
theorem dX6_isOver_64 : decode cX6_isOver 64 = .ok (.sipush 342, 3) := by decide +kernel
theorem dX6_isOver_67 : decode cX6_isOver 67 = .ok (.iconst (-1), 1) := by decide +kernel
theorem dX6_isOver_68 : decode cX6_isOver 68 = .ok (.iastore, 1) := by decide +kernel
theorem dX6_isOver_69 : decode cX6_isOver 69 = .ok (.iconst 1, 1) := by decide +kernel
theorem dX6_isOver_70 : decode cX6_isOver 70 = .ok (.ireturn, 1) := by decide +kernel
theorem dX6_isOver_71 : decode cX6_isOver 71 = .ok (.iconst 0, 1) := by decide +kernel
theorem dX6_isOver_72 : decode cX6_isOver 72 = .ok (.istore_n 3, 1) := by decide +kernel
theorem dX6_isOver_73 : decode cX6_isOver 73 = .ok (.iload_n 3, 1) := by decide +kernel
theorem dX6_isOver_74 : decode cX6_isOver 74 = .ok (.aload_n 0, 1) := by decide +kernel
theorem dX6_isOver_75 : decode cX6_isOver 75 = .ok (.getfield 7, 3) := by decide +kernel
theorem dX6_isOver_78 : decode cX6_isOver 78 = .ok (.sipush 337, 3) := by decide +kernel
theorem dX6_isOver_81 : decode cX6_isOver 81 = .ok (.iload_n 2, 1) := by decide +kernel
theorem dX6_isOver_82 : decode cX6_isOver 82 = .ok (.iadd, 1) := by decide +kernel
theorem dX6_isOver_83 : decode cX6_isOver 83 = .ok (.iaload, 1) := by decide +kernel
theorem dX6_isOver_84 : decode cX6_isOver 84 = .ok (.if_icmp .ge 66, 3) := by decide +kernel
theorem dX6_isOver_87 : decode cX6_isOver 87 = .ok (.aload_n 0, 1) := by decide +kernel
theorem dX6_isOver_88 : decode cX6_isOver 88 = .ok (.getfield 7, 3) := by decide +kernel
theorem dX6_isOver_91 : decode cX6_isOver 91 = .ok (.iload_n 2, 1) := by decide +kernel
theorem dX6_isOver_92 : decode cX6_isOver 92 = .ok (.iload_n 3, 1) := by decide +kernel
theorem dX6_isOver_93 : decode cX6_isOver 93 = .ok (.invokestatic 48, 3) := by decide +kernel
theorem dX6_isOver_96 : decode cX6_isOver 96 = .ok (.iaload, 1) := by decide +kernel
theorem dX6_isOver_97 : decode cX6_isOver 97 = .ok (.istore 4, 2) := by decide +kernel
theorem dX6_isOver_99 : decode cX6_isOver 99 = .ok (.aload_n 0, 1) := by decide +kernel
theorem dX6_isOver_100 : decode cX6_isOver 100 = .ok (.getfield 7, 3) := by decide +kernel
theorem dX6_isOver_103 : decode cX6_isOver 103 = .ok (.iload 4, 2) := by decide +kernel
theorem dX6_isOver_105 : decode cX6_isOver 105 = .ok (.iconst 4, 1) := by decide +kernel
theorem dX6_isOver_106 : decode cX6_isOver 106 = .ok (.invokestatic 44, 3) := by decide +kernel
theorem dX6_isOver_109 : decode cX6_isOver 109 = .ok (.dup2, 1) := by decide +kernel
theorem dX6_isOver_110 : decode cX6_isOver 110 = .ok (.iaload, 1) := by decide +kernel
theorem dX6_isOver_111 : decode cX6_isOver 111 = .ok (.iconst 1, 1) := by decide +kernel
theorem dX6_isOver_112 : decode cX6_isOver 112 = .ok (.iadd, 1) := by decide +kernel
theorem dX6_isOver_113 : decode cX6_isOver 113 = .ok (.iastore, 1) := by decide +kernel
theorem dX6_isOver_114 : decode cX6_isOver 114 = .ok (.aload_n 0, 1) := by decide +kernel
theorem dX6_isOver_115 : decode cX6_isOver 115 = .ok (.getfield 7, 3) := by decide +kernel
theorem dX6_isOver_118 : decode cX6_isOver 118 = .ok (.iload 4, 2) := by decide +kernel
theorem dX6_isOver_120 : decode cX6_isOver 120 = .ok (.iconst 4, 1) := by decide +kernel
theorem dX6_isOver_121 : decode cX6_isOver 121 = .ok (.invokestatic 44, 3) := by decide +kernel
theorem dX6_isOver_124 : decode cX6_isOver 124 = .ok (.iaload, 1) := by decide +kernel
theorem dX6_isOver_125 : decode cX6_isOver 125 = .ok (.aload_n 0, 1) := by decide +kernel
theorem dX6_isOver_126 : decode cX6_isOver 126 = .ok (.getfield 7, 3) := by decide +kernel
theorem dX6_isOver_129 : decode cX6_isOver 129 = .ok (.sipush 359, 3) := by decide +kernel
theorem dX6_isOver_132 : decode cX6_isOver 132 = .ok (.iaload, 1) := by decide +kernel
theorem dX6_isOver_133 : decode cX6_isOver 133 = .ok (.irem, 1) := by decide +kernel
theorem dX6_isOver_134 : decode cX6_isOver 134 = .ok (.ifCond .ne 10, 3) := by decide +kernel
theorem dX6_isOver_137 : decode cX6_isOver 137 = .ok (.aload_n 0, 1) := by decide +kernel
theorem dX6_isOver_138 : decode cX6_isOver 138 = .ok (.iload 4, 2) := by decide +kernel
theorem dX6_isOver_140 : decode cX6_isOver 140 = .ok (.iload_n 2, 1) := by decide +kernel
theorem dX6_isOver_141 : decode cX6_isOver 141 = .ok (.invokevirtual 79, 3) := by decide +kernel
theorem dX6_isOver_144 : decode cX6_isOver 144 = .ok (.iinc 3 1, 3) := by decide +kernel
theorem dX6_isOver_147 : decode cX6_isOver 147 = .ok (.goto (-74), 3) := by decide +kernel
theorem dX6_isOver_150 : decode cX6_isOver 150 = .ok (.aload_n 0, 1) := by decide +kernel
theorem dX6_isOver_151 : decode cX6_isOver 151 = .ok (.getfield 7, 3) := by decide +kernel
theorem dX6_isOver_154 : decode cX6_isOver 154 = .ok (.sipush 344, 3) := by decide +kernel
theorem dX6_isOver_157 : decode cX6_isOver 157 = .ok (.iaload, 1) := by decide +kernel
theorem dX6_isOver_158 : decode cX6_isOver 158 = .ok (.aload_n 0, 1) := by decide +kernel
theorem dX6_isOver_159 : decode cX6_isOver 159 = .ok (.getfield 7, 3) := by decide +kernel
theorem dX6_isOver_162 : decode cX6_isOver 162 = .ok (.sipush 341, 3) := by decide +kernel
theorem dX6_isOver_165 : decode cX6_isOver 165 = .ok (.iaload, 1) := by decide +kernel
theorem dX6_isOver_166 : decode cX6_isOver 166 = .ok (.if_icmp .ne 7, 3) := by decide +kernel
theorem dX6_isOver_169 : decode cX6_isOver 169 = .ok (.iconst 1, 1) := by decide +kernel
theorem dX6_isOver_170 : decode cX6_isOver 170 = .ok (.goto 4, 3) := by decide +kernel
theorem dX6_isOver_173 : decode cX6_isOver 173 = .ok (.iconst 0, 1) := by decide +kernel
theorem dX6_isOver_174 : decode cX6_isOver 174 = .ok (.istore_n 3, 1) := by decide +kernel
theorem dX6_isOver_175 : decode cX6_isOver 175 = .ok (.aload_n 0, 1) := by decide +kernel
theorem dX6_isOver_176 : decode cX6_isOver 176 = .ok (.getfield 7, 3) := by decide +kernel
theorem dX6_isOver_179 : decode cX6_isOver 179 = .ok (.sipush 342, 3) := by decide +kernel
theorem dX6_isOver_182 : decode cX6_isOver 182 = .ok (.iload_n 3, 1) := by decide +kernel
theorem dX6_isOver_183 : decode cX6_isOver 183 = .ok (.ifCond .eq 7, 3) := by decide +kernel
theorem dX6_isOver_186 : decode cX6_isOver 186 = .ok (.iconst (-1), 1) := by decide +kernel
theorem dX6_isOver_187 : decode cX6_isOver 187 = .ok (.goto 15, 3) := by decide +kernel
theorem dX6_isOver_190 : decode cX6_isOver 190 = .ok (.iload_n 2, 1) := by decide +kernel
theorem dX6_isOver_191 : decode cX6_isOver 191 = .ok (.iconst 1, 1) := by decide +kernel
theorem dX6_isOver_192 : decode cX6_isOver 192 = .ok (.iadd, 1) := by decide +kernel
theorem dX6_isOver_193 : decode cX6_isOver 193 = .ok (.aload_n 0, 1) := by decide +kernel
theorem dX6_isOver_194 : decode cX6_isOver 194 = .ok (.getfield 7, 3) := by decide +kernel
theorem dX6_isOver_197 : decode cX6_isOver 197 = .ok (.sipush 341, 3) := by decide +kernel
theorem dX6_isOver_200 : decode cX6_isOver 200 = .ok (.iaload, 1) := by decide +kernel
theorem dX6_isOver_201 : decode cX6_isOver 201 = .ok (.irem, 1) := by decide +kernel
theorem dX6_isOver_202 : decode cX6_isOver 202 = .ok (.iastore, 1) := by decide +kernel
theorem dX6_isOver_203 : decode cX6_isOver 203 = .ok (.iload_n 3, 1) := by decide +kernel
theorem dX6_isOver_204 : decode cX6_isOver 204 = .ok (.ireturn, 1) := by decide +kernel
theorem dX6_puts_0 : decode cX6_puts 0 = .ok (.aload_n 0, 1) := by decide +kernel
theorem dX6_puts_1 : decode cX6_puts 1 = .ok (.getfield 7, 3) := by decide +kernel
theorem dX6_puts_4 : decode cX6_puts 4 = .ok (.iload_n 2, 1) := by decide +kernel
theorem dX6_puts_5 : decode cX6_puts 5 = .ok (.iconst 0, 1) := by decide +kernel
theorem dX6_puts_6 : decode cX6_puts 6 = .ok (.invokestatic 62, 3) := by decide +kernel
theorem dX6_puts_9 : decode cX6_puts 9 = .ok (.iaload, 1) := by decide +kernel
theorem dX6_puts_10 : decode cX6_puts 10 = .ok (.ifCond .ne 46, 3) := by decide +kernel
theorem dX6_puts_13 : decode cX6_puts 13 = .ok (.aload_n 0, 1) := by decide +kernel
theorem dX6_puts_14 : decode cX6_puts 14 = .ok (.getfield 7, 3) := by decide +kernel
theorem dX6_puts_17 : decode cX6_puts 17 = .ok (.iload_n 2, 1) := by decide +kernel
theorem dX6_puts_18 : decode cX6_puts 18 = .ok (.iconst 1, 1) := by decide +kernel
theorem dX6_puts_19 : decode cX6_puts 19 = .ok (.invokestatic 62, 3) := by decide +kernel
theorem dX6_puts_22 : decode cX6_puts 22 = .ok (.aload_n 0, 1) := by decide +kernel
theorem dX6_puts_23 : decode cX6_puts 23 = .ok (.getfield 7, 3) := by decide +kernel
theorem dX6_puts_26 : decode cX6_puts 26 = .ok (.iload_n 1, 1) := by decide +kernel
theorem dX6_puts_27 : decode cX6_puts 27 = .ok (.iconst 0, 1) := by decide +kernel
theorem dX6_puts_28 : decode cX6_puts 28 = .ok (.invokestatic 44, 3) := by decide +kernel
theorem dX6_puts_31 : decode cX6_puts 31 = .ok (.iaload, 1) := by decide +kernel
theorem dX6_puts_32 : decode cX6_puts 32 = .ok (.iastore, 1) := by decide +kernel
theorem dX6_puts_33 : decode cX6_puts 33 = .ok (.aload_n 0, 1) := by decide +kernel
theorem dX6_puts_34 : decode cX6_puts 34 = .ok (.getfield 7, 3) := by decide +kernel
theorem dX6_puts_37 : decode cX6_puts 37 = .ok (.iload_n 2, 1) := by decide +kernel
theorem dX6_puts_38 : decode cX6_puts 38 = .ok (.iconst 2, 1) := by decide +kernel
theorem dX6_puts_39 : decode cX6_puts 39 = .ok (.invokestatic 62, 3) := by decide +kernel
theorem dX6_puts_42 : decode cX6_puts 42 = .ok (.aload_n 0, 1) := by decide +kernel
theorem dX6_puts_43 : decode cX6_puts 43 = .ok (.getfield 7, 3) := by decide +kernel
theorem dX6_puts_46 : decode cX6_puts 46 = .ok (.iload_n 1, 1) := by decide +kernel
theorem dX6_puts_47 : decode cX6_puts 47 = .ok (.iconst 1, 1) := by decide +kernel
theorem dX6_puts_48 : decode cX6_puts 48 = .ok (.invokestatic 44, 3) := by decide +kernel
theorem dX6_puts_51 : decode cX6_puts 51 = .ok (.iaload, 1) := by decide +kernel
theorem dX6_puts_52 : decode cX6_puts 52 = .ok (.iastore, 1) := by decide +kernel
theorem dX6_puts_53 : decode cX6_puts 53 = .ok (.goto 60, 3) := by decide +kernel
theorem dX6_puts_56 : decode cX6_puts 56 = .ok (.aload_n 0, 1) := by decide +kernel
theorem dX6_puts_57 : decode cX6_puts 57 = .ok (.getfield 7, 3) := by decide +kernel
theorem dX6_puts_60 : decode cX6_puts 60 = .ok (.iload_n 1, 1) := by decide +kernel
theorem dX6_puts_61 : decode cX6_puts 61 = .ok (.iconst 0, 1) := by decide +kernel
theorem dX6_puts_62 : decode cX6_puts 62 = .ok (.invokestatic 44, 3) := by decide +kernel
theorem dX6_puts_65 : decode cX6_puts 65 = .ok (.iaload, 1) := by decide +kernel
theorem dX6_puts_66 : decode cX6_puts 66 = .ok (.aload_n 0, 1) := by decide +kernel
theorem dX6_puts_67 : decode cX6_puts 67 = .ok (.getfield 7, 3) := by decide +kernel
theorem dX6_puts_70 : decode cX6_puts 70 = .ok (.iload_n 2, 1) := by decide +kernel
theorem dX6_puts_71 : decode cX6_puts 71 = .ok (.iconst 1, 1) := by decide +kernel
theorem dX6_puts_72 : decode cX6_puts 72 = .ok (.iload_n 3, 1) := by decide +kernel
theorem dX6_puts_73 : decode cX6_puts 73 = .ok (.iadd, 1) := by decide +kernel
theorem dX6_puts_74 : decode cX6_puts 74 = .ok (.invokestatic 62, 3) := by decide +kernel
theorem dX6_puts_77 : decode cX6_puts 77 = .ok (.iaload, 1) := by decide +kernel
theorem dX6_puts_78 : decode cX6_puts 78 = .ok (.if_icmp .ne 7, 3) := by decide +kernel
theorem dX6_puts_81 : decode cX6_puts 81 = .ok (.iconst 0, 1) := by decide +kernel
theorem dX6_puts_82 : decode cX6_puts 82 = .ok (.goto 4, 3) := by decide +kernel
theorem dX6_puts_85 : decode cX6_puts 85 = .ok (.iconst 1, 1) := by decide +kernel
theorem dX6_puts_86 : decode cX6_puts 86 = .ok (.istore 4, 2) := by decide +kernel
theorem dX6_puts_88 : decode cX6_puts 88 = .ok (.aload_n 0, 1) := by decide +kernel
theorem dX6_puts_89 : decode cX6_puts 89 = .ok (.getfield 7, 3) := by decide +kernel
theorem dX6_puts_92 : decode cX6_puts 92 = .ok (.iload_n 2, 1) := by decide +kernel
theorem dX6_puts_93 : decode cX6_puts 93 = .ok (.iconst 1, 1) := by decide +kernel
theorem dX6_puts_94 : decode cX6_puts 94 = .ok (.iload_n 3, 1) := by decide +kernel
theorem dX6_puts_95 : decode cX6_puts 95 = .ok (.iadd, 1) := by decide +kernel
theorem dX6_puts_96 : decode cX6_puts 96 = .ok (.invokestatic 62, 3) := by decide +kernel
theorem dX6_puts_99 : decode cX6_puts 99 = .ok (.aload_n 0, 1) := by decide +kernel
theorem dX6_puts_100 : decode cX6_puts 100 = .ok (.getfield 7, 3) := by decide +kernel
theorem dX6_puts_103 : decode cX6_puts 103 = .ok (.iload_n 1, 1) := by decide +kernel
theorem dX6_puts_104 : decode cX6_puts 104 = .ok (.iconst 1, 1) := by decide +kernel
theorem dX6_puts_105 : decode cX6_puts 105 = .ok (.iload 4, 2) := by decide +kernel
theorem dX6_puts_107 : decode cX6_puts 107 = .ok (.isub, 1) := by decide +kernel
theorem dX6_puts_108 : decode cX6_puts 108 = .ok (.invokestatic 44, 3) := by decide +kernel
theorem dX6_puts_111 : decode cX6_puts 111 = .ok (.iaload, 1) := by decide +kernel
theorem dX6_puts_112 : decode cX6_puts 112 = .ok (.iastore, 1) := by decide +kernel
theorem dX6_puts_113 : decode cX6_puts 113 = .ok (.aload_n 0, 1) := by decide +kernel
theorem dX6_puts_114 : decode cX6_puts 114 = .ok (.getfield 7, 3) := by decide +kernel
theorem dX6_puts_117 : decode cX6_puts 117 = .ok (.iload_n 2, 1) := by decide +kernel
theorem dX6_puts_118 : decode cX6_puts 118 = .ok (.iconst 0, 1) := by decide +kernel
theorem dX6_puts_119 : decode cX6_puts 119 = .ok (.invokestatic 62, 3) := by decide +kernel
theorem dX6_puts_122 : decode cX6_puts 122 = .ok (.dup2, 1) := by decide +kernel
theorem dX6_puts_123 : decode cX6_puts 123 = .ok (.iaload, 1) := by decide +kernel
theorem dX6_puts_124 : decode cX6_puts 124 = .ok (.iconst 1, 1) := by decide +kernel
theorem dX6_puts_125 : decode cX6_puts 125 = .ok (.iadd, 1) := by decide +kernel
theorem dX6_puts_126 : decode cX6_puts 126 = .ok (.iastore, 1) := by decide +kernel
theorem dX6_puts_127 : decode cX6_puts 127 = .ok (.aload_n 0, 1) := by decide +kernel
theorem dX6_puts_128 : decode cX6_puts 128 = .ok (.getfield 7, 3) := by decide +kernel
theorem dX6_puts_131 : decode cX6_puts 131 = .ok (.iload_n 2, 1) := by decide +kernel
theorem dX6_puts_132 : decode cX6_puts 132 = .ok (.iconst 3, 1) := by decide +kernel
theorem dX6_puts_133 : decode cX6_puts 133 = .ok (.invokestatic 62, 3) := by decide +kernel
theorem dX6_puts_136 : decode cX6_puts 136 = .ok (.iload_n 1, 1) := by decide +kernel
theorem dX6_puts_137 : decode cX6_puts 137 = .ok (.iastore, 1) := by decide +kernel
theorem dX6_puts_138 : decode cX6_puts 138 = .ok (.aload_n 0, 1) := by decide +kernel
theorem dX6_puts_139 : decode cX6_puts 139 = .ok (.getfield 7, 3) := by decide +kernel
theorem dX6_puts_142 : decode cX6_puts 142 = .ok (.iload_n 1, 1) := by decide +kernel
theorem dX6_puts_143 : decode cX6_puts 143 = .ok (.iconst 2, 1) := by decide +kernel
theorem dX6_puts_144 : decode cX6_puts 144 = .ok (.invokestatic 44, 3) := by decide +kernel
theorem dX6_puts_147 : decode cX6_puts 147 = .ok (.iconst 2, 1) := by decide +kernel
theorem dX6_puts_148 : decode cX6_puts 148 = .ok (.iastore, 1) := by decide +kernel
theorem dX6_puts_149 : decode cX6_puts 149 = .ok (.aload_n 0, 1) := by decide +kernel
theorem dX6_puts_150 : decode cX6_puts 150 = .ok (.getfield 7, 3) := by decide +kernel
theorem dX6_puts_153 : decode cX6_puts 153 = .ok (.iload_n 1, 1) := by decide +kernel
theorem dX6_puts_154 : decode cX6_puts 154 = .ok (.iconst 5, 1) := by decide +kernel
theorem dX6_puts_155 : decode cX6_puts 155 = .ok (.invokestatic 44, 3) := by decide +kernel
theorem dX6_puts_158 : decode cX6_puts 158 = .ok (.iload_n 2, 1) := by decide +kernel
theorem dX6_puts_159 : decode cX6_puts 159 = .ok (.iastore, 1) := by decide +kernel
theorem dX6_puts_160 : decode cX6_puts 160 = .ok (.return_, 1) := by decide +kernel
theorem dX6_refuses_0 : decode cX6_refuses 0 = .ok (.aload_n 0, 1) := by decide +kernel
theorem dX6_refuses_1 : decode cX6_refuses 1 = .ok (.getfield 7, 3) := by decide +kernel
theorem dX6_refuses_4 : decode cX6_refuses 4 = .ok (.sipush 358, 3) := by decide +kernel
theorem dX6_refuses_7 : decode cX6_refuses 7 = .ok (.dup2, 1) := by decide +kernel
theorem dX6_refuses_8 : decode cX6_refuses 8 = .ok (.iaload, 1) := by decide +kernel
theorem dX6_refuses_9 : decode cX6_refuses 9 = .ok (.iconst 1, 1) := by decide +kernel
theorem dX6_refuses_10 : decode cX6_refuses 10 = .ok (.iadd, 1) := by decide +kernel
theorem dX6_refuses_11 : decode cX6_refuses 11 = .ok (.iastore, 1) := by decide +kernel
theorem dX6_refuses_12 : decode cX6_refuses 12 = .ok (.iload_n 1, 1) := by decide +kernel
theorem dX6_refuses_13 : decode cX6_refuses 13 = .ok (.ireturn, 1) := by decide +kernel
theorem dX6_lays_0 : decode cX6_lays 0 = .ok (.aload_n 0, 1) := by decide +kernel
theorem dX6_lays_1 : decode cX6_lays 1 = .ok (.iload_n 1, 1) := by decide +kernel
theorem dX6_lays_2 : decode cX6_lays 2 = .ok (.iload_n 2, 1) := by decide +kernel
theorem dX6_lays_3 : decode cX6_lays 3 = .ok (.iload_n 3, 1) := by decide +kernel
theorem dX6_lays_4 : decode cX6_lays 4 = .ok (.invokevirtual 82, 3) := by decide +kernel
theorem dX6_lays_7 : decode cX6_lays 7 = .ok (.istore 4, 2) := by decide +kernel
theorem dX6_lays_9 : decode cX6_lays 9 = .ok (.iload 4, 2) := by decide +kernel
theorem dX6_lays_11 : decode cX6_lays 11 = .ok (.ifCond .le 10, 3) := by decide +kernel
theorem dX6_lays_14 : decode cX6_lays 14 = .ok (.aload_n 0, 1) := by decide +kernel
theorem dX6_lays_15 : decode cX6_lays 15 = .ok (.iload 4, 2) := by decide +kernel
theorem dX6_lays_17 : decode cX6_lays 17 = .ok (.invokevirtual 86, 3) := by decide +kernel
theorem dX6_lays_20 : decode cX6_lays 20 = .ok (.ireturn, 1) := by decide +kernel
theorem dX6_lays_21 : decode cX6_lays 21 = .ok (.aload_n 0, 1) := by decide +kernel
theorem dX6_lays_22 : decode cX6_lays 22 = .ok (.getfield 7, 3) := by decide +kernel
theorem dX6_lays_25 : decode cX6_lays 25 = .ok (.sipush 342, 3) := by decide +kernel
theorem dX6_lays_28 : decode cX6_lays 28 = .ok (.iaload, 1) := by decide +kernel
theorem dX6_lays_29 : decode cX6_lays 29 = .ok (.istore 5, 2) := by decide +kernel
theorem dX6_lays_31 : decode cX6_lays 31 = .ok (.aload_n 0, 1) := by decide +kernel
theorem dX6_lays_32 : decode cX6_lays 32 = .ok (.aload_n 0, 1) := by decide +kernel
theorem dX6_lays_33 : decode cX6_lays 33 = .ok (.getfield 7, 3) := by decide +kernel
theorem dX6_lays_36 : decode cX6_lays 36 = .ok (.iload 5, 2) := by decide +kernel
theorem dX6_lays_38 : decode cX6_lays 38 = .ok (.iload_n 1, 1) := by decide +kernel
theorem dX6_lays_39 : decode cX6_lays 39 = .ok (.invokestatic 48, 3) := by decide +kernel
theorem dX6_lays_42 : decode cX6_lays 42 = .ok (.iaload, 1) := by decide +kernel
theorem dX6_lays_43 : decode cX6_lays 43 = .ok (.iload_n 2, 1) := by decide +kernel
theorem dX6_lays_44 : decode cX6_lays 44 = .ok (.iload_n 3, 1) := by decide +kernel
theorem dX6_lays_45 : decode cX6_lays 45 = .ok (.invokevirtual 89, 3) := by decide +kernel
theorem dX6_lays_48 : decode cX6_lays 48 = .ok (.iload_n 1, 1) := by decide +kernel
theorem dX6_lays_49 : decode cX6_lays 49 = .ok (.istore 6, 2) := by decide +kernel
theorem dX6_lays_51 : decode cX6_lays 51 = .ok (.iload 6, 2) := by decide +kernel
theorem dX6_lays_53 : decode cX6_lays 53 = .ok (.aload_n 0, 1) := by decide +kernel
theorem dX6_lays_54 : decode cX6_lays 54 = .ok (.getfield 7, 3) := by decide +kernel
theorem dX6_lays_57 : decode cX6_lays 57 = .ok (.sipush 337, 3) := by decide +kernel
theorem dX6_lays_60 : decode cX6_lays 60 = .ok (.iload 5, 2) := by decide +kernel
theorem dX6_lays_62 : decode cX6_lays 62 = .ok (.iadd, 1) := by decide +kernel
theorem dX6_lays_63 : decode cX6_lays 63 = .ok (.iaload, 1) := by decide +kernel
theorem dX6_lays_64 : decode cX6_lays 64 = .ok (.iconst 1, 1) := by decide +kernel
theorem dX6_lays_65 : decode cX6_lays 65 = .ok (.isub, 1) := by decide +kernel
theorem dX6_lays_66 : decode cX6_lays 66 = .ok (.if_icmp .ge 35, 3) := by decide +kernel
theorem dX6_lays_69 : decode cX6_lays 69 = .ok (.aload_n 0, 1) := by decide +kernel
theorem dX6_lays_70 : decode cX6_lays 70 = .ok (.getfield 7, 3) := by decide +kernel
theorem dX6_lays_73 : decode cX6_lays 73 = .ok (.iload 5, 2) := by decide +kernel
theorem dX6_lays_75 : decode cX6_lays 75 = .ok (.iload 6, 2) := by decide +kernel
theorem dX6_lays_77 : decode cX6_lays 77 = .ok (.invokestatic 48, 3) := by decide +kernel
theorem dX6_lays_80 : decode cX6_lays 80 = .ok (.aload_n 0, 1) := by decide +kernel
theorem dX6_lays_81 : decode cX6_lays 81 = .ok (.getfield 7, 3) := by decide +kernel
theorem dX6_lays_84 : decode cX6_lays 84 = .ok (.iload 5, 2) := by decide +kernel
theorem dX6_lays_86 : decode cX6_lays 86 = .ok (.iload 6, 2) := by decide +kernel
theorem dX6_lays_88 : decode cX6_lays 88 = .ok (.iconst 1, 1) := by decide +kernel
theorem dX6_lays_89 : decode cX6_lays 89 = .ok (.iadd, 1) := by decide +kernel
theorem dX6_lays_90 : decode cX6_lays 90 = .ok (.invokestatic 48, 3) := by decide +kernel
theorem dX6_lays_93 : decode cX6_lays 93 = .ok (.iaload, 1) := by decide +kernel
theorem dX6_lays_94 : decode cX6_lays 94 = .ok (.iastore, 1) := by decide +kernel
theorem dX6_lays_95 : decode cX6_lays 95 = .ok (.iinc 6 1, 3) := by decide +kernel
theorem dX6_lays_98 : decode cX6_lays 98 = .ok (.goto (-47), 3) := by decide +kernel
theorem dX6_lays_101 : decode cX6_lays 101 = .ok (.aload_n 0, 1) := by decide +kernel
theorem dX6_lays_102 : decode cX6_lays 102 = .ok (.getfield 7, 3) := by decide +kernel
theorem dX6_lays_105 : decode cX6_lays 105 = .ok (.sipush 337, 3) := by decide +kernel
theorem dX6_lays_108 : decode cX6_lays 108 = .ok (.iload 5, 2) := by decide +kernel
theorem dX6_lays_110 : decode cX6_lays 110 = .ok (.iadd, 1) := by decide +kernel
theorem dX6_lays_111 : decode cX6_lays 111 = .ok (.dup2, 1) := by decide +kernel
theorem dX6_lays_112 : decode cX6_lays 112 = .ok (.iaload, 1) := by decide +kernel
theorem dX6_lays_113 : decode cX6_lays 113 = .ok (.iconst 1, 1) := by decide +kernel
theorem dX6_lays_114 : decode cX6_lays 114 = .ok (.isub, 1) := by decide +kernel
theorem dX6_lays_115 : decode cX6_lays 115 = .ok (.iastore, 1) := by decide +kernel
theorem dX6_lays_116 : decode cX6_lays 116 = .ok (.aload_n 0, 1) := by decide +kernel
theorem dX6_lays_117 : decode cX6_lays 117 = .ok (.getfield 7, 3) := by decide +kernel
theorem dX6_lays_120 : decode cX6_lays 120 = .ok (.sipush 350, 3) := by decide +kernel
theorem dX6_lays_123 : decode cX6_lays 123 = .ok (.iload 5, 2) := by decide +kernel
theorem dX6_lays_125 : decode cX6_lays 125 = .ok (.iadd, 1) := by decide +kernel
theorem dX6_lays_126 : decode cX6_lays 126 = .ok (.dup2, 1) := by decide +kernel
theorem dX6_lays_127 : decode cX6_lays 127 = .ok (.iaload, 1) := by decide +kernel
theorem dX6_lays_128 : decode cX6_lays 128 = .ok (.iconst 1, 1) := by decide +kernel
theorem dX6_lays_129 : decode cX6_lays 129 = .ok (.iadd, 1) := by decide +kernel
theorem dX6_lays_130 : decode cX6_lays 130 = .ok (.iastore, 1) := by decide +kernel
theorem dX6_lays_131 : decode cX6_lays 131 = .ok (.aload_n 0, 1) := by decide +kernel
theorem dX6_lays_132 : decode cX6_lays 132 = .ok (.iconst 0, 1) := by decide +kernel
theorem dX6_lays_133 : decode cX6_lays 133 = .ok (.invokevirtual 93, 3) := by decide +kernel
theorem dX6_lays_136 : decode cX6_lays 136 = .ok (.ifCond .eq 8, 3) := by decide +kernel
theorem dX6_lays_139 : decode cX6_lays 139 = .ok (.bipush 11, 2) := by decide +kernel
theorem dX6_lays_141 : decode cX6_lays 141 = .ok (.goto 5, 3) := by decide +kernel
theorem dX6_lays_144 : decode cX6_lays 144 = .ok (.bipush 10, 2) := by decide +kernel
theorem dX6_lays_146 : decode cX6_lays 146 = .ok (.ireturn, 1) := by decide +kernel
theorem dX6_lay_0 : decode cX6_lay 0 = .ok (.aload_n 0, 1) := by decide +kernel
theorem dX6_lay_1 : decode cX6_lay 1 = .ok (.iload_n 2, 1) := by decide +kernel
theorem dX6_lay_2 : decode cX6_lay 2 = .ok (.invokestatic 97, 3) := by decide +kernel
theorem dX6_lay_5 : decode cX6_lay 5 = .ok (.ifCond .ne 7, 3) := by decide +kernel
theorem dX6_lay_8 : decode cX6_lay 8 = .ok (.iconst 1, 1) := by decide +kernel
theorem dX6_lay_9 : decode cX6_lay 9 = .ok (.goto 17, 3) := by decide +kernel
theorem dX6_lay_12 : decode cX6_lay 12 = .ok (.iload_n 3, 1) := by decide +kernel
theorem dX6_lay_13 : decode cX6_lay 13 = .ok (.iconst 0, 1) := by decide +kernel
theorem dX6_lay_14 : decode cX6_lay 14 = .ok (.iconst 1, 1) := by decide +kernel
theorem dX6_lay_15 : decode cX6_lay 15 = .ok (.invokestatic 37, 3) := by decide +kernel
theorem dX6_lay_18 : decode cX6_lay 18 = .ok (.ifCond .eq 7, 3) := by decide +kernel
theorem dX6_lay_21 : decode cX6_lay 21 = .ok (.iconst 0, 1) := by decide +kernel
theorem dX6_lay_22 : decode cX6_lay 22 = .ok (.goto 4, 3) := by decide +kernel
theorem dX6_lay_25 : decode cX6_lay 25 = .ok (.iconst 2, 1) := by decide +kernel
theorem dX6_lay_26 : decode cX6_lay 26 = .ok (.invokevirtual 65, 3) := by decide +kernel
theorem dX6_lay_29 : decode cX6_lay 29 = .ok (.ifCond .ne 5, 3) := by decide +kernel
theorem dX6_lay_32 : decode cX6_lay 32 = .ok (.iconst 0, 1) := by decide +kernel
theorem dX6_lay_33 : decode cX6_lay 33 = .ok (.ireturn, 1) := by decide +kernel
theorem dX6_lay_34 : decode cX6_lay 34 = .ok (.aload_n 0, 1) := by decide +kernel
theorem dX6_lay_35 : decode cX6_lay 35 = .ok (.invokevirtual 69, 3) := by decide +kernel
theorem dX6_lay_38 : decode cX6_lay 38 = .ok (.aload_n 0, 1) := by decide +kernel
theorem dX6_lay_39 : decode cX6_lay 39 = .ok (.iload_n 1, 1) := by decide +kernel
theorem dX6_lay_40 : decode cX6_lay 40 = .ok (.iload_n 2, 1) := by decide +kernel
theorem dX6_lay_41 : decode cX6_lay 41 = .ok (.iload_n 3, 1) := by decide +kernel
theorem dX6_lay_42 : decode cX6_lay 42 = .ok (.invokevirtual 100, 3) := by decide +kernel
theorem dX6_lay_45 : decode cX6_lay 45 = .ok (.ireturn, 1) := by decide +kernel
theorem dX6_draws_0 : decode cX6_draws 0 = .ok (.aload_n 0, 1) := by decide +kernel
theorem dX6_draws_1 : decode cX6_draws 1 = .ok (.getfield 7, 3) := by decide +kernel
theorem dX6_draws_4 : decode cX6_draws 4 = .ok (.sipush 342, 3) := by decide +kernel
theorem dX6_draws_7 : decode cX6_draws 7 = .ok (.iaload, 1) := by decide +kernel
theorem dX6_draws_8 : decode cX6_draws 8 = .ok (.iconst (-1), 1) := by decide +kernel
theorem dX6_draws_9 : decode cX6_draws 9 = .ok (.if_icmp .eq 10, 3) := by decide +kernel
theorem dX6_draws_12 : decode cX6_draws 12 = .ok (.aload_n 0, 1) := by decide +kernel
theorem dX6_draws_13 : decode cX6_draws 13 = .ok (.invokevirtual 72, 3) := by decide +kernel
theorem dX6_draws_16 : decode cX6_draws 16 = .ok (.ifCond .ne 28, 3) := by decide +kernel
theorem dX6_draws_19 : decode cX6_draws 19 = .ok (.bipush 100, 2) := by decide +kernel
theorem dX6_draws_21 : decode cX6_draws 21 = .ok (.aload_n 0, 1) := by decide +kernel
theorem dX6_draws_22 : decode cX6_draws 22 = .ok (.aload_n 0, 1) := by decide +kernel
theorem dX6_draws_23 : decode cX6_draws 23 = .ok (.getfield 7, 3) := by decide +kernel
theorem dX6_draws_26 : decode cX6_draws 26 = .ok (.sipush 342, 3) := by decide +kernel
theorem dX6_draws_29 : decode cX6_draws 29 = .ok (.iaload, 1) := by decide +kernel
theorem dX6_draws_30 : decode cX6_draws 30 = .ok (.iconst (-1), 1) := by decide +kernel
theorem dX6_draws_31 : decode cX6_draws 31 = .ok (.if_icmp .ne 7, 3) := by decide +kernel
theorem dX6_draws_34 : decode cX6_draws 34 = .ok (.iconst 1, 1) := by decide +kernel
theorem dX6_draws_35 : decode cX6_draws 35 = .ok (.goto 4, 3) := by decide +kernel
theorem dX6_draws_38 : decode cX6_draws 38 = .ok (.iconst 4, 1) := by decide +kernel
theorem dX6_draws_39 : decode cX6_draws 39 = .ok (.invokevirtual 86, 3) := by decide +kernel
theorem dX6_draws_42 : decode cX6_draws 42 = .ok (.iadd, 1) := by decide +kernel
theorem dX6_draws_43 : decode cX6_draws 43 = .ok (.ireturn, 1) := by decide +kernel
theorem dX6_draws_44 : decode cX6_draws 44 = .ok (.aload_n 0, 1) := by decide +kernel
theorem dX6_draws_45 : decode cX6_draws 45 = .ok (.getfield 7, 3) := by decide +kernel
theorem dX6_draws_48 : decode cX6_draws 48 = .ok (.sipush 354, 3) := by decide +kernel
theorem dX6_draws_51 : decode cX6_draws 51 = .ok (.aload_n 0, 1) := by decide +kernel
theorem dX6_draws_52 : decode cX6_draws 52 = .ok (.getfield 7, 3) := by decide +kernel
theorem dX6_draws_55 : decode cX6_draws 55 = .ok (.sipush 342, 3) := by decide +kernel
theorem dX6_draws_58 : decode cX6_draws 58 = .ok (.iaload, 1) := by decide +kernel
theorem dX6_draws_59 : decode cX6_draws 59 = .ok (.iadd, 1) := by decide +kernel
theorem dX6_draws_60 : decode cX6_draws 60 = .ok (.dup2, 1) := by decide +kernel
theorem dX6_draws_61 : decode cX6_draws 61 = .ok (.iaload, 1) := by decide +kernel
theorem dX6_draws_62 : decode cX6_draws 62 = .ok (.iconst 1, 1) := by decide +kernel
theorem dX6_draws_63 : decode cX6_draws 63 = .ok (.iadd, 1) := by decide +kernel
theorem dX6_draws_64 : decode cX6_draws 64 = .ok (.iastore, 1) := by decide +kernel
theorem dX6_draws_65 : decode cX6_draws 65 = .ok (.aload_n 0, 1) := by decide +kernel
theorem dX6_draws_66 : decode cX6_draws 66 = .ok (.aload_n 0, 1) := by decide +kernel
theorem dX6_draws_67 : decode cX6_draws 67 = .ok (.getfield 7, 3) := by decide +kernel
theorem dX6_draws_70 : decode cX6_draws 70 = .ok (.sipush 342, 3) := by decide +kernel
theorem dX6_draws_73 : decode cX6_draws 73 = .ok (.iaload, 1) := by decide +kernel
theorem dX6_draws_74 : decode cX6_draws 74 = .ok (.invokevirtual 58, 3) := by decide +kernel
theorem dX6_draws_77 : decode cX6_draws 77 = .ok (.istore_n 1, 1) := by decide +kernel
theorem dX6_draws_78 : decode cX6_draws 78 = .ok (.aload_n 0, 1) := by decide +kernel
theorem dX6_draws_79 : decode cX6_draws 79 = .ok (.iconst 0, 1) := by decide +kernel
theorem dX6_draws_80 : decode cX6_draws 80 = .ok (.invokevirtual 93, 3) := by decide +kernel
theorem dX6_draws_83 : decode cX6_draws 83 = .ok (.istore_n 2, 1) := by decide +kernel
theorem dX6_draws_84 : decode cX6_draws 84 = .ok (.iload_n 1, 1) := by decide +kernel
theorem dX6_draws_85 : decode cX6_draws 85 = .ok (.ireturn, 1) := by decide +kernel
theorem dX6_draw_0 : decode cX6_draw 0 = .ok (.aload_n 0, 1) := by decide +kernel
theorem dX6_draw_1 : decode cX6_draw 1 = .ok (.iconst 0, 1) := by decide +kernel
theorem dX6_draw_2 : decode cX6_draw 2 = .ok (.putfield 33, 3) := by decide +kernel
theorem dX6_draw_5 : decode cX6_draw 5 = .ok (.aload_n 0, 1) := by decide +kernel
theorem dX6_draw_6 : decode cX6_draw 6 = .ok (.invokevirtual 69, 3) := by decide +kernel
theorem dX6_draw_9 : decode cX6_draw 9 = .ok (.aload_n 0, 1) := by decide +kernel
theorem dX6_draw_10 : decode cX6_draw 10 = .ok (.invokevirtual 103, 3) := by decide +kernel
theorem dX6_draw_13 : decode cX6_draw 13 = .ok (.ireturn, 1) := by decide +kernel
theorem dX6_passes_0 : decode cX6_passes 0 = .ok (.aload_n 0, 1) := by decide +kernel
theorem dX6_passes_1 : decode cX6_passes 1 = .ok (.getfield 7, 3) := by decide +kernel
theorem dX6_passes_4 : decode cX6_passes 4 = .ok (.sipush 342, 3) := by decide +kernel
theorem dX6_passes_7 : decode cX6_passes 7 = .ok (.iaload, 1) := by decide +kernel
theorem dX6_passes_8 : decode cX6_passes 8 = .ok (.iconst (-1), 1) := by decide +kernel
theorem dX6_passes_9 : decode cX6_passes 9 = .ok (.if_icmp .eq 10, 3) := by decide +kernel
theorem dX6_passes_12 : decode cX6_passes 12 = .ok (.aload_n 0, 1) := by decide +kernel
theorem dX6_passes_13 : decode cX6_passes 13 = .ok (.invokevirtual 72, 3) := by decide +kernel
theorem dX6_passes_16 : decode cX6_passes 16 = .ok (.ifCond .le 25, 3) := by decide +kernel
theorem dX6_passes_19 : decode cX6_passes 19 = .ok (.aload_n 0, 1) := by decide +kernel
theorem dX6_passes_20 : decode cX6_passes 20 = .ok (.aload_n 0, 1) := by decide +kernel
theorem dX6_passes_21 : decode cX6_passes 21 = .ok (.getfield 7, 3) := by decide +kernel
theorem dX6_passes_24 : decode cX6_passes 24 = .ok (.sipush 342, 3) := by decide +kernel
theorem dX6_passes_27 : decode cX6_passes 27 = .ok (.iaload, 1) := by decide +kernel
theorem dX6_passes_28 : decode cX6_passes 28 = .ok (.iconst (-1), 1) := by decide +kernel
theorem dX6_passes_29 : decode cX6_passes 29 = .ok (.if_icmp .ne 7, 3) := by decide +kernel
theorem dX6_passes_32 : decode cX6_passes 32 = .ok (.iconst 1, 1) := by decide +kernel
theorem dX6_passes_33 : decode cX6_passes 33 = .ok (.goto 4, 3) := by decide +kernel
theorem dX6_passes_36 : decode cX6_passes 36 = .ok (.iconst 5, 1) := by decide +kernel
theorem dX6_passes_37 : decode cX6_passes 37 = .ok (.invokevirtual 86, 3) := by decide +kernel
theorem dX6_passes_40 : decode cX6_passes 40 = .ok (.ireturn, 1) := by decide +kernel
theorem dX6_passes_41 : decode cX6_passes 41 = .ok (.aload_n 0, 1) := by decide +kernel
theorem dX6_passes_42 : decode cX6_passes 42 = .ok (.iconst 1, 1) := by decide +kernel
theorem dX6_passes_43 : decode cX6_passes 43 = .ok (.invokevirtual 93, 3) := by decide +kernel
theorem dX6_passes_46 : decode cX6_passes 46 = .ok (.ifCond .eq 8, 3) := by decide +kernel
theorem dX6_passes_49 : decode cX6_passes 49 = .ok (.bipush 11, 2) := by decide +kernel
theorem dX6_passes_51 : decode cX6_passes 51 = .ok (.goto 5, 3) := by decide +kernel
theorem dX6_passes_54 : decode cX6_passes 54 = .ok (.bipush 10, 2) := by decide +kernel
theorem dX6_passes_56 : decode cX6_passes 56 = .ok (.ireturn, 1) := by decide +kernel
theorem dX6_pass_0 : decode cX6_pass 0 = .ok (.aload_n 0, 1) := by decide +kernel
theorem dX6_pass_1 : decode cX6_pass 1 = .ok (.iconst 0, 1) := by decide +kernel
theorem dX6_pass_2 : decode cX6_pass 2 = .ok (.putfield 33, 3) := by decide +kernel
theorem dX6_pass_5 : decode cX6_pass 5 = .ok (.aload_n 0, 1) := by decide +kernel
theorem dX6_pass_6 : decode cX6_pass 6 = .ok (.invokevirtual 69, 3) := by decide +kernel
theorem dX6_pass_9 : decode cX6_pass 9 = .ok (.aload_n 0, 1) := by decide +kernel
theorem dX6_pass_10 : decode cX6_pass 10 = .ok (.invokevirtual 106, 3) := by decide +kernel
theorem dX6_pass_13 : decode cX6_pass 13 = .ok (.ireturn, 1) := by decide +kernel
theorem dX6_oil_0 : decode cX6_oil 0 = .ok (.aload_n 0, 1) := by decide +kernel
theorem dX6_oil_1 : decode cX6_oil 1 = .ok (.getfield 7, 3) := by decide +kernel
theorem dX6_oil_4 : decode cX6_oil 4 = .ok (.sipush 342, 3) := by decide +kernel
theorem dX6_oil_7 : decode cX6_oil 7 = .ok (.iaload, 1) := by decide +kernel
theorem dX6_oil_8 : decode cX6_oil 8 = .ok (.iconst (-1), 1) := by decide +kernel
theorem dX6_oil_9 : decode cX6_oil 9 = .ok (.if_icmp .eq 30, 3) := by decide +kernel
theorem dX6_oil_12 : decode cX6_oil 12 = .ok (.iload_n 1, 1) := by decide +kernel
theorem dX6_oil_13 : decode cX6_oil 13 = .ok (.iconst 0, 1) := by decide +kernel
theorem dX6_oil_14 : decode cX6_oil 14 = .ok (.aload_n 0, 1) := by decide +kernel
theorem dX6_oil_15 : decode cX6_oil 15 = .ok (.getfield 7, 3) := by decide +kernel
theorem dX6_oil_18 : decode cX6_oil 18 = .ok (.sipush 337, 3) := by decide +kernel
theorem dX6_oil_21 : decode cX6_oil 21 = .ok (.aload_n 0, 1) := by decide +kernel
theorem dX6_oil_22 : decode cX6_oil 22 = .ok (.getfield 7, 3) := by decide +kernel
theorem dX6_oil_25 : decode cX6_oil 25 = .ok (.sipush 342, 3) := by decide +kernel
theorem dX6_oil_28 : decode cX6_oil 28 = .ok (.iaload, 1) := by decide +kernel
theorem dX6_oil_29 : decode cX6_oil 29 = .ok (.iadd, 1) := by decide +kernel
theorem dX6_oil_30 : decode cX6_oil 30 = .ok (.iaload, 1) := by decide +kernel
theorem dX6_oil_31 : decode cX6_oil 31 = .ok (.iconst 1, 1) := by decide +kernel
theorem dX6_oil_32 : decode cX6_oil 32 = .ok (.isub, 1) := by decide +kernel
theorem dX6_oil_33 : decode cX6_oil 33 = .ok (.invokestatic 37, 3) := by decide +kernel
theorem dX6_oil_36 : decode cX6_oil 36 = .ok (.ifCond .eq 7, 3) := by decide +kernel
theorem dX6_oil_39 : decode cX6_oil 39 = .ok (.iconst 1, 1) := by decide +kernel
theorem dX6_oil_40 : decode cX6_oil 40 = .ok (.goto 4, 3) := by decide +kernel
theorem dX6_oil_43 : decode cX6_oil 43 = .ok (.iconst 0, 1) := by decide +kernel
theorem dX6_oil_44 : decode cX6_oil 44 = .ok (.istore_n 2, 1) := by decide +kernel
theorem dX6_oil_45 : decode cX6_oil 45 = .ok (.aload_n 0, 1) := by decide +kernel
theorem dX6_oil_46 : decode cX6_oil 46 = .ok (.iload_n 2, 1) := by decide +kernel
theorem dX6_oil_47 : decode cX6_oil 47 = .ok (.ifCond .eq 7, 3) := by decide +kernel
theorem dX6_oil_50 : decode cX6_oil 50 = .ok (.iconst 0, 1) := by decide +kernel
theorem dX6_oil_51 : decode cX6_oil 51 = .ok (.goto 4, 3) := by decide +kernel
theorem dX6_oil_54 : decode cX6_oil 54 = .ok (.iconst 1, 1) := by decide +kernel
theorem dX6_oil_55 : decode cX6_oil 55 = .ok (.invokevirtual 65, 3) := by decide +kernel
theorem dX6_oil_58 : decode cX6_oil 58 = .ok (.ifCond .ne 5, 3) := by decide +kernel
theorem dX6_oil_61 : decode cX6_oil 61 = .ok (.iconst 0, 1) := by decide +kernel
theorem dX6_oil_62 : decode cX6_oil 62 = .ok (.ireturn, 1) := by decide +kernel
theorem dX6_oil_63 : decode cX6_oil 63 = .ok (.aload_n 0, 1) := by decide +kernel
theorem dX6_oil_64 : decode cX6_oil 64 = .ok (.invokevirtual 69, 3) := by decide +kernel
theorem dX6_oil_67 : decode cX6_oil 67 = .ok (.aload_n 0, 1) := by decide +kernel
theorem dX6_oil_68 : decode cX6_oil 68 = .ok (.getfield 7, 3) := by decide +kernel
theorem dX6_oil_71 : decode cX6_oil 71 = .ok (.sipush 342, 3) := by decide +kernel
theorem dX6_oil_74 : decode cX6_oil 74 = .ok (.iaload, 1) := by decide +kernel
theorem dX6_oil_75 : decode cX6_oil 75 = .ok (.iconst (-1), 1) := by decide +kernel
theorem dX6_oil_76 : decode cX6_oil 76 = .ok (.if_icmp .ne 5, 3) := by decide +kernel
theorem dX6_oil_79 : decode cX6_oil 79 = .ok (.iconst (-1), 1) := by decide +kernel
theorem dX6_oil_80 : decode cX6_oil 80 = .ok (.ireturn, 1) := by decide +kernel
theorem dX6_oil_81 : decode cX6_oil 81 = .ok (.aload_n 0, 1) := by decide +kernel
theorem dX6_oil_82 : decode cX6_oil 82 = .ok (.getfield 7, 3) := by decide +kernel
theorem dX6_oil_85 : decode cX6_oil 85 = .ok (.aload_n 0, 1) := by decide +kernel
theorem dX6_oil_86 : decode cX6_oil 86 = .ok (.getfield 7, 3) := by decide +kernel
theorem dX6_oil_89 : decode cX6_oil 89 = .ok (.sipush 342, 3) := by decide +kernel
theorem dX6_oil_92 : decode cX6_oil 92 = .ok (.iaload, 1) := by decide +kernel
theorem dX6_oil_93 : decode cX6_oil 93 = .ok (.iload_n 1, 1) := by decide +kernel
theorem dX6_oil_94 : decode cX6_oil 94 = .ok (.invokestatic 48, 3) := by decide +kernel
theorem dX6_oil_97 : decode cX6_oil 97 = .ok (.iaload, 1) := by decide +kernel
theorem dX6_oil_98 : decode cX6_oil 98 = .ok (.iconst 4, 1) := by decide +kernel
theorem dX6_oil_99 : decode cX6_oil 99 = .ok (.invokestatic 44, 3) := by decide +kernel
theorem dX6_oil_102 : decode cX6_oil 102 = .ok (.istore_n 3, 1) := by decide +kernel
theorem dX6_oil_103 : decode cX6_oil 103 = .ok (.aload_n 0, 1) := by decide +kernel
theorem dX6_oil_104 : decode cX6_oil 104 = .ok (.getfield 7, 3) := by decide +kernel
theorem dX6_oil_107 : decode cX6_oil 107 = .ok (.iload_n 3, 1) := by decide +kernel
theorem dX6_oil_108 : decode cX6_oil 108 = .ok (.iaload, 1) := by decide +kernel
theorem dX6_oil_109 : decode cX6_oil 109 = .ok (.istore 4, 2) := by decide +kernel
theorem dX6_oil_111 : decode cX6_oil 111 = .ok (.aload_n 0, 1) := by decide +kernel
theorem dX6_oil_112 : decode cX6_oil 112 = .ok (.getfield 7, 3) := by decide +kernel
theorem dX6_oil_115 : decode cX6_oil 115 = .ok (.iload_n 3, 1) := by decide +kernel
theorem dX6_oil_116 : decode cX6_oil 116 = .ok (.iconst 0, 1) := by decide +kernel
theorem dX6_oil_117 : decode cX6_oil 117 = .ok (.iastore, 1) := by decide +kernel
theorem dX6_oil_118 : decode cX6_oil 118 = .ok (.iload 4, 2) := by decide +kernel
theorem dX6_oil_120 : decode cX6_oil 120 = .ok (.ireturn, 1) := by decide +kernel
theorem dX6_set_0 : decode cX6_set 0 = .ok (.aload_n 0, 1) := by decide +kernel
theorem dX6_set_1 : decode cX6_set 1 = .ok (.iload_n 1, 1) := by decide +kernel
theorem dX6_set_2 : decode cX6_set 2 = .ok (.iconst 1, 1) := by decide +kernel
theorem dX6_set_3 : decode cX6_set 3 = .ok (.bipush 9, 2) := by decide +kernel
theorem dX6_set_5 : decode cX6_set 5 = .ok (.invokestatic 37, 3) := by decide +kernel
theorem dX6_set_8 : decode cX6_set 8 = .ok (.ifCond .eq 7, 3) := by decide +kernel
theorem dX6_set_11 : decode cX6_set 11 = .ok (.iconst 0, 1) := by decide +kernel
theorem dX6_set_12 : decode cX6_set 12 = .ok (.goto 4, 3) := by decide +kernel
theorem dX6_set_15 : decode cX6_set 15 = .ok (.iconst 1, 1) := by decide +kernel
theorem dX6_set_16 : decode cX6_set 16 = .ok (.invokevirtual 65, 3) := by decide +kernel
theorem dX6_set_19 : decode cX6_set 19 = .ok (.ifCond .ne 5, 3) := by decide +kernel
theorem dX6_set_22 : decode cX6_set 22 = .ok (.iconst 0, 1) := by decide +kernel
theorem dX6_set_23 : decode cX6_set 23 = .ok (.ireturn, 1) := by decide +kernel
theorem dX6_set_24 : decode cX6_set 24 = .ok (.aload_n 0, 1) := by decide +kernel
theorem dX6_set_25 : decode cX6_set 25 = .ok (.invokevirtual 69, 3) := by decide +kernel
theorem dX6_set_28 : decode cX6_set 28 = .ok (.aload_n 0, 1) := by decide +kernel
theorem dX6_set_29 : decode cX6_set 29 = .ok (.getfield 7, 3) := by decide +kernel
theorem dX6_set_32 : decode cX6_set 32 = .ok (.sipush 359, 3) := by decide +kernel
theorem dX6_set_35 : decode cX6_set 35 = .ok (.iaload, 1) := by decide +kernel
theorem dX6_set_36 : decode cX6_set 36 = .ok (.istore_n 2, 1) := by decide +kernel
theorem dX6_set_37 : decode cX6_set 37 = .ok (.aload_n 0, 1) := by decide +kernel
theorem dX6_set_38 : decode cX6_set 38 = .ok (.getfield 7, 3) := by decide +kernel
theorem dX6_set_41 : decode cX6_set 41 = .ok (.sipush 359, 3) := by decide +kernel
theorem dX6_set_44 : decode cX6_set 44 = .ok (.iload_n 1, 1) := by decide +kernel
theorem dX6_set_45 : decode cX6_set 45 = .ok (.iastore, 1) := by decide +kernel
theorem dX6_set_46 : decode cX6_set 46 = .ok (.iload_n 2, 1) := by decide +kernel
theorem dX6_set_47 : decode cX6_set 47 = .ok (.ireturn, 1) := by decide +kernel
theorem dX6_append_0 : decode cX6_append 0 = .ok (.aload_n 0, 1) := by decide +kernel
theorem dX6_append_1 : decode cX6_append 1 = .ok (.iload_n 1, 1) := by decide +kernel
theorem dX6_append_2 : decode cX6_append 2 = .ok (.bipush 33, 2) := by decide +kernel
theorem dX6_append_4 : decode cX6_append 4 = .ok (.bipush 126, 2) := by decide +kernel
theorem dX6_append_6 : decode cX6_append 6 = .ok (.invokestatic 37, 3) := by decide +kernel
theorem dX6_append_9 : decode cX6_append 9 = .ok (.ifCond .ne 7, 3) := by decide +kernel
theorem dX6_append_12 : decode cX6_append 12 = .ok (.iconst 1, 1) := by decide +kernel
theorem dX6_append_13 : decode cX6_append 13 = .ok (.goto 17, 3) := by decide +kernel
theorem dX6_append_16 : decode cX6_append 16 = .ok (.aload_n 0, 1) := by decide +kernel
theorem dX6_append_17 : decode cX6_append 17 = .ok (.getfield 109, 3) := by decide +kernel
theorem dX6_append_20 : decode cX6_append 20 = .ok (.bipush 60, 2) := by decide +kernel
theorem dX6_append_22 : decode cX6_append 22 = .ok (.if_icmp .ne 7, 3) := by decide +kernel
theorem dX6_append_25 : decode cX6_append 25 = .ok (.iconst 2, 1) := by decide +kernel
theorem dX6_append_26 : decode cX6_append 26 = .ok (.goto 4, 3) := by decide +kernel
theorem dX6_append_29 : decode cX6_append 29 = .ok (.iconst 0, 1) := by decide +kernel
theorem dX6_append_30 : decode cX6_append 30 = .ok (.invokevirtual 65, 3) := by decide +kernel
theorem dX6_append_33 : decode cX6_append 33 = .ok (.ifCond .ne 5, 3) := by decide +kernel
theorem dX6_append_36 : decode cX6_append 36 = .ok (.iconst 0, 1) := by decide +kernel
theorem dX6_append_37 : decode cX6_append 37 = .ok (.ireturn, 1) := by decide +kernel
theorem dX6_append_38 : decode cX6_append 38 = .ok (.aload_n 0, 1) := by decide +kernel
theorem dX6_append_39 : decode cX6_append 39 = .ok (.getfield 19, 3) := by decide +kernel
theorem dX6_append_42 : decode cX6_append 42 = .ok (.aload_n 0, 1) := by decide +kernel
theorem dX6_append_43 : decode cX6_append 43 = .ok (.getfield 109, 3) := by decide +kernel
theorem dX6_append_46 : decode cX6_append 46 = .ok (.iload_n 1, 1) := by decide +kernel
theorem dX6_append_47 : decode cX6_append 47 = .ok (.iastore, 1) := by decide +kernel
theorem dX6_append_48 : decode cX6_append 48 = .ok (.aload_n 0, 1) := by decide +kernel
theorem dX6_append_49 : decode cX6_append 49 = .ok (.dup, 1) := by decide +kernel
theorem dX6_append_50 : decode cX6_append 50 = .ok (.getfield 109, 3) := by decide +kernel
theorem dX6_append_53 : decode cX6_append 53 = .ok (.iconst 1, 1) := by decide +kernel
theorem dX6_append_54 : decode cX6_append 54 = .ok (.iadd, 1) := by decide +kernel
theorem dX6_append_55 : decode cX6_append 55 = .ok (.putfield 109, 3) := by decide +kernel
theorem dX6_append_58 : decode cX6_append 58 = .ok (.aload_n 0, 1) := by decide +kernel
theorem dX6_append_59 : decode cX6_append 59 = .ok (.getfield 109, 3) := by decide +kernel
theorem dX6_append_62 : decode cX6_append 62 = .ok (.ireturn, 1) := by decide +kernel
theorem dX6_clearBuffer_0 : decode cX6_clearBuffer 0 = .ok (.aload_n 0, 1) := by decide +kernel
theorem dX6_clearBuffer_1 : decode cX6_clearBuffer 1 = .ok (.iconst 0, 1) := by decide +kernel
theorem dX6_clearBuffer_2 : decode cX6_clearBuffer 2 = .ok (.putfield 33, 3) := by decide +kernel
theorem dX6_clearBuffer_5 : decode cX6_clearBuffer 5 = .ok (.aload_n 0, 1) := by decide +kernel
theorem dX6_clearBuffer_6 : decode cX6_clearBuffer 6 = .ok (.getfield 109, 3) := by decide +kernel
theorem dX6_clearBuffer_9 : decode cX6_clearBuffer 9 = .ok (.istore_n 1, 1) := by decide +kernel
theorem dX6_clearBuffer_10 : decode cX6_clearBuffer 10 = .ok (.aload_n 0, 1) := by decide +kernel
theorem dX6_clearBuffer_11 : decode cX6_clearBuffer 11 = .ok (.iconst 0, 1) := by decide +kernel
theorem dX6_clearBuffer_12 : decode cX6_clearBuffer 12 = .ok (.putfield 109, 3) := by decide +kernel
theorem dX6_clearBuffer_15 : decode cX6_clearBuffer 15 = .ok (.iload_n 1, 1) := by decide +kernel
theorem dX6_clearBuffer_16 : decode cX6_clearBuffer 16 = .ok (.ireturn, 1) := by decide +kernel
theorem dX6_sign_0 : decode cX6_sign 0 = .ok (.aload_n 0, 1) := by decide +kernel
theorem dX6_sign_1 : decode cX6_sign 1 = .ok (.getfield 112, 3) := by decide +kernel
theorem dX6_sign_4 : decode cX6_sign 4 = .ok (.aload_n 0, 1) := by decide +kernel
theorem dX6_sign_5 : decode cX6_sign 5 = .ok (.getfield 109, 3) := by decide +kernel
theorem dX6_sign_8 : decode cX6_sign 8 = .ok (.if_icmp .ge 15, 3) := by decide +kernel
theorem dX6_sign_11 : decode cX6_sign 11 = .ok (.aload_n 0, 1) := by decide +kernel
theorem dX6_sign_12 : decode cX6_sign 12 = .ok (.getfield 19, 3) := by decide +kernel
theorem dX6_sign_15 : decode cX6_sign 15 = .ok (.aload_n 0, 1) := by decide +kernel
theorem dX6_sign_16 : decode cX6_sign 16 = .ok (.getfield 112, 3) := by decide +kernel
theorem dX6_sign_19 : decode cX6_sign 19 = .ok (.iaload, 1) := by decide +kernel
theorem dX6_sign_20 : decode cX6_sign 20 = .ok (.goto 4, 3) := by decide +kernel
theorem dX6_sign_23 : decode cX6_sign 23 = .ok (.iconst 0, 1) := by decide +kernel
theorem dX6_sign_24 : decode cX6_sign 24 = .ok (.istore_n 3, 1) := by decide +kernel
theorem dX6_sign_25 : decode cX6_sign 25 = .ok (.aload_n 0, 1) := by decide +kernel
theorem dX6_sign_26 : decode cX6_sign 26 = .ok (.aload_n 0, 1) := by decide +kernel
theorem dX6_sign_27 : decode cX6_sign 27 = .ok (.getfield 115, 3) := by decide +kernel
theorem dX6_sign_30 : decode cX6_sign 30 = .ok (.ifCond .ne 12, 3) := by decide +kernel
theorem dX6_sign_33 : decode cX6_sign 33 = .ok (.iload_n 3, 1) := by decide +kernel
theorem dX6_sign_34 : decode cX6_sign 34 = .ok (.iload_n 1, 1) := by decide +kernel
theorem dX6_sign_35 : decode cX6_sign 35 = .ok (.iload_n 2, 1) := by decide +kernel
theorem dX6_sign_36 : decode cX6_sign 36 = .ok (.invokestatic 37, 3) := by decide +kernel
theorem dX6_sign_39 : decode cX6_sign 39 = .ok (.ifCond .ne 7, 3) := by decide +kernel
theorem dX6_sign_42 : decode cX6_sign 42 = .ok (.iconst 1, 1) := by decide +kernel
theorem dX6_sign_43 : decode cX6_sign 43 = .ok (.goto 4, 3) := by decide +kernel
theorem dX6_sign_46 : decode cX6_sign 46 = .ok (.iconst 0, 1) := by decide +kernel
theorem dX6_sign_47 : decode cX6_sign 47 = .ok (.putfield 115, 3) := by decide +kernel
theorem dX6_sign_50 : decode cX6_sign 50 = .ok (.aload_n 0, 1) := by decide +kernel
theorem dX6_sign_51 : decode cX6_sign 51 = .ok (.dup, 1) := by decide +kernel
theorem dX6_sign_52 : decode cX6_sign 52 = .ok (.getfield 112, 3) := by decide +kernel
theorem dX6_sign_55 : decode cX6_sign 55 = .ok (.aload_n 0, 1) := by decide +kernel
theorem dX6_sign_56 : decode cX6_sign 56 = .ok (.getfield 115, 3) := by decide +kernel
theorem dX6_sign_59 : decode cX6_sign 59 = .ok (.ifCond .eq 7, 3) := by decide +kernel
theorem dX6_sign_62 : decode cX6_sign 62 = .ok (.iconst 0, 1) := by decide +kernel
theorem dX6_sign_63 : decode cX6_sign 63 = .ok (.goto 4, 3) := by decide +kernel
theorem dX6_sign_66 : decode cX6_sign 66 = .ok (.iconst 1, 1) := by decide +kernel
theorem dX6_sign_67 : decode cX6_sign 67 = .ok (.iadd, 1) := by decide +kernel
theorem dX6_sign_68 : decode cX6_sign 68 = .ok (.putfield 112, 3) := by decide +kernel
theorem dX6_sign_71 : decode cX6_sign 71 = .ok (.iload_n 3, 1) := by decide +kernel
theorem dX6_sign_72 : decode cX6_sign 72 = .ok (.ireturn, 1) := by decide +kernel
theorem dX6_isNext_0 : decode cX6_isNext 0 = .ok (.aload_n 0, 1) := by decide +kernel
theorem dX6_isNext_1 : decode cX6_isNext 1 = .ok (.getfield 115, 3) := by decide +kernel
theorem dX6_isNext_4 : decode cX6_isNext 4 = .ok (.ifCond .ne 35, 3) := by decide +kernel
theorem dX6_isNext_7 : decode cX6_isNext 7 = .ok (.aload_n 0, 1) := by decide +kernel
theorem dX6_isNext_8 : decode cX6_isNext 8 = .ok (.getfield 112, 3) := by decide +kernel
theorem dX6_isNext_11 : decode cX6_isNext 11 = .ok (.aload_n 0, 1) := by decide +kernel
theorem dX6_isNext_12 : decode cX6_isNext 12 = .ok (.getfield 109, 3) := by decide +kernel
theorem dX6_isNext_15 : decode cX6_isNext 15 = .ok (.if_icmp .ge 24, 3) := by decide +kernel
theorem dX6_isNext_18 : decode cX6_isNext 18 = .ok (.aload_n 0, 1) := by decide +kernel
theorem dX6_isNext_19 : decode cX6_isNext 19 = .ok (.getfield 19, 3) := by decide +kernel
theorem dX6_isNext_22 : decode cX6_isNext 22 = .ok (.aload_n 0, 1) := by decide +kernel
theorem dX6_isNext_23 : decode cX6_isNext 23 = .ok (.getfield 112, 3) := by decide +kernel
theorem dX6_isNext_26 : decode cX6_isNext 26 = .ok (.iaload, 1) := by decide +kernel
theorem dX6_isNext_27 : decode cX6_isNext 27 = .ok (.iload_n 1, 1) := by decide +kernel
theorem dX6_isNext_28 : decode cX6_isNext 28 = .ok (.iload_n 2, 1) := by decide +kernel
theorem dX6_isNext_29 : decode cX6_isNext 29 = .ok (.invokestatic 37, 3) := by decide +kernel
theorem dX6_isNext_32 : decode cX6_isNext 32 = .ok (.ifCond .eq 7, 3) := by decide +kernel
theorem dX6_isNext_35 : decode cX6_isNext 35 = .ok (.iconst 1, 1) := by decide +kernel
theorem dX6_isNext_36 : decode cX6_isNext 36 = .ok (.goto 4, 3) := by decide +kernel
theorem dX6_isNext_39 : decode cX6_isNext 39 = .ok (.iconst 0, 1) := by decide +kernel
theorem dX6_isNext_40 : decode cX6_isNext 40 = .ok (.ireturn, 1) := by decide +kernel
theorem dX6_readTurn_0 : decode cX6_readTurn 0 = .ok (.aload_n 0, 1) := by decide +kernel
theorem dX6_readTurn_1 : decode cX6_readTurn 1 = .ok (.aload_n 0, 1) := by decide +kernel
theorem dX6_readTurn_2 : decode cX6_readTurn 2 = .ok (.bipush 108, 2) := by decide +kernel
theorem dX6_readTurn_4 : decode cX6_readTurn 4 = .ok (.bipush 108, 2) := by decide +kernel
theorem dX6_readTurn_6 : decode cX6_readTurn 6 = .ok (.invokevirtual 119, 3) := by decide +kernel
theorem dX6_readTurn_9 : decode cX6_readTurn 9 = .ok (.ifCond .ne 25, 3) := by decide +kernel
theorem dX6_readTurn_12 : decode cX6_readTurn 12 = .ok (.aload_n 0, 1) := by decide +kernel
theorem dX6_readTurn_13 : decode cX6_readTurn 13 = .ok (.bipush 100, 2) := by decide +kernel
theorem dX6_readTurn_15 : decode cX6_readTurn 15 = .ok (.bipush 100, 2) := by decide +kernel
theorem dX6_readTurn_17 : decode cX6_readTurn 17 = .ok (.invokevirtual 119, 3) := by decide +kernel
theorem dX6_readTurn_20 : decode cX6_readTurn 20 = .ok (.ifCond .ne 14, 3) := by decide +kernel
theorem dX6_readTurn_23 : decode cX6_readTurn 23 = .ok (.aload_n 0, 1) := by decide +kernel
theorem dX6_readTurn_24 : decode cX6_readTurn 24 = .ok (.bipush 112, 2) := by decide +kernel
theorem dX6_readTurn_26 : decode cX6_readTurn 26 = .ok (.bipush 112, 2) := by decide +kernel
theorem dX6_readTurn_28 : decode cX6_readTurn 28 = .ok (.invokevirtual 119, 3) := by decide +kernel
theorem dX6_readTurn_31 : decode cX6_readTurn 31 = .ok (.ifCond .eq 15, 3) := by decide +kernel
theorem dX6_readTurn_34 : decode cX6_readTurn 34 = .ok (.aload_n 0, 1) := by decide +kernel
theorem dX6_readTurn_35 : decode cX6_readTurn 35 = .ok (.getfield 19, 3) := by decide +kernel
theorem dX6_readTurn_38 : decode cX6_readTurn 38 = .ok (.aload_n 0, 1) := by decide +kernel
theorem dX6_readTurn_39 : decode cX6_readTurn 39 = .ok (.getfield 112, 3) := by decide +kernel
theorem dX6_readTurn_42 : decode cX6_readTurn 42 = .ok (.iaload, 1) := by decide +kernel
theorem dX6_readTurn_43 : decode cX6_readTurn 43 = .ok (.goto 4, 3) := by decide +kernel
theorem dX6_readTurn_46 : decode cX6_readTurn 46 = .ok (.iconst 0, 1) := by decide +kernel
theorem dX6_readTurn_47 : decode cX6_readTurn 47 = .ok (.putfield 123, 3) := by decide +kernel
theorem dX6_readTurn_50 : decode cX6_readTurn 50 = .ok (.aload_n 0, 1) := by decide +kernel
theorem dX6_readTurn_51 : decode cX6_readTurn 51 = .ok (.aload_n 0, 1) := by decide +kernel
theorem dX6_readTurn_52 : decode cX6_readTurn 52 = .ok (.getfield 115, 3) := by decide +kernel
theorem dX6_readTurn_55 : decode cX6_readTurn 55 = .ok (.ifCond .ne 10, 3) := by decide +kernel
theorem dX6_readTurn_58 : decode cX6_readTurn 58 = .ok (.aload_n 0, 1) := by decide +kernel
theorem dX6_readTurn_59 : decode cX6_readTurn 59 = .ok (.getfield 123, 3) := by decide +kernel
theorem dX6_readTurn_62 : decode cX6_readTurn 62 = .ok (.ifCond .ne 7, 3) := by decide +kernel
theorem dX6_readTurn_65 : decode cX6_readTurn 65 = .ok (.iconst 1, 1) := by decide +kernel
theorem dX6_readTurn_66 : decode cX6_readTurn 66 = .ok (.goto 4, 3) := by decide +kernel
theorem dX6_readTurn_69 : decode cX6_readTurn 69 = .ok (.iconst 0, 1) := by decide +kernel
theorem dX6_readTurn_70 : decode cX6_readTurn 70 = .ok (.putfield 115, 3) := by decide +kernel
theorem dX6_readTurn_73 : decode cX6_readTurn 73 = .ok (.aload_n 0, 1) := by decide +kernel
theorem dX6_readTurn_74 : decode cX6_readTurn 74 = .ok (.dup, 1) := by decide +kernel
theorem dX6_readTurn_75 : decode cX6_readTurn 75 = .ok (.getfield 112, 3) := by decide +kernel
theorem dX6_readTurn_78 : decode cX6_readTurn 78 = .ok (.aload_n 0, 1) := by decide +kernel
theorem dX6_readTurn_79 : decode cX6_readTurn 79 = .ok (.getfield 115, 3) := by decide +kernel
theorem dX6_readTurn_82 : decode cX6_readTurn 82 = .ok (.ifCond .eq 7, 3) := by decide +kernel
theorem dX6_readTurn_85 : decode cX6_readTurn 85 = .ok (.iconst 0, 1) := by decide +kernel
theorem dX6_readTurn_86 : decode cX6_readTurn 86 = .ok (.goto 4, 3) := by decide +kernel
theorem dX6_readTurn_89 : decode cX6_readTurn 89 = .ok (.iconst 1, 1) := by decide +kernel
theorem dX6_readTurn_90 : decode cX6_readTurn 90 = .ok (.iadd, 1) := by decide +kernel
theorem dX6_readTurn_91 : decode cX6_readTurn 91 = .ok (.putfield 112, 3) := by decide +kernel
theorem dX6_readTurn_94 : decode cX6_readTurn 94 = .ok (.aload_n 0, 1) := by decide +kernel
theorem dX6_readTurn_95 : decode cX6_readTurn 95 = .ok (.getfield 123, 3) := by decide +kernel
theorem dX6_readTurn_98 : decode cX6_readTurn 98 = .ok (.bipush 108, 2) := by decide +kernel
theorem dX6_readTurn_100 : decode cX6_readTurn 100 = .ok (.if_icmp .ne 156, 3) := by decide +kernel
theorem dX6_readTurn_103 : decode cX6_readTurn 103 = .ok (.aload_n 0, 1) := by decide +kernel
theorem dX6_readTurn_104 : decode cX6_readTurn 104 = .ok (.aload_n 0, 1) := by decide +kernel
theorem dX6_readTurn_105 : decode cX6_readTurn 105 = .ok (.bipush 48, 2) := by decide +kernel
theorem dX6_readTurn_107 : decode cX6_readTurn 107 = .ok (.bipush 57, 2) := by decide +kernel
theorem dX6_readTurn_109 : decode cX6_readTurn 109 = .ok (.invokevirtual 126, 3) := by decide +kernel
theorem dX6_readTurn_112 : decode cX6_readTurn 112 = .ok (.bipush 48, 2) := by decide +kernel
theorem dX6_readTurn_114 : decode cX6_readTurn 114 = .ok (.isub, 1) := by decide +kernel
theorem dX6_readTurn_115 : decode cX6_readTurn 115 = .ok (.putfield 129, 3) := by decide +kernel
theorem dX6_readTurn_118 : decode cX6_readTurn 118 = .ok (.aload_n 0, 1) := by decide +kernel
theorem dX6_readTurn_119 : decode cX6_readTurn 119 = .ok (.bipush 48, 2) := by decide +kernel
theorem dX6_readTurn_121 : decode cX6_readTurn 121 = .ok (.bipush 57, 2) := by decide +kernel
theorem dX6_readTurn_123 : decode cX6_readTurn 123 = .ok (.invokevirtual 119, 3) := by decide +kernel
theorem dX6_readTurn_126 : decode cX6_readTurn 126 = .ok (.ifCond .eq 69, 3) := by decide +kernel
theorem dX6_readTurn_129 : decode cX6_readTurn 129 = .ok (.aload_n 0, 1) := by decide +kernel
theorem dX6_readTurn_130 : decode cX6_readTurn 130 = .ok (.getfield 129, 3) := by decide +kernel
theorem dX6_readTurn_133 : decode cX6_readTurn 133 = .ok (.ifCond .le 62, 3) := by decide +kernel
theorem dX6_readTurn_136 : decode cX6_readTurn 136 = .ok (.bipush 10, 2) := by decide +kernel
theorem dX6_readTurn_138 : decode cX6_readTurn 138 = .ok (.aload_n 0, 1) := by decide +kernel
theorem dX6_readTurn_139 : decode cX6_readTurn 139 = .ok (.getfield 129, 3) := by decide +kernel
theorem dX6_readTurn_142 : decode cX6_readTurn 142 = .ok (.imul, 1) := by decide +kernel
theorem dX6_readTurn_143 : decode cX6_readTurn 143 = .ok (.aload_n 0, 1) := by decide +kernel
theorem dX6_readTurn_144 : decode cX6_readTurn 144 = .ok (.getfield 19, 3) := by decide +kernel
theorem dX6_readTurn_147 : decode cX6_readTurn 147 = .ok (.aload_n 0, 1) := by decide +kernel
theorem dX6_readTurn_148 : decode cX6_readTurn 148 = .ok (.getfield 112, 3) := by decide +kernel
theorem dX6_readTurn_151 : decode cX6_readTurn 151 = .ok (.iaload, 1) := by decide +kernel
theorem dX6_readTurn_152 : decode cX6_readTurn 152 = .ok (.iadd, 1) := by decide +kernel
theorem dX6_readTurn_153 : decode cX6_readTurn 153 = .ok (.bipush 48, 2) := by decide +kernel
theorem dX6_readTurn_155 : decode cX6_readTurn 155 = .ok (.isub, 1) := by decide +kernel
theorem dX6_readTurn_156 : decode cX6_readTurn 156 = .ok (.bipush 28, 2) := by decide +kernel
theorem dX6_readTurn_158 : decode cX6_readTurn 158 = .ok (.if_icmp .ge 37, 3) := by decide +kernel
theorem dX6_readTurn_161 : decode cX6_readTurn 161 = .ok (.aload_n 0, 1) := by decide +kernel
theorem dX6_readTurn_162 : decode cX6_readTurn 162 = .ok (.bipush 10, 2) := by decide +kernel
theorem dX6_readTurn_164 : decode cX6_readTurn 164 = .ok (.aload_n 0, 1) := by decide +kernel
theorem dX6_readTurn_165 : decode cX6_readTurn 165 = .ok (.getfield 129, 3) := by decide +kernel
theorem dX6_readTurn_168 : decode cX6_readTurn 168 = .ok (.imul, 1) := by decide +kernel
theorem dX6_readTurn_169 : decode cX6_readTurn 169 = .ok (.aload_n 0, 1) := by decide +kernel
theorem dX6_readTurn_170 : decode cX6_readTurn 170 = .ok (.getfield 19, 3) := by decide +kernel
theorem dX6_readTurn_173 : decode cX6_readTurn 173 = .ok (.aload_n 0, 1) := by decide +kernel
theorem dX6_readTurn_174 : decode cX6_readTurn 174 = .ok (.getfield 112, 3) := by decide +kernel
theorem dX6_readTurn_177 : decode cX6_readTurn 177 = .ok (.iaload, 1) := by decide +kernel
theorem dX6_readTurn_178 : decode cX6_readTurn 178 = .ok (.iadd, 1) := by decide +kernel
theorem dX6_readTurn_179 : decode cX6_readTurn 179 = .ok (.bipush 48, 2) := by decide +kernel
theorem dX6_readTurn_181 : decode cX6_readTurn 181 = .ok (.isub, 1) := by decide +kernel
theorem dX6_readTurn_182 : decode cX6_readTurn 182 = .ok (.putfield 129, 3) := by decide +kernel
theorem dX6_readTurn_185 : decode cX6_readTurn 185 = .ok (.aload_n 0, 1) := by decide +kernel
theorem dX6_readTurn_186 : decode cX6_readTurn 186 = .ok (.dup, 1) := by decide +kernel
theorem dX6_readTurn_187 : decode cX6_readTurn 187 = .ok (.getfield 112, 3) := by decide +kernel
theorem dX6_readTurn_190 : decode cX6_readTurn 190 = .ok (.iconst 1, 1) := by decide +kernel
theorem dX6_readTurn_191 : decode cX6_readTurn 191 = .ok (.iadd, 1) := by decide +kernel
theorem dX6_readTurn_192 : decode cX6_readTurn 192 = .ok (.putfield 112, 3) := by decide +kernel
theorem dX6_readTurn_195 : decode cX6_readTurn 195 = .ok (.aload_n 0, 1) := by decide +kernel
theorem dX6_readTurn_196 : decode cX6_readTurn 196 = .ok (.aload_n 0, 1) := by decide +kernel
theorem dX6_readTurn_197 : decode cX6_readTurn 197 = .ok (.bipush 97, 2) := by decide +kernel
theorem dX6_readTurn_199 : decode cX6_readTurn 199 = .ok (.bipush 99, 2) := by decide +kernel
theorem dX6_readTurn_201 : decode cX6_readTurn 201 = .ok (.invokevirtual 126, 3) := by decide +kernel
theorem dX6_readTurn_204 : decode cX6_readTurn 204 = .ok (.bipush 97, 2) := by decide +kernel
theorem dX6_readTurn_206 : decode cX6_readTurn 206 = .ok (.isub, 1) := by decide +kernel
theorem dX6_readTurn_207 : decode cX6_readTurn 207 = .ok (.putfield 132, 3) := by decide +kernel
theorem dX6_readTurn_210 : decode cX6_readTurn 210 = .ok (.aload_n 0, 1) := by decide +kernel
theorem dX6_readTurn_211 : decode cX6_readTurn 211 = .ok (.bipush 60, 2) := by decide +kernel
theorem dX6_readTurn_213 : decode cX6_readTurn 213 = .ok (.bipush 60, 2) := by decide +kernel
theorem dX6_readTurn_215 : decode cX6_readTurn 215 = .ok (.invokevirtual 119, 3) := by decide +kernel
theorem dX6_readTurn_218 : decode cX6_readTurn 218 = .ok (.ifCond .eq 7, 3) := by decide +kernel
theorem dX6_readTurn_221 : decode cX6_readTurn 221 = .ok (.iconst 0, 1) := by decide +kernel
theorem dX6_readTurn_222 : decode cX6_readTurn 222 = .ok (.goto 4, 3) := by decide +kernel
theorem dX6_readTurn_225 : decode cX6_readTurn 225 = .ok (.iconst 1, 1) := by decide +kernel
theorem dX6_readTurn_226 : decode cX6_readTurn 226 = .ok (.istore_n 1, 1) := by decide +kernel
theorem dX6_readTurn_227 : decode cX6_readTurn 227 = .ok (.iload_n 1, 1) := by decide +kernel
theorem dX6_readTurn_228 : decode cX6_readTurn 228 = .ok (.ifCond .ne 14, 3) := by decide +kernel
theorem dX6_readTurn_231 : decode cX6_readTurn 231 = .ok (.aload_n 0, 1) := by decide +kernel
theorem dX6_readTurn_232 : decode cX6_readTurn 232 = .ok (.bipush 60, 2) := by decide +kernel
theorem dX6_readTurn_234 : decode cX6_readTurn 234 = .ok (.bipush 60, 2) := by decide +kernel
theorem dX6_readTurn_236 : decode cX6_readTurn 236 = .ok (.invokevirtual 126, 3) := by decide +kernel
theorem dX6_readTurn_239 : decode cX6_readTurn 239 = .ok (.goto 11, 3) := by decide +kernel
theorem dX6_readTurn_242 : decode cX6_readTurn 242 = .ok (.aload_n 0, 1) := by decide +kernel
theorem dX6_readTurn_243 : decode cX6_readTurn 243 = .ok (.bipush 62, 2) := by decide +kernel
theorem dX6_readTurn_245 : decode cX6_readTurn 245 = .ok (.bipush 62, 2) := by decide +kernel
theorem dX6_readTurn_247 : decode cX6_readTurn 247 = .ok (.invokevirtual 126, 3) := by decide +kernel
theorem dX6_readTurn_250 : decode cX6_readTurn 250 = .ok (.istore_n 2, 1) := by decide +kernel
theorem dX6_readTurn_251 : decode cX6_readTurn 251 = .ok (.aload_n 0, 1) := by decide +kernel
theorem dX6_readTurn_252 : decode cX6_readTurn 252 = .ok (.iload_n 1, 1) := by decide +kernel
theorem dX6_readTurn_253 : decode cX6_readTurn 253 = .ok (.putfield 135, 3) := by decide +kernel
theorem dX6_readTurn_256 : decode cX6_readTurn 256 = .ok (.return_, 1) := by decide +kernel
theorem dX6_isMade_0 : decode cX6_isMade 0 = .ok (.aload_n 0, 1) := by decide +kernel
theorem dX6_isMade_1 : decode cX6_isMade 1 = .ok (.getfield 123, 3) := by decide +kernel
theorem dX6_isMade_4 : decode cX6_isMade 4 = .ok (.bipush 108, 2) := by decide +kernel
theorem dX6_isMade_6 : decode cX6_isMade 6 = .ok (.if_icmp .ne 22, 3) := by decide +kernel
theorem dX6_isMade_9 : decode cX6_isMade 9 = .ok (.aload_n 0, 1) := by decide +kernel
theorem dX6_isMade_10 : decode cX6_isMade 10 = .ok (.aload_n 0, 1) := by decide +kernel
theorem dX6_isMade_11 : decode cX6_isMade 11 = .ok (.getfield 129, 3) := by decide +kernel
theorem dX6_isMade_14 : decode cX6_isMade 14 = .ok (.aload_n 0, 1) := by decide +kernel
theorem dX6_isMade_15 : decode cX6_isMade 15 = .ok (.getfield 132, 3) := by decide +kernel
theorem dX6_isMade_18 : decode cX6_isMade 18 = .ok (.aload_n 0, 1) := by decide +kernel
theorem dX6_isMade_19 : decode cX6_isMade 19 = .ok (.getfield 135, 3) := by decide +kernel
theorem dX6_isMade_22 : decode cX6_isMade 22 = .ok (.invokevirtual 100, 3) := by decide +kernel
theorem dX6_isMade_25 : decode cX6_isMade 25 = .ok (.goto 23, 3) := by decide +kernel
theorem dX6_isMade_28 : decode cX6_isMade 28 = .ok (.aload_n 0, 1) := by decide +kernel
theorem dX6_isMade_29 : decode cX6_isMade 29 = .ok (.getfield 123, 3) := by decide +kernel
theorem dX6_isMade_32 : decode cX6_isMade 32 = .ok (.bipush 100, 2) := by decide +kernel
theorem dX6_isMade_34 : decode cX6_isMade 34 = .ok (.if_icmp .ne 10, 3) := by decide +kernel
theorem dX6_isMade_37 : decode cX6_isMade 37 = .ok (.aload_n 0, 1) := by decide +kernel
