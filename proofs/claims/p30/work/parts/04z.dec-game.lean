/-! decode rows, as printed -/
theorem dX0_init_0 : decode cX0_init 0 = .ok (.aload_n 0, 1) := by decide +kernel
theorem dX0_init_1 : decode cX0_init 1 = .ok (.invokespecial 3, 3) := by decide +kernel
theorem dX0_init_4 : decode cX0_init 4 = .ok (.aload_n 0, 1) := by decide +kernel
theorem dX0_init_5 : decode cX0_init 5 = .ok (.new 9, 3) := by decide +kernel
theorem dX0_init_8 : decode cX0_init 8 = .ok (.dup, 1) := by decide +kernel
theorem dX0_init_9 : decode cX0_init 9 = .ok (.bipush 28, 2) := by decide +kernel
theorem dX0_init_11 : decode cX0_init 11 = .ok (.bipush 7, 2) := by decide +kernel
theorem dX0_init_13 : decode cX0_init 13 = .ok (.invokespecial 11, 3) := by decide +kernel
theorem dX0_init_16 : decode cX0_init 16 = .ok (.putfield 14, 3) := by decide +kernel
theorem dX0_init_19 : decode cX0_init 19 = .ok (.aload_n 0, 1) := by decide +kernel
theorem dX0_init_20 : decode cX0_init 20 = .ok (.new 9, 3) := by decide +kernel
theorem dX0_init_23 : decode cX0_init 23 = .ok (.dup, 1) := by decide +kernel
theorem dX0_init_24 : decode cX0_init 24 = .ok (.iconst 4, 1) := by decide +kernel
theorem dX0_init_25 : decode cX0_init 25 = .ok (.bipush 28, 2) := by decide +kernel
theorem dX0_init_27 : decode cX0_init 27 = .ok (.invokespecial 11, 3) := by decide +kernel
theorem dX0_init_30 : decode cX0_init 30 = .ok (.putfield 20, 3) := by decide +kernel
theorem dX0_init_33 : decode cX0_init 33 = .ok (.aload_n 0, 1) := by decide +kernel
theorem dX0_init_34 : decode cX0_init 34 = .ok (.new 9, 3) := by decide +kernel
theorem dX0_init_37 : decode cX0_init 37 = .ok (.dup, 1) := by decide +kernel
theorem dX0_init_38 : decode cX0_init 38 = .ok (.iconst 4, 1) := by decide +kernel
theorem dX0_init_39 : decode cX0_init 39 = .ok (.iconst 4, 1) := by decide +kernel
theorem dX0_init_40 : decode cX0_init 40 = .ok (.invokespecial 11, 3) := by decide +kernel
theorem dX0_init_43 : decode cX0_init 43 = .ok (.putfield 23, 3) := by decide +kernel
theorem dX0_init_46 : decode cX0_init 46 = .ok (.aload_n 0, 1) := by decide +kernel
theorem dX0_init_47 : decode cX0_init 47 = .ok (.new 9, 3) := by decide +kernel
theorem dX0_init_50 : decode cX0_init 50 = .ok (.dup, 1) := by decide +kernel
theorem dX0_init_51 : decode cX0_init 51 = .ok (.iconst 3, 1) := by decide +kernel
theorem dX0_init_52 : decode cX0_init 52 = .ok (.iconst 4, 1) := by decide +kernel
theorem dX0_init_53 : decode cX0_init 53 = .ok (.invokespecial 11, 3) := by decide +kernel
theorem dX0_init_56 : decode cX0_init 56 = .ok (.putfield 26, 3) := by decide +kernel
theorem dX0_init_59 : decode cX0_init 59 = .ok (.aload_n 0, 1) := by decide +kernel
theorem dX0_init_60 : decode cX0_init 60 = .ok (.new 9, 3) := by decide +kernel
theorem dX0_init_63 : decode cX0_init 63 = .ok (.dup, 1) := by decide +kernel
theorem dX0_init_64 : decode cX0_init 64 = .ok (.iconst 1, 1) := by decide +kernel
theorem dX0_init_65 : decode cX0_init 65 = .ok (.bipush 28, 2) := by decide +kernel
theorem dX0_init_67 : decode cX0_init 67 = .ok (.invokespecial 11, 3) := by decide +kernel
theorem dX0_init_70 : decode cX0_init 70 = .ok (.putfield 29, 3) := by decide +kernel
theorem dX0_init_73 : decode cX0_init 73 = .ok (.aload_n 0, 1) := by decide +kernel
theorem dX0_init_74 : decode cX0_init 74 = .ok (.iconst 3, 1) := by decide +kernel
theorem dX0_init_75 : decode cX0_init 75 = .ok (.putfield 32, 3) := by decide +kernel
theorem dX0_init_78 : decode cX0_init 78 = .ok (.return_, 1) := by decide +kernel
theorem dX0_become_0 : decode cX0_become 0 = .ok (.aload_n 1, 1) := by decide +kernel
theorem dX0_become_1 : decode cX0_become 1 = .ok (.ifnonnull 4, 3) := by decide +kernel
theorem dX0_become_4 : decode cX0_become 4 = .ok (.return_, 1) := by decide +kernel
theorem dX0_become_5 : decode cX0_become 5 = .ok (.aload_n 0, 1) := by decide +kernel
theorem dX0_become_6 : decode cX0_become 6 = .ok (.getfield 14, 3) := by decide +kernel
theorem dX0_become_9 : decode cX0_become 9 = .ok (.aload_n 1, 1) := by decide +kernel
theorem dX0_become_10 : decode cX0_become 10 = .ok (.getfield 14, 3) := by decide +kernel
theorem dX0_become_13 : decode cX0_become 13 = .ok (.invokevirtual 36, 3) := by decide +kernel
theorem dX0_become_16 : decode cX0_become 16 = .ok (.aload_n 0, 1) := by decide +kernel
theorem dX0_become_17 : decode cX0_become 17 = .ok (.getfield 20, 3) := by decide +kernel
theorem dX0_become_20 : decode cX0_become 20 = .ok (.aload_n 1, 1) := by decide +kernel
theorem dX0_become_21 : decode cX0_become 21 = .ok (.getfield 20, 3) := by decide +kernel
theorem dX0_become_24 : decode cX0_become 24 = .ok (.invokevirtual 36, 3) := by decide +kernel
theorem dX0_become_27 : decode cX0_become 27 = .ok (.aload_n 0, 1) := by decide +kernel
theorem dX0_become_28 : decode cX0_become 28 = .ok (.getfield 23, 3) := by decide +kernel
theorem dX0_become_31 : decode cX0_become 31 = .ok (.aload_n 1, 1) := by decide +kernel
theorem dX0_become_32 : decode cX0_become 32 = .ok (.getfield 23, 3) := by decide +kernel
theorem dX0_become_35 : decode cX0_become 35 = .ok (.invokevirtual 36, 3) := by decide +kernel
theorem dX0_become_38 : decode cX0_become 38 = .ok (.aload_n 0, 1) := by decide +kernel
theorem dX0_become_39 : decode cX0_become 39 = .ok (.getfield 26, 3) := by decide +kernel
theorem dX0_become_42 : decode cX0_become 42 = .ok (.aload_n 1, 1) := by decide +kernel
theorem dX0_become_43 : decode cX0_become 43 = .ok (.getfield 26, 3) := by decide +kernel
theorem dX0_become_46 : decode cX0_become 46 = .ok (.invokevirtual 36, 3) := by decide +kernel
theorem dX0_become_49 : decode cX0_become 49 = .ok (.aload_n 0, 1) := by decide +kernel
theorem dX0_become_50 : decode cX0_become 50 = .ok (.getfield 29, 3) := by decide +kernel
theorem dX0_become_53 : decode cX0_become 53 = .ok (.aload_n 1, 1) := by decide +kernel
theorem dX0_become_54 : decode cX0_become 54 = .ok (.getfield 29, 3) := by decide +kernel
theorem dX0_become_57 : decode cX0_become 57 = .ok (.invokevirtual 36, 3) := by decide +kernel
theorem dX0_become_60 : decode cX0_become 60 = .ok (.aload_n 0, 1) := by decide +kernel
theorem dX0_become_61 : decode cX0_become 61 = .ok (.aload_n 1, 1) := by decide +kernel
theorem dX0_become_62 : decode cX0_become 62 = .ok (.getfield 40, 3) := by decide +kernel
theorem dX0_become_65 : decode cX0_become 65 = .ok (.putfield 40, 3) := by decide +kernel
theorem dX0_become_68 : decode cX0_become 68 = .ok (.aload_n 0, 1) := by decide +kernel
theorem dX0_become_69 : decode cX0_become 69 = .ok (.aload_n 1, 1) := by decide +kernel
theorem dX0_become_70 : decode cX0_become 70 = .ok (.getfield 43, 3) := by decide +kernel
theorem dX0_become_73 : decode cX0_become 73 = .ok (.putfield 43, 3) := by decide +kernel
theorem dX0_become_76 : decode cX0_become 76 = .ok (.aload_n 0, 1) := by decide +kernel
theorem dX0_become_77 : decode cX0_become 77 = .ok (.aload_n 1, 1) := by decide +kernel
theorem dX0_become_78 : decode cX0_become 78 = .ok (.getfield 46, 3) := by decide +kernel
theorem dX0_become_81 : decode cX0_become 81 = .ok (.putfield 46, 3) := by decide +kernel
theorem dX0_become_84 : decode cX0_become 84 = .ok (.aload_n 0, 1) := by decide +kernel
theorem dX0_become_85 : decode cX0_become 85 = .ok (.aload_n 1, 1) := by decide +kernel
theorem dX0_become_86 : decode cX0_become 86 = .ok (.getfield 49, 3) := by decide +kernel
theorem dX0_become_89 : decode cX0_become 89 = .ok (.putfield 49, 3) := by decide +kernel
theorem dX0_become_92 : decode cX0_become 92 = .ok (.aload_n 0, 1) := by decide +kernel
theorem dX0_become_93 : decode cX0_become 93 = .ok (.aload_n 1, 1) := by decide +kernel
theorem dX0_become_94 : decode cX0_become 94 = .ok (.getfield 52, 3) := by decide +kernel
theorem dX0_become_97 : decode cX0_become 97 = .ok (.putfield 52, 3) := by decide +kernel
theorem dX0_become_100 : decode cX0_become 100 = .ok (.aload_n 0, 1) := by decide +kernel
theorem dX0_become_101 : decode cX0_become 101 = .ok (.aload_n 1, 1) := by decide +kernel
theorem dX0_become_102 : decode cX0_become 102 = .ok (.getfield 55, 3) := by decide +kernel
theorem dX0_become_105 : decode cX0_become 105 = .ok (.putfield 55, 3) := by decide +kernel
theorem dX0_become_108 : decode cX0_become 108 = .ok (.aload_n 0, 1) := by decide +kernel
theorem dX0_become_109 : decode cX0_become 109 = .ok (.aload_n 1, 1) := by decide +kernel
theorem dX0_become_110 : decode cX0_become 110 = .ok (.getfield 58, 3) := by decide +kernel
theorem dX0_become_113 : decode cX0_become 113 = .ok (.putfield 58, 3) := by decide +kernel
theorem dX0_become_116 : decode cX0_become 116 = .ok (.aload_n 0, 1) := by decide +kernel
theorem dX0_become_117 : decode cX0_become 117 = .ok (.aload_n 1, 1) := by decide +kernel
theorem dX0_become_118 : decode cX0_become 118 = .ok (.getfield 32, 3) := by decide +kernel
theorem dX0_become_121 : decode cX0_become 121 = .ok (.putfield 32, 3) := by decide +kernel
theorem dX0_become_124 : decode cX0_become 124 = .ok (.return_, 1) := by decide +kernel
theorem dX0_start_0 : decode cX0_start 0 = .ok (.aload_n 0, 1) := by decide +kernel
theorem dX0_start_1 : decode cX0_start 1 = .ok (.iload_n 1, 1) := by decide +kernel
theorem dX0_start_2 : decode cX0_start 2 = .ok (.putfield 40, 3) := by decide +kernel
theorem dX0_start_5 : decode cX0_start 5 = .ok (.aload_n 0, 1) := by decide +kernel
theorem dX0_start_6 : decode cX0_start 6 = .ok (.iconst 0, 1) := by decide +kernel
theorem dX0_start_7 : decode cX0_start 7 = .ok (.putfield 43, 3) := by decide +kernel
theorem dX0_start_10 : decode cX0_start 10 = .ok (.aload_n 0, 1) := by decide +kernel
theorem dX0_start_11 : decode cX0_start 11 = .ok (.iconst 0, 1) := by decide +kernel
theorem dX0_start_12 : decode cX0_start 12 = .ok (.putfield 46, 3) := by decide +kernel
theorem dX0_start_15 : decode cX0_start 15 = .ok (.aload_n 0, 1) := by decide +kernel
theorem dX0_start_16 : decode cX0_start 16 = .ok (.iconst 0, 1) := by decide +kernel
theorem dX0_start_17 : decode cX0_start 17 = .ok (.putfield 49, 3) := by decide +kernel
theorem dX0_start_20 : decode cX0_start 20 = .ok (.aload_n 0, 1) := by decide +kernel
theorem dX0_start_21 : decode cX0_start 21 = .ok (.iconst 0, 1) := by decide +kernel
theorem dX0_start_22 : decode cX0_start 22 = .ok (.putfield 52, 3) := by decide +kernel
theorem dX0_start_25 : decode cX0_start 25 = .ok (.aload_n 0, 1) := by decide +kernel
theorem dX0_start_26 : decode cX0_start 26 = .ok (.getfield 20, 3) := by decide +kernel
theorem dX0_start_29 : decode cX0_start 29 = .ok (.invokevirtual 61, 3) := by decide +kernel
theorem dX0_start_32 : decode cX0_start 32 = .ok (.aload_n 0, 1) := by decide +kernel
theorem dX0_start_33 : decode cX0_start 33 = .ok (.getfield 23, 3) := by decide +kernel
theorem dX0_start_36 : decode cX0_start 36 = .ok (.invokevirtual 61, 3) := by decide +kernel
theorem dX0_start_39 : decode cX0_start 39 = .ok (.aload_n 0, 1) := by decide +kernel
theorem dX0_start_40 : decode cX0_start 40 = .ok (.invokevirtual 64, 3) := by decide +kernel
theorem dX0_start_43 : decode cX0_start 43 = .ok (.aload_n 0, 1) := by decide +kernel
theorem dX0_start_44 : decode cX0_start 44 = .ok (.invokevirtual 67, 3) := by decide +kernel
theorem dX0_start_47 : decode cX0_start 47 = .ok (.aload_n 0, 1) := by decide +kernel
theorem dX0_start_48 : decode cX0_start 48 = .ok (.iload_n 2, 1) := by decide +kernel
theorem dX0_start_49 : decode cX0_start 49 = .ok (.invokevirtual 70, 3) := by decide +kernel
theorem dX0_start_52 : decode cX0_start 52 = .ok (.aload_n 0, 1) := by decide +kernel
theorem dX0_start_53 : decode cX0_start 53 = .ok (.invokevirtual 74, 3) := by decide +kernel
theorem dX0_start_56 : decode cX0_start 56 = .ok (.return_, 1) := by decide +kernel
theorem dX0_makeTiles_0 : decode cX0_makeTiles 0 = .ok (.aload_n 0, 1) := by decide +kernel
theorem dX0_makeTiles_1 : decode cX0_makeTiles 1 = .ok (.getfield 14, 3) := by decide +kernel
theorem dX0_makeTiles_4 : decode cX0_makeTiles 4 = .ok (.invokevirtual 61, 3) := by decide +kernel
theorem dX0_makeTiles_7 : decode cX0_makeTiles 7 = .ok (.iconst 0, 1) := by decide +kernel
theorem dX0_makeTiles_8 : decode cX0_makeTiles 8 = .ok (.istore_n 1, 1) := by decide +kernel
theorem dX0_makeTiles_9 : decode cX0_makeTiles 9 = .ok (.iconst 0, 1) := by decide +kernel
theorem dX0_makeTiles_10 : decode cX0_makeTiles 10 = .ok (.istore_n 2, 1) := by decide +kernel
theorem dX0_makeTiles_11 : decode cX0_makeTiles 11 = .ok (.iload_n 2, 1) := by decide +kernel
theorem dX0_makeTiles_12 : decode cX0_makeTiles 12 = .ok (.bipush 7, 2) := by decide +kernel
theorem dX0_makeTiles_14 : decode cX0_makeTiles 14 = .ok (.if_icmp .ge 76, 3) := by decide +kernel
theorem dX0_makeTiles_17 : decode cX0_makeTiles 17 = .ok (.iload_n 2, 1) := by decide +kernel
theorem dX0_makeTiles_18 : decode cX0_makeTiles 18 = .ok (.istore_n 3, 1) := by decide +kernel
theorem dX0_makeTiles_19 : decode cX0_makeTiles 19 = .ok (.iload_n 3, 1) := by decide +kernel
theorem dX0_makeTiles_20 : decode cX0_makeTiles 20 = .ok (.bipush 7, 2) := by decide +kernel
theorem dX0_makeTiles_22 : decode cX0_makeTiles 22 = .ok (.if_icmp .ge 62, 3) := by decide +kernel
theorem dX0_makeTiles_25 : decode cX0_makeTiles 25 = .ok (.aload_n 0, 1) := by decide +kernel
theorem dX0_makeTiles_26 : decode cX0_makeTiles 26 = .ok (.getfield 14, 3) := by decide +kernel
theorem dX0_makeTiles_29 : decode cX0_makeTiles 29 = .ok (.iload_n 1, 1) := by decide +kernel
theorem dX0_makeTiles_30 : decode cX0_makeTiles 30 = .ok (.iconst 0, 1) := by decide +kernel
theorem dX0_makeTiles_31 : decode cX0_makeTiles 31 = .ok (.iload_n 2, 1) := by decide +kernel
theorem dX0_makeTiles_32 : decode cX0_makeTiles 32 = .ok (.invokevirtual 77, 3) := by decide +kernel
theorem dX0_makeTiles_35 : decode cX0_makeTiles 35 = .ok (.aload_n 0, 1) := by decide +kernel
theorem dX0_makeTiles_36 : decode cX0_makeTiles 36 = .ok (.getfield 14, 3) := by decide +kernel
theorem dX0_makeTiles_39 : decode cX0_makeTiles 39 = .ok (.iload_n 1, 1) := by decide +kernel
theorem dX0_makeTiles_40 : decode cX0_makeTiles 40 = .ok (.iconst 1, 1) := by decide +kernel
theorem dX0_makeTiles_41 : decode cX0_makeTiles 41 = .ok (.iload_n 3, 1) := by decide +kernel
theorem dX0_makeTiles_42 : decode cX0_makeTiles 42 = .ok (.invokevirtual 77, 3) := by decide +kernel
theorem dX0_makeTiles_45 : decode cX0_makeTiles 45 = .ok (.aload_n 0, 1) := by decide +kernel
theorem dX0_makeTiles_46 : decode cX0_makeTiles 46 = .ok (.getfield 14, 3) := by decide +kernel
theorem dX0_makeTiles_49 : decode cX0_makeTiles 49 = .ok (.iload_n 1, 1) := by decide +kernel
theorem dX0_makeTiles_50 : decode cX0_makeTiles 50 = .ok (.iconst 2, 1) := by decide +kernel
theorem dX0_makeTiles_51 : decode cX0_makeTiles 51 = .ok (.iconst 0, 1) := by decide +kernel
theorem dX0_makeTiles_52 : decode cX0_makeTiles 52 = .ok (.invokevirtual 77, 3) := by decide +kernel
theorem dX0_makeTiles_55 : decode cX0_makeTiles 55 = .ok (.aload_n 0, 1) := by decide +kernel
theorem dX0_makeTiles_56 : decode cX0_makeTiles 56 = .ok (.getfield 14, 3) := by decide +kernel
theorem dX0_makeTiles_59 : decode cX0_makeTiles 59 = .ok (.iload_n 1, 1) := by decide +kernel
theorem dX0_makeTiles_60 : decode cX0_makeTiles 60 = .ok (.iconst 3, 1) := by decide +kernel
theorem dX0_makeTiles_61 : decode cX0_makeTiles 61 = .ok (.iconst (-1), 1) := by decide +kernel
theorem dX0_makeTiles_62 : decode cX0_makeTiles 62 = .ok (.invokevirtual 77, 3) := by decide +kernel
theorem dX0_makeTiles_65 : decode cX0_makeTiles 65 = .ok (.aload_n 0, 1) := by decide +kernel
theorem dX0_makeTiles_66 : decode cX0_makeTiles 66 = .ok (.getfield 14, 3) := by decide +kernel
theorem dX0_makeTiles_69 : decode cX0_makeTiles 69 = .ok (.iload_n 1, 1) := by decide +kernel
theorem dX0_makeTiles_70 : decode cX0_makeTiles 70 = .ok (.iconst 5, 1) := by decide +kernel
theorem dX0_makeTiles_71 : decode cX0_makeTiles 71 = .ok (.iconst (-1), 1) := by decide +kernel
theorem dX0_makeTiles_72 : decode cX0_makeTiles 72 = .ok (.invokevirtual 77, 3) := by decide +kernel
theorem dX0_makeTiles_75 : decode cX0_makeTiles 75 = .ok (.iinc 1 1, 3) := by decide +kernel
theorem dX0_makeTiles_78 : decode cX0_makeTiles 78 = .ok (.iinc 3 1, 3) := by decide +kernel
theorem dX0_makeTiles_81 : decode cX0_makeTiles 81 = .ok (.goto (-62), 3) := by decide +kernel
theorem dX0_makeTiles_84 : decode cX0_makeTiles 84 = .ok (.iinc 2 1, 3) := by decide +kernel
theorem dX0_makeTiles_87 : decode cX0_makeTiles 87 = .ok (.goto (-76), 3) := by decide +kernel
theorem dX0_makeTiles_90 : decode cX0_makeTiles 90 = .ok (.return_, 1) := by decide +kernel
theorem dX0_makeRows_0 : decode cX0_makeRows 0 = .ok (.iconst 0, 1) := by decide +kernel
theorem dX0_makeRows_1 : decode cX0_makeRows 1 = .ok (.istore_n 1, 1) := by decide +kernel
theorem dX0_makeRows_2 : decode cX0_makeRows 2 = .ok (.iload_n 1, 1) := by decide +kernel
theorem dX0_makeRows_3 : decode cX0_makeRows 3 = .ok (.iconst 3, 1) := by decide +kernel
theorem dX0_makeRows_4 : decode cX0_makeRows 4 = .ok (.if_icmp .ge 49, 3) := by decide +kernel
theorem dX0_makeRows_7 : decode cX0_makeRows 7 = .ok (.aload_n 0, 1) := by decide +kernel
theorem dX0_makeRows_8 : decode cX0_makeRows 8 = .ok (.getfield 26, 3) := by decide +kernel
theorem dX0_makeRows_11 : decode cX0_makeRows 11 = .ok (.iload_n 1, 1) := by decide +kernel
theorem dX0_makeRows_12 : decode cX0_makeRows 12 = .ok (.iconst 0, 1) := by decide +kernel
theorem dX0_makeRows_13 : decode cX0_makeRows 13 = .ok (.iconst 0, 1) := by decide +kernel
theorem dX0_makeRows_14 : decode cX0_makeRows 14 = .ok (.invokevirtual 77, 3) := by decide +kernel
theorem dX0_makeRows_17 : decode cX0_makeRows 17 = .ok (.aload_n 0, 1) := by decide +kernel
theorem dX0_makeRows_18 : decode cX0_makeRows 18 = .ok (.getfield 26, 3) := by decide +kernel
theorem dX0_makeRows_21 : decode cX0_makeRows 21 = .ok (.iload_n 1, 1) := by decide +kernel
theorem dX0_makeRows_22 : decode cX0_makeRows 22 = .ok (.iconst 1, 1) := by decide +kernel
theorem dX0_makeRows_23 : decode cX0_makeRows 23 = .ok (.iconst (-1), 1) := by decide +kernel
theorem dX0_makeRows_24 : decode cX0_makeRows 24 = .ok (.invokevirtual 77, 3) := by decide +kernel
theorem dX0_makeRows_27 : decode cX0_makeRows 27 = .ok (.aload_n 0, 1) := by decide +kernel
theorem dX0_makeRows_28 : decode cX0_makeRows 28 = .ok (.getfield 26, 3) := by decide +kernel
theorem dX0_makeRows_31 : decode cX0_makeRows 31 = .ok (.iload_n 1, 1) := by decide +kernel
theorem dX0_makeRows_32 : decode cX0_makeRows 32 = .ok (.iconst 2, 1) := by decide +kernel
theorem dX0_makeRows_33 : decode cX0_makeRows 33 = .ok (.iconst (-1), 1) := by decide +kernel
theorem dX0_makeRows_34 : decode cX0_makeRows 34 = .ok (.invokevirtual 77, 3) := by decide +kernel
theorem dX0_makeRows_37 : decode cX0_makeRows 37 = .ok (.aload_n 0, 1) := by decide +kernel
theorem dX0_makeRows_38 : decode cX0_makeRows 38 = .ok (.getfield 26, 3) := by decide +kernel
theorem dX0_makeRows_41 : decode cX0_makeRows 41 = .ok (.iload_n 1, 1) := by decide +kernel
theorem dX0_makeRows_42 : decode cX0_makeRows 42 = .ok (.iconst 3, 1) := by decide +kernel
theorem dX0_makeRows_43 : decode cX0_makeRows 43 = .ok (.iconst (-1), 1) := by decide +kernel
theorem dX0_makeRows_44 : decode cX0_makeRows 44 = .ok (.invokevirtual 77, 3) := by decide +kernel
theorem dX0_makeRows_47 : decode cX0_makeRows 47 = .ok (.iinc 1 1, 3) := by decide +kernel
theorem dX0_makeRows_50 : decode cX0_makeRows 50 = .ok (.goto (-48), 3) := by decide +kernel
theorem dX0_makeRows_53 : decode cX0_makeRows 53 = .ok (.return_, 1) := by decide +kernel
theorem dX0_orderStock_0 : decode cX0_orderStock 0 = .ok (.aload_n 0, 1) := by decide +kernel
theorem dX0_orderStock_1 : decode cX0_orderStock 1 = .ok (.iload_n 1, 1) := by decide +kernel
theorem dX0_orderStock_2 : decode cX0_orderStock 2 = .ok (.putfield 58, 3) := by decide +kernel
theorem dX0_orderStock_5 : decode cX0_orderStock 5 = .ok (.iconst 0, 1) := by decide +kernel
theorem dX0_orderStock_6 : decode cX0_orderStock 6 = .ok (.istore_n 2, 1) := by decide +kernel
theorem dX0_orderStock_7 : decode cX0_orderStock 7 = .ok (.iload_n 2, 1) := by decide +kernel
theorem dX0_orderStock_8 : decode cX0_orderStock 8 = .ok (.bipush 28, 2) := by decide +kernel
theorem dX0_orderStock_10 : decode cX0_orderStock 10 = .ok (.if_icmp .ge 43, 3) := by decide +kernel
theorem dX0_orderStock_13 : decode cX0_orderStock 13 = .ok (.aload_n 0, 1) := by decide +kernel
theorem dX0_orderStock_14 : decode cX0_orderStock 14 = .ok (.aload_n 0, 1) := by decide +kernel
theorem dX0_orderStock_15 : decode cX0_orderStock 15 = .ok (.getfield 58, 3) := by decide +kernel
theorem dX0_orderStock_18 : decode cX0_orderStock 18 = .ok (.sipush 421, 3) := by decide +kernel
theorem dX0_orderStock_21 : decode cX0_orderStock 21 = .ok (.imul, 1) := by decide +kernel
theorem dX0_orderStock_22 : decode cX0_orderStock 22 = .ok (.sipush 1663, 3) := by decide +kernel
theorem dX0_orderStock_25 : decode cX0_orderStock 25 = .ok (.iadd, 1) := by decide +kernel
theorem dX0_orderStock_26 : decode cX0_orderStock 26 = .ok (.sipush 10000, 3) := by decide +kernel
theorem dX0_orderStock_29 : decode cX0_orderStock 29 = .ok (.irem, 1) := by decide +kernel
theorem dX0_orderStock_30 : decode cX0_orderStock 30 = .ok (.putfield 58, 3) := by decide +kernel
theorem dX0_orderStock_33 : decode cX0_orderStock 33 = .ok (.aload_n 0, 1) := by decide +kernel
theorem dX0_orderStock_34 : decode cX0_orderStock 34 = .ok (.aload_n 0, 1) := by decide +kernel
theorem dX0_orderStock_35 : decode cX0_orderStock 35 = .ok (.getfield 58, 3) := by decide +kernel
theorem dX0_orderStock_38 : decode cX0_orderStock 38 = .ok (.bipush 28, 2) := by decide +kernel
theorem dX0_orderStock_40 : decode cX0_orderStock 40 = .ok (.imul, 1) := by decide +kernel
theorem dX0_orderStock_41 : decode cX0_orderStock 41 = .ok (.iload_n 2, 1) := by decide +kernel
theorem dX0_orderStock_42 : decode cX0_orderStock 42 = .ok (.iadd, 1) := by decide +kernel
theorem dX0_orderStock_43 : decode cX0_orderStock 43 = .ok (.iload_n 2, 1) := by decide +kernel
theorem dX0_orderStock_44 : decode cX0_orderStock 44 = .ok (.invokevirtual 81, 3) := by decide +kernel
theorem dX0_orderStock_47 : decode cX0_orderStock 47 = .ok (.iinc 2 1, 3) := by decide +kernel
theorem dX0_orderStock_50 : decode cX0_orderStock 50 = .ok (.goto (-43), 3) := by decide +kernel
theorem dX0_orderStock_53 : decode cX0_orderStock 53 = .ok (.iconst 0, 1) := by decide +kernel
theorem dX0_orderStock_54 : decode cX0_orderStock 54 = .ok (.istore_n 2, 1) := by decide +kernel
theorem dX0_orderStock_55 : decode cX0_orderStock 55 = .ok (.iload_n 2, 1) := by decide +kernel
theorem dX0_orderStock_56 : decode cX0_orderStock 56 = .ok (.bipush 28, 2) := by decide +kernel
theorem dX0_orderStock_58 : decode cX0_orderStock 58 = .ok (.if_icmp .ge 30, 3) := by decide +kernel
theorem dX0_orderStock_61 : decode cX0_orderStock 61 = .ok (.aload_n 0, 1) := by decide +kernel
theorem dX0_orderStock_62 : decode cX0_orderStock 62 = .ok (.getfield 29, 3) := by decide +kernel
theorem dX0_orderStock_65 : decode cX0_orderStock 65 = .ok (.iconst 0, 1) := by decide +kernel
theorem dX0_orderStock_66 : decode cX0_orderStock 66 = .ok (.iload_n 2, 1) := by decide +kernel
theorem dX0_orderStock_67 : decode cX0_orderStock 67 = .ok (.aload_n 0, 1) := by decide +kernel
theorem dX0_orderStock_68 : decode cX0_orderStock 68 = .ok (.getfield 29, 3) := by decide +kernel
theorem dX0_orderStock_71 : decode cX0_orderStock 71 = .ok (.iconst 0, 1) := by decide +kernel
theorem dX0_orderStock_72 : decode cX0_orderStock 72 = .ok (.iload_n 2, 1) := by decide +kernel
theorem dX0_orderStock_73 : decode cX0_orderStock 73 = .ok (.invokevirtual 84, 3) := by decide +kernel
theorem dX0_orderStock_76 : decode cX0_orderStock 76 = .ok (.bipush 28, 2) := by decide +kernel
theorem dX0_orderStock_78 : decode cX0_orderStock 78 = .ok (.irem, 1) := by decide +kernel
theorem dX0_orderStock_79 : decode cX0_orderStock 79 = .ok (.invokevirtual 77, 3) := by decide +kernel
theorem dX0_orderStock_82 : decode cX0_orderStock 82 = .ok (.iinc 2 1, 3) := by decide +kernel
theorem dX0_orderStock_85 : decode cX0_orderStock 85 = .ok (.goto (-30), 3) := by decide +kernel
theorem dX0_orderStock_88 : decode cX0_orderStock 88 = .ok (.return_, 1) := by decide +kernel
theorem dX0_insertInOrder_0 : decode cX0_insertInOrder 0 = .ok (.iload_n 2, 1) := by decide +kernel
theorem dX0_insertInOrder_1 : decode cX0_insertInOrder 1 = .ok (.istore_n 3, 1) := by decide +kernel
theorem dX0_insertInOrder_2 : decode cX0_insertInOrder 2 = .ok (.iload_n 3, 1) := by decide +kernel
theorem dX0_insertInOrder_3 : decode cX0_insertInOrder 3 = .ok (.ifCond .le 44, 3) := by decide +kernel
theorem dX0_insertInOrder_6 : decode cX0_insertInOrder 6 = .ok (.aload_n 0, 1) := by decide +kernel
theorem dX0_insertInOrder_7 : decode cX0_insertInOrder 7 = .ok (.getfield 29, 3) := by decide +kernel
theorem dX0_insertInOrder_10 : decode cX0_insertInOrder 10 = .ok (.iconst 0, 1) := by decide +kernel
theorem dX0_insertInOrder_11 : decode cX0_insertInOrder 11 = .ok (.iload_n 3, 1) := by decide +kernel
theorem dX0_insertInOrder_12 : decode cX0_insertInOrder 12 = .ok (.iconst 1, 1) := by decide +kernel
theorem dX0_insertInOrder_13 : decode cX0_insertInOrder 13 = .ok (.isub, 1) := by decide +kernel
theorem dX0_insertInOrder_14 : decode cX0_insertInOrder 14 = .ok (.invokevirtual 84, 3) := by decide +kernel
theorem dX0_insertInOrder_17 : decode cX0_insertInOrder 17 = .ok (.iload_n 1, 1) := by decide +kernel
theorem dX0_insertInOrder_18 : decode cX0_insertInOrder 18 = .ok (.if_icmp .le 29, 3) := by decide +kernel
theorem dX0_insertInOrder_21 : decode cX0_insertInOrder 21 = .ok (.aload_n 0, 1) := by decide +kernel
theorem dX0_insertInOrder_22 : decode cX0_insertInOrder 22 = .ok (.getfield 29, 3) := by decide +kernel
theorem dX0_insertInOrder_25 : decode cX0_insertInOrder 25 = .ok (.iconst 0, 1) := by decide +kernel
theorem dX0_insertInOrder_26 : decode cX0_insertInOrder 26 = .ok (.iload_n 3, 1) := by decide +kernel
theorem dX0_insertInOrder_27 : decode cX0_insertInOrder 27 = .ok (.aload_n 0, 1) := by decide +kernel
theorem dX0_insertInOrder_28 : decode cX0_insertInOrder 28 = .ok (.getfield 29, 3) := by decide +kernel
theorem dX0_insertInOrder_31 : decode cX0_insertInOrder 31 = .ok (.iconst 0, 1) := by decide +kernel
theorem dX0_insertInOrder_32 : decode cX0_insertInOrder 32 = .ok (.iload_n 3, 1) := by decide +kernel
theorem dX0_insertInOrder_33 : decode cX0_insertInOrder 33 = .ok (.iconst 1, 1) := by decide +kernel
theorem dX0_insertInOrder_34 : decode cX0_insertInOrder 34 = .ok (.isub, 1) := by decide +kernel
theorem dX0_insertInOrder_35 : decode cX0_insertInOrder 35 = .ok (.invokevirtual 84, 3) := by decide +kernel
theorem dX0_insertInOrder_38 : decode cX0_insertInOrder 38 = .ok (.invokevirtual 77, 3) := by decide +kernel
theorem dX0_insertInOrder_41 : decode cX0_insertInOrder 41 = .ok (.iinc 3 (-1), 3) := by decide +kernel
theorem dX0_insertInOrder_44 : decode cX0_insertInOrder 44 = .ok (.goto (-42), 3) := by decide +kernel
theorem dX0_insertInOrder_47 : decode cX0_insertInOrder 47 = .ok (.aload_n 0, 1) := by decide +kernel
theorem dX0_insertInOrder_48 : decode cX0_insertInOrder 48 = .ok (.getfield 29, 3) := by decide +kernel
theorem dX0_insertInOrder_51 : decode cX0_insertInOrder 51 = .ok (.iconst 0, 1) := by decide +kernel
theorem dX0_insertInOrder_52 : decode cX0_insertInOrder 52 = .ok (.iload_n 3, 1) := by decide +kernel
theorem dX0_insertInOrder_53 : decode cX0_insertInOrder 53 = .ok (.iload_n 1, 1) := by decide +kernel
theorem dX0_insertInOrder_54 : decode cX0_insertInOrder 54 = .ok (.invokevirtual 77, 3) := by decide +kernel
theorem dX0_insertInOrder_57 : decode cX0_insertInOrder 57 = .ok (.return_, 1) := by decide +kernel
theorem dX0_deal_0 : decode cX0_deal 0 = .ok (.iconst 0, 1) := by decide +kernel
theorem dX0_deal_1 : decode cX0_deal 1 = .ok (.istore_n 1, 1) := by decide +kernel
theorem dX0_deal_2 : decode cX0_deal 2 = .ok (.iload_n 1, 1) := by decide +kernel
theorem dX0_deal_3 : decode cX0_deal 3 = .ok (.aload_n 0, 1) := by decide +kernel
theorem dX0_deal_4 : decode cX0_deal 4 = .ok (.getfield 40, 3) := by decide +kernel
theorem dX0_deal_7 : decode cX0_deal 7 = .ok (.if_icmp .ge 28, 3) := by decide +kernel
theorem dX0_deal_10 : decode cX0_deal 10 = .ok (.iconst 0, 1) := by decide +kernel
theorem dX0_deal_11 : decode cX0_deal 11 = .ok (.istore_n 2, 1) := by decide +kernel
theorem dX0_deal_12 : decode cX0_deal 12 = .ok (.iload_n 2, 1) := by decide +kernel
theorem dX0_deal_13 : decode cX0_deal 13 = .ok (.iconst 5, 1) := by decide +kernel
theorem dX0_deal_14 : decode cX0_deal 14 = .ok (.if_icmp .ge 15, 3) := by decide +kernel
theorem dX0_deal_17 : decode cX0_deal 17 = .ok (.aload_n 0, 1) := by decide +kernel
theorem dX0_deal_18 : decode cX0_deal 18 = .ok (.iload_n 1, 1) := by decide +kernel
theorem dX0_deal_19 : decode cX0_deal 19 = .ok (.invokevirtual 88, 3) := by decide +kernel
theorem dX0_deal_22 : decode cX0_deal 22 = .ok (.pop, 1) := by decide +kernel
theorem dX0_deal_23 : decode cX0_deal 23 = .ok (.iinc 2 1, 3) := by decide +kernel
theorem dX0_deal_26 : decode cX0_deal 26 = .ok (.goto (-14), 3) := by decide +kernel
theorem dX0_deal_29 : decode cX0_deal 29 = .ok (.iinc 1 1, 3) := by decide +kernel
theorem dX0_deal_32 : decode cX0_deal 32 = .ok (.goto (-30), 3) := by decide +kernel
theorem dX0_deal_35 : decode cX0_deal 35 = .ok (.return_, 1) := by decide +kernel
theorem dX0_takeFromStock_0 : decode cX0_takeFromStock 0 = .ok (.aload_n 0, 1) := by decide +kernel
theorem dX0_takeFromStock_1 : decode cX0_takeFromStock 1 = .ok (.getfield 29, 3) := by decide +kernel
theorem dX0_takeFromStock_4 : decode cX0_takeFromStock 4 = .ok (.iconst 0, 1) := by decide +kernel
theorem dX0_takeFromStock_5 : decode cX0_takeFromStock 5 = .ok (.aload_n 0, 1) := by decide +kernel
theorem dX0_takeFromStock_6 : decode cX0_takeFromStock 6 = .ok (.getfield 46, 3) := by decide +kernel
theorem dX0_takeFromStock_9 : decode cX0_takeFromStock 9 = .ok (.invokevirtual 84, 3) := by decide +kernel
theorem dX0_takeFromStock_12 : decode cX0_takeFromStock 12 = .ok (.istore_n 2, 1) := by decide +kernel
theorem dX0_takeFromStock_13 : decode cX0_takeFromStock 13 = .ok (.aload_n 0, 1) := by decide +kernel
theorem dX0_takeFromStock_14 : decode cX0_takeFromStock 14 = .ok (.dup, 1) := by decide +kernel
theorem dX0_takeFromStock_15 : decode cX0_takeFromStock 15 = .ok (.getfield 46, 3) := by decide +kernel
theorem dX0_takeFromStock_18 : decode cX0_takeFromStock 18 = .ok (.iconst 1, 1) := by decide +kernel
theorem dX0_takeFromStock_19 : decode cX0_takeFromStock 19 = .ok (.iadd, 1) := by decide +kernel
theorem dX0_takeFromStock_20 : decode cX0_takeFromStock 20 = .ok (.putfield 46, 3) := by decide +kernel
theorem dX0_takeFromStock_23 : decode cX0_takeFromStock 23 = .ok (.aload_n 0, 1) := by decide +kernel
theorem dX0_takeFromStock_24 : decode cX0_takeFromStock 24 = .ok (.getfield 14, 3) := by decide +kernel
theorem dX0_takeFromStock_27 : decode cX0_takeFromStock 27 = .ok (.iload_n 2, 1) := by decide +kernel
theorem dX0_takeFromStock_28 : decode cX0_takeFromStock 28 = .ok (.iconst 2, 1) := by decide +kernel
theorem dX0_takeFromStock_29 : decode cX0_takeFromStock 29 = .ok (.iconst 1, 1) := by decide +kernel
theorem dX0_takeFromStock_30 : decode cX0_takeFromStock 30 = .ok (.invokevirtual 77, 3) := by decide +kernel
theorem dX0_takeFromStock_33 : decode cX0_takeFromStock 33 = .ok (.aload_n 0, 1) := by decide +kernel
theorem dX0_takeFromStock_34 : decode cX0_takeFromStock 34 = .ok (.getfield 14, 3) := by decide +kernel
theorem dX0_takeFromStock_37 : decode cX0_takeFromStock 37 = .ok (.iload_n 2, 1) := by decide +kernel
theorem dX0_takeFromStock_38 : decode cX0_takeFromStock 38 = .ok (.iconst 3, 1) := by decide +kernel
theorem dX0_takeFromStock_39 : decode cX0_takeFromStock 39 = .ok (.iload_n 1, 1) := by decide +kernel
theorem dX0_takeFromStock_40 : decode cX0_takeFromStock 40 = .ok (.invokevirtual 77, 3) := by decide +kernel
theorem dX0_takeFromStock_43 : decode cX0_takeFromStock 43 = .ok (.aload_n 0, 1) := by decide +kernel
theorem dX0_takeFromStock_44 : decode cX0_takeFromStock 44 = .ok (.getfield 20, 3) := by decide +kernel
theorem dX0_takeFromStock_47 : decode cX0_takeFromStock 47 = .ok (.iload_n 1, 1) := by decide +kernel
theorem dX0_takeFromStock_48 : decode cX0_takeFromStock 48 = .ok (.aload_n 0, 1) := by decide +kernel
theorem dX0_takeFromStock_49 : decode cX0_takeFromStock 49 = .ok (.iload_n 1, 1) := by decide +kernel
theorem dX0_takeFromStock_50 : decode cX0_takeFromStock 50 = .ok (.invokevirtual 92, 3) := by decide +kernel
theorem dX0_takeFromStock_53 : decode cX0_takeFromStock 53 = .ok (.iload_n 2, 1) := by decide +kernel
theorem dX0_takeFromStock_54 : decode cX0_takeFromStock 54 = .ok (.invokevirtual 77, 3) := by decide +kernel
theorem dX0_takeFromStock_57 : decode cX0_takeFromStock 57 = .ok (.aload_n 0, 1) := by decide +kernel
theorem dX0_takeFromStock_58 : decode cX0_takeFromStock 58 = .ok (.getfield 23, 3) := by decide +kernel
theorem dX0_takeFromStock_61 : decode cX0_takeFromStock 61 = .ok (.iload_n 1, 1) := by decide +kernel
theorem dX0_takeFromStock_62 : decode cX0_takeFromStock 62 = .ok (.iconst 0, 1) := by decide +kernel
theorem dX0_takeFromStock_63 : decode cX0_takeFromStock 63 = .ok (.iconst 1, 1) := by decide +kernel
theorem dX0_takeFromStock_64 : decode cX0_takeFromStock 64 = .ok (.invokevirtual 95, 3) := by decide +kernel
theorem dX0_takeFromStock_67 : decode cX0_takeFromStock 67 = .ok (.iload_n 2, 1) := by decide +kernel
theorem dX0_takeFromStock_68 : decode cX0_takeFromStock 68 = .ok (.ireturn, 1) := by decide +kernel
theorem dX0_turnToLay_0 : decode cX0_turnToLay 0 = .ok (.aload_n 0, 1) := by decide +kernel
theorem dX0_turnToLay_1 : decode cX0_turnToLay 1 = .ok (.iload_n 1, 1) := by decide +kernel
theorem dX0_turnToLay_2 : decode cX0_turnToLay 2 = .ok (.iload_n 2, 1) := by decide +kernel
theorem dX0_turnToLay_3 : decode cX0_turnToLay 3 = .ok (.iload_n 3, 1) := by decide +kernel
theorem dX0_turnToLay_4 : decode cX0_turnToLay 4 = .ok (.invokevirtual 98, 3) := by decide +kernel
theorem dX0_turnToLay_7 : decode cX0_turnToLay 7 = .ok (.istore 4, 2) := by decide +kernel
theorem dX0_turnToLay_9 : decode cX0_turnToLay 9 = .ok (.iload 4, 2) := by decide +kernel
theorem dX0_turnToLay_11 : decode cX0_turnToLay 11 = .ok (.ifCond .eq 16, 3) := by decide +kernel
theorem dX0_turnToLay_14 : decode cX0_turnToLay 14 = .ok (.aload_n 0, 1) := by decide +kernel
theorem dX0_turnToLay_15 : decode cX0_turnToLay 15 = .ok (.dup, 1) := by decide +kernel
theorem dX0_turnToLay_16 : decode cX0_turnToLay 16 = .ok (.getfield 55, 3) := by decide +kernel
theorem dX0_turnToLay_19 : decode cX0_turnToLay 19 = .ok (.iconst 1, 1) := by decide +kernel
theorem dX0_turnToLay_20 : decode cX0_turnToLay 20 = .ok (.iadd, 1) := by decide +kernel
theorem dX0_turnToLay_21 : decode cX0_turnToLay 21 = .ok (.putfield 55, 3) := by decide +kernel
theorem dX0_turnToLay_24 : decode cX0_turnToLay 24 = .ok (.iload 4, 2) := by decide +kernel
theorem dX0_turnToLay_26 : decode cX0_turnToLay 26 = .ok (.ireturn, 1) := by decide +kernel
theorem dX0_turnToLay_27 : decode cX0_turnToLay 27 = .ok (.aload_n 0, 1) := by decide +kernel
theorem dX0_turnToLay_28 : decode cX0_turnToLay 28 = .ok (.iconst 0, 1) := by decide +kernel
theorem dX0_turnToLay_29 : decode cX0_turnToLay 29 = .ok (.putfield 52, 3) := by decide +kernel
theorem dX0_turnToLay_32 : decode cX0_turnToLay 32 = .ok (.aload_n 0, 1) := by decide +kernel
theorem dX0_turnToLay_33 : decode cX0_turnToLay 33 = .ok (.aload_n 0, 1) := by decide +kernel
theorem dX0_turnToLay_34 : decode cX0_turnToLay 34 = .ok (.getfield 43, 3) := by decide +kernel
theorem dX0_turnToLay_37 : decode cX0_turnToLay 37 = .ok (.iload_n 1, 1) := by decide +kernel
theorem dX0_turnToLay_38 : decode cX0_turnToLay 38 = .ok (.invokevirtual 102, 3) := by decide +kernel
theorem dX0_turnToLay_41 : decode cX0_turnToLay 41 = .ok (.istore 5, 2) := by decide +kernel
theorem dX0_turnToLay_43 : decode cX0_turnToLay 43 = .ok (.aload_n 0, 1) := by decide +kernel
theorem dX0_turnToLay_44 : decode cX0_turnToLay 44 = .ok (.getfield 14, 3) := by decide +kernel
theorem dX0_turnToLay_47 : decode cX0_turnToLay 47 = .ok (.iload 5, 2) := by decide +kernel
theorem dX0_turnToLay_49 : decode cX0_turnToLay 49 = .ok (.iconst 2, 1) := by decide +kernel
theorem dX0_turnToLay_50 : decode cX0_turnToLay 50 = .ok (.iconst 2, 1) := by decide +kernel
theorem dX0_turnToLay_51 : decode cX0_turnToLay 51 = .ok (.invokevirtual 77, 3) := by decide +kernel
theorem dX0_turnToLay_54 : decode cX0_turnToLay 54 = .ok (.aload_n 0, 1) := by decide +kernel
theorem dX0_turnToLay_55 : decode cX0_turnToLay 55 = .ok (.getfield 14, 3) := by decide +kernel
theorem dX0_turnToLay_58 : decode cX0_turnToLay 58 = .ok (.iload 5, 2) := by decide +kernel
theorem dX0_turnToLay_60 : decode cX0_turnToLay 60 = .ok (.iconst 5, 1) := by decide +kernel
theorem dX0_turnToLay_61 : decode cX0_turnToLay 61 = .ok (.iload_n 2, 1) := by decide +kernel
theorem dX0_turnToLay_62 : decode cX0_turnToLay 62 = .ok (.invokevirtual 77, 3) := by decide +kernel
theorem dX0_turnToLay_65 : decode cX0_turnToLay 65 = .ok (.aload_n 0, 1) := by decide +kernel
theorem dX0_turnToLay_66 : decode cX0_turnToLay 66 = .ok (.getfield 23, 3) := by decide +kernel
theorem dX0_turnToLay_69 : decode cX0_turnToLay 69 = .ok (.aload_n 0, 1) := by decide +kernel
theorem dX0_turnToLay_70 : decode cX0_turnToLay 70 = .ok (.getfield 43, 3) := by decide +kernel
theorem dX0_turnToLay_73 : decode cX0_turnToLay 73 = .ok (.iconst 2, 1) := by decide +kernel
theorem dX0_turnToLay_74 : decode cX0_turnToLay 74 = .ok (.iconst 1, 1) := by decide +kernel
theorem dX0_turnToLay_75 : decode cX0_turnToLay 75 = .ok (.invokevirtual 95, 3) := by decide +kernel
theorem dX0_turnToLay_78 : decode cX0_turnToLay 78 = .ok (.aload_n 0, 1) := by decide +kernel
theorem dX0_turnToLay_79 : decode cX0_turnToLay 79 = .ok (.iload 5, 2) := by decide +kernel
theorem dX0_turnToLay_81 : decode cX0_turnToLay 81 = .ok (.iload_n 2, 1) := by decide +kernel
theorem dX0_turnToLay_82 : decode cX0_turnToLay 82 = .ok (.iload_n 3, 1) := by decide +kernel
theorem dX0_turnToLay_83 : decode cX0_turnToLay 83 = .ok (.invokevirtual 105, 3) := by decide +kernel
theorem dX0_turnToLay_86 : decode cX0_turnToLay 86 = .ok (.aload_n 0, 1) := by decide +kernel
theorem dX0_turnToLay_87 : decode cX0_turnToLay 87 = .ok (.invokevirtual 108, 3) := by decide +kernel
theorem dX0_turnToLay_90 : decode cX0_turnToLay 90 = .ok (.ireturn, 1) := by decide +kernel
theorem dX0_turnToDraw_0 : decode cX0_turnToDraw 0 = .ok (.aload_n 0, 1) := by decide +kernel
theorem dX0_turnToDraw_1 : decode cX0_turnToDraw 1 = .ok (.invokevirtual 112, 3) := by decide +kernel
theorem dX0_turnToDraw_4 : decode cX0_turnToDraw 4 = .ok (.ifCond .ne 10, 3) := by decide +kernel
theorem dX0_turnToDraw_7 : decode cX0_turnToDraw 7 = .ok (.aload_n 0, 1) := by decide +kernel
theorem dX0_turnToDraw_8 : decode cX0_turnToDraw 8 = .ok (.invokevirtual 116, 3) := by decide +kernel
theorem dX0_turnToDraw_11 : decode cX0_turnToDraw 11 = .ok (.ifCond .ne 29, 3) := by decide +kernel
theorem dX0_turnToDraw_14 : decode cX0_turnToDraw 14 = .ok (.aload_n 0, 1) := by decide +kernel
theorem dX0_turnToDraw_15 : decode cX0_turnToDraw 15 = .ok (.dup, 1) := by decide +kernel
theorem dX0_turnToDraw_16 : decode cX0_turnToDraw 16 = .ok (.getfield 55, 3) := by decide +kernel
theorem dX0_turnToDraw_19 : decode cX0_turnToDraw 19 = .ok (.iconst 1, 1) := by decide +kernel
theorem dX0_turnToDraw_20 : decode cX0_turnToDraw 20 = .ok (.iadd, 1) := by decide +kernel
theorem dX0_turnToDraw_21 : decode cX0_turnToDraw 21 = .ok (.putfield 55, 3) := by decide +kernel
theorem dX0_turnToDraw_24 : decode cX0_turnToDraw 24 = .ok (.bipush 100, 2) := by decide +kernel
theorem dX0_turnToDraw_26 : decode cX0_turnToDraw 26 = .ok (.aload_n 0, 1) := by decide +kernel
theorem dX0_turnToDraw_27 : decode cX0_turnToDraw 27 = .ok (.invokevirtual 112, 3) := by decide +kernel
theorem dX0_turnToDraw_30 : decode cX0_turnToDraw 30 = .ok (.ifCond .eq 7, 3) := by decide +kernel
theorem dX0_turnToDraw_33 : decode cX0_turnToDraw 33 = .ok (.iconst 1, 1) := by decide +kernel
theorem dX0_turnToDraw_34 : decode cX0_turnToDraw 34 = .ok (.goto 4, 3) := by decide +kernel
theorem dX0_turnToDraw_37 : decode cX0_turnToDraw 37 = .ok (.iconst 4, 1) := by decide +kernel
theorem dX0_turnToDraw_38 : decode cX0_turnToDraw 38 = .ok (.iadd, 1) := by decide +kernel
theorem dX0_turnToDraw_39 : decode cX0_turnToDraw 39 = .ok (.ireturn, 1) := by decide +kernel
theorem dX0_turnToDraw_40 : decode cX0_turnToDraw 40 = .ok (.aload_n 0, 1) := by decide +kernel
theorem dX0_turnToDraw_41 : decode cX0_turnToDraw 41 = .ok (.iconst 0, 1) := by decide +kernel
theorem dX0_turnToDraw_42 : decode cX0_turnToDraw 42 = .ok (.putfield 52, 3) := by decide +kernel
theorem dX0_turnToDraw_45 : decode cX0_turnToDraw 45 = .ok (.aload_n 0, 1) := by decide +kernel
theorem dX0_turnToDraw_46 : decode cX0_turnToDraw 46 = .ok (.aload_n 0, 1) := by decide +kernel
theorem dX0_turnToDraw_47 : decode cX0_turnToDraw 47 = .ok (.getfield 43, 3) := by decide +kernel
theorem dX0_turnToDraw_50 : decode cX0_turnToDraw 50 = .ok (.invokevirtual 88, 3) := by decide +kernel
theorem dX0_turnToDraw_53 : decode cX0_turnToDraw 53 = .ok (.istore_n 1, 1) := by decide +kernel
theorem dX0_turnToDraw_54 : decode cX0_turnToDraw 54 = .ok (.aload_n 0, 1) := by decide +kernel
theorem dX0_turnToDraw_55 : decode cX0_turnToDraw 55 = .ok (.getfield 23, 3) := by decide +kernel
theorem dX0_turnToDraw_58 : decode cX0_turnToDraw 58 = .ok (.aload_n 0, 1) := by decide +kernel
theorem dX0_turnToDraw_59 : decode cX0_turnToDraw 59 = .ok (.getfield 43, 3) := by decide +kernel
theorem dX0_turnToDraw_62 : decode cX0_turnToDraw 62 = .ok (.iconst 3, 1) := by decide +kernel
theorem dX0_turnToDraw_63 : decode cX0_turnToDraw 63 = .ok (.iconst 1, 1) := by decide +kernel
theorem dX0_turnToDraw_64 : decode cX0_turnToDraw 64 = .ok (.invokevirtual 95, 3) := by decide +kernel
theorem dX0_turnToDraw_67 : decode cX0_turnToDraw 67 = .ok (.aload_n 0, 1) := by decide +kernel
theorem dX0_turnToDraw_68 : decode cX0_turnToDraw 68 = .ok (.invokevirtual 108, 3) := by decide +kernel
theorem dX0_turnToDraw_71 : decode cX0_turnToDraw 71 = .ok (.pop, 1) := by decide +kernel
theorem dX0_turnToDraw_72 : decode cX0_turnToDraw 72 = .ok (.iload_n 1, 1) := by decide +kernel
theorem dX0_turnToDraw_73 : decode cX0_turnToDraw 73 = .ok (.ireturn, 1) := by decide +kernel
theorem dX0_turnToPass_0 : decode cX0_turnToPass 0 = .ok (.aload_n 0, 1) := by decide +kernel
theorem dX0_turnToPass_1 : decode cX0_turnToPass 1 = .ok (.invokevirtual 112, 3) := by decide +kernel
theorem dX0_turnToPass_4 : decode cX0_turnToPass 4 = .ok (.ifCond .ne 10, 3) := by decide +kernel
theorem dX0_turnToPass_7 : decode cX0_turnToPass 7 = .ok (.aload_n 0, 1) := by decide +kernel
theorem dX0_turnToPass_8 : decode cX0_turnToPass 8 = .ok (.invokevirtual 116, 3) := by decide +kernel
theorem dX0_turnToPass_11 : decode cX0_turnToPass 11 = .ok (.ifCond .le 26, 3) := by decide +kernel
theorem dX0_turnToPass_14 : decode cX0_turnToPass 14 = .ok (.aload_n 0, 1) := by decide +kernel
theorem dX0_turnToPass_15 : decode cX0_turnToPass 15 = .ok (.dup, 1) := by decide +kernel
theorem dX0_turnToPass_16 : decode cX0_turnToPass 16 = .ok (.getfield 55, 3) := by decide +kernel
theorem dX0_turnToPass_19 : decode cX0_turnToPass 19 = .ok (.iconst 1, 1) := by decide +kernel
theorem dX0_turnToPass_20 : decode cX0_turnToPass 20 = .ok (.iadd, 1) := by decide +kernel
theorem dX0_turnToPass_21 : decode cX0_turnToPass 21 = .ok (.putfield 55, 3) := by decide +kernel
theorem dX0_turnToPass_24 : decode cX0_turnToPass 24 = .ok (.aload_n 0, 1) := by decide +kernel
theorem dX0_turnToPass_25 : decode cX0_turnToPass 25 = .ok (.invokevirtual 112, 3) := by decide +kernel
theorem dX0_turnToPass_28 : decode cX0_turnToPass 28 = .ok (.ifCond .eq 7, 3) := by decide +kernel
theorem dX0_turnToPass_31 : decode cX0_turnToPass 31 = .ok (.iconst 1, 1) := by decide +kernel
theorem dX0_turnToPass_32 : decode cX0_turnToPass 32 = .ok (.goto 4, 3) := by decide +kernel
theorem dX0_turnToPass_35 : decode cX0_turnToPass 35 = .ok (.iconst 5, 1) := by decide +kernel
theorem dX0_turnToPass_36 : decode cX0_turnToPass 36 = .ok (.ireturn, 1) := by decide +kernel
theorem dX0_turnToPass_37 : decode cX0_turnToPass 37 = .ok (.aload_n 0, 1) := by decide +kernel
theorem dX0_turnToPass_38 : decode cX0_turnToPass 38 = .ok (.dup, 1) := by decide +kernel
theorem dX0_turnToPass_39 : decode cX0_turnToPass 39 = .ok (.getfield 52, 3) := by decide +kernel
theorem dX0_turnToPass_42 : decode cX0_turnToPass 42 = .ok (.iconst 1, 1) := by decide +kernel
theorem dX0_turnToPass_43 : decode cX0_turnToPass 43 = .ok (.iadd, 1) := by decide +kernel
theorem dX0_turnToPass_44 : decode cX0_turnToPass 44 = .ok (.putfield 52, 3) := by decide +kernel
theorem dX0_turnToPass_47 : decode cX0_turnToPass 47 = .ok (.aload_n 0, 1) := by decide +kernel
theorem dX0_turnToPass_48 : decode cX0_turnToPass 48 = .ok (.invokevirtual 108, 3) := by decide +kernel
theorem dX0_turnToPass_51 : decode cX0_turnToPass 51 = .ok (.ireturn, 1) := by decide +kernel
theorem dX0_oilTile_0 : decode cX0_oilTile 0 = .ok (.aload_n 0, 1) := by decide +kernel
theorem dX0_oilTile_1 : decode cX0_oilTile 1 = .ok (.invokevirtual 112, 3) := by decide +kernel
theorem dX0_oilTile_4 : decode cX0_oilTile 4 = .ok (.ifCond .eq 5, 3) := by decide +kernel
theorem dX0_oilTile_7 : decode cX0_oilTile 7 = .ok (.iconst (-1), 1) := by decide +kernel
theorem dX0_oilTile_8 : decode cX0_oilTile 8 = .ok (.ireturn, 1) := by decide +kernel
theorem dX0_oilTile_9 : decode cX0_oilTile 9 = .ok (.aload_n 0, 1) := by decide +kernel
theorem dX0_oilTile_10 : decode cX0_oilTile 10 = .ok (.getfield 20, 3) := by decide +kernel
theorem dX0_oilTile_13 : decode cX0_oilTile 13 = .ok (.aload_n 0, 1) := by decide +kernel
theorem dX0_oilTile_14 : decode cX0_oilTile 14 = .ok (.getfield 43, 3) := by decide +kernel
theorem dX0_oilTile_17 : decode cX0_oilTile 17 = .ok (.iload_n 1, 1) := by decide +kernel
theorem dX0_oilTile_18 : decode cX0_oilTile 18 = .ok (.invokevirtual 84, 3) := by decide +kernel
theorem dX0_oilTile_21 : decode cX0_oilTile 21 = .ok (.istore_n 2, 1) := by decide +kernel
theorem dX0_oilTile_22 : decode cX0_oilTile 22 = .ok (.aload_n 0, 1) := by decide +kernel
theorem dX0_oilTile_23 : decode cX0_oilTile 23 = .ok (.getfield 14, 3) := by decide +kernel
theorem dX0_oilTile_26 : decode cX0_oilTile 26 = .ok (.iload_n 2, 1) := by decide +kernel
theorem dX0_oilTile_27 : decode cX0_oilTile 27 = .ok (.iconst 4, 1) := by decide +kernel
theorem dX0_oilTile_28 : decode cX0_oilTile 28 = .ok (.invokevirtual 84, 3) := by decide +kernel
theorem dX0_oilTile_31 : decode cX0_oilTile 31 = .ok (.istore_n 3, 1) := by decide +kernel
theorem dX0_oilTile_32 : decode cX0_oilTile 32 = .ok (.aload_n 0, 1) := by decide +kernel
theorem dX0_oilTile_33 : decode cX0_oilTile 33 = .ok (.getfield 14, 3) := by decide +kernel
theorem dX0_oilTile_36 : decode cX0_oilTile 36 = .ok (.iload_n 2, 1) := by decide +kernel
theorem dX0_oilTile_37 : decode cX0_oilTile 37 = .ok (.iconst 4, 1) := by decide +kernel
theorem dX0_oilTile_38 : decode cX0_oilTile 38 = .ok (.iconst 0, 1) := by decide +kernel
theorem dX0_oilTile_39 : decode cX0_oilTile 39 = .ok (.invokevirtual 77, 3) := by decide +kernel
theorem dX0_oilTile_42 : decode cX0_oilTile 42 = .ok (.iload_n 3, 1) := by decide +kernel
theorem dX0_oilTile_43 : decode cX0_oilTile 43 = .ok (.ireturn, 1) := by decide +kernel
theorem dX0_reasonAgainst_0 : decode cX0_reasonAgainst 0 = .ok (.aload_n 0, 1) := by decide +kernel
theorem dX0_reasonAgainst_1 : decode cX0_reasonAgainst 1 = .ok (.invokevirtual 112, 3) := by decide +kernel
theorem dX0_reasonAgainst_4 : decode cX0_reasonAgainst 4 = .ok (.ifCond .eq 5, 3) := by decide +kernel
theorem dX0_reasonAgainst_7 : decode cX0_reasonAgainst 7 = .ok (.iconst 1, 1) := by decide +kernel
theorem dX0_reasonAgainst_8 : decode cX0_reasonAgainst 8 = .ok (.ireturn, 1) := by decide +kernel
theorem dX0_reasonAgainst_9 : decode cX0_reasonAgainst 9 = .ok (.aload_n 0, 1) := by decide +kernel
theorem dX0_reasonAgainst_10 : decode cX0_reasonAgainst 10 = .ok (.aload_n 0, 1) := by decide +kernel
theorem dX0_reasonAgainst_11 : decode cX0_reasonAgainst 11 = .ok (.getfield 43, 3) := by decide +kernel
theorem dX0_reasonAgainst_14 : decode cX0_reasonAgainst 14 = .ok (.iload_n 1, 1) := by decide +kernel
theorem dX0_reasonAgainst_15 : decode cX0_reasonAgainst 15 = .ok (.invokevirtual 119, 3) := by decide +kernel
theorem dX0_reasonAgainst_18 : decode cX0_reasonAgainst 18 = .ok (.ifCond .ne 5, 3) := by decide +kernel
theorem dX0_reasonAgainst_21 : decode cX0_reasonAgainst 21 = .ok (.iconst 2, 1) := by decide +kernel
theorem dX0_reasonAgainst_22 : decode cX0_reasonAgainst 22 = .ok (.ireturn, 1) := by decide +kernel
theorem dX0_reasonAgainst_23 : decode cX0_reasonAgainst 23 = .ok (.aload_n 0, 1) := by decide +kernel
theorem dX0_reasonAgainst_24 : decode cX0_reasonAgainst 24 = .ok (.aload_n 0, 1) := by decide +kernel
theorem dX0_reasonAgainst_25 : decode cX0_reasonAgainst 25 = .ok (.getfield 20, 3) := by decide +kernel
theorem dX0_reasonAgainst_28 : decode cX0_reasonAgainst 28 = .ok (.aload_n 0, 1) := by decide +kernel
theorem dX0_reasonAgainst_29 : decode cX0_reasonAgainst 29 = .ok (.getfield 43, 3) := by decide +kernel
theorem dX0_reasonAgainst_32 : decode cX0_reasonAgainst 32 = .ok (.iload_n 1, 1) := by decide +kernel
theorem dX0_reasonAgainst_33 : decode cX0_reasonAgainst 33 = .ok (.invokevirtual 84, 3) := by decide +kernel
theorem dX0_reasonAgainst_36 : decode cX0_reasonAgainst 36 = .ok (.iload_n 2, 1) := by decide +kernel
theorem dX0_reasonAgainst_37 : decode cX0_reasonAgainst 37 = .ok (.iload_n 3, 1) := by decide +kernel
theorem dX0_reasonAgainst_38 : decode cX0_reasonAgainst 38 = .ok (.invokevirtual 123, 3) := by decide +kernel
theorem dX0_reasonAgainst_41 : decode cX0_reasonAgainst 41 = .ok (.ifCond .eq 7, 3) := by decide +kernel
theorem dX0_reasonAgainst_44 : decode cX0_reasonAgainst 44 = .ok (.iconst 0, 1) := by decide +kernel
theorem dX0_reasonAgainst_45 : decode cX0_reasonAgainst 45 = .ok (.goto 4, 3) := by decide +kernel
theorem dX0_reasonAgainst_48 : decode cX0_reasonAgainst 48 = .ok (.iconst 3, 1) := by decide +kernel
theorem dX0_reasonAgainst_49 : decode cX0_reasonAgainst 49 = .ok (.ireturn, 1) := by decide +kernel
theorem dX0_fits_0 : decode cX0_fits 0 = .ok (.aload_n 0, 1) := by decide +kernel
theorem dX0_fits_1 : decode cX0_fits 1 = .ok (.getfield 26, 3) := by decide +kernel
theorem dX0_fits_4 : decode cX0_fits 4 = .ok (.iload_n 2, 1) := by decide +kernel
theorem dX0_fits_5 : decode cX0_fits 5 = .ok (.iconst 0, 1) := by decide +kernel
theorem dX0_fits_6 : decode cX0_fits 6 = .ok (.invokevirtual 84, 3) := by decide +kernel
theorem dX0_fits_9 : decode cX0_fits 9 = .ok (.ifCond .ne 5, 3) := by decide +kernel
theorem dX0_fits_12 : decode cX0_fits 12 = .ok (.iconst 1, 1) := by decide +kernel
theorem dX0_fits_13 : decode cX0_fits 13 = .ok (.ireturn, 1) := by decide +kernel
theorem dX0_fits_14 : decode cX0_fits 14 = .ok (.aload_n 0, 1) := by decide +kernel
theorem dX0_fits_15 : decode cX0_fits 15 = .ok (.getfield 26, 3) := by decide +kernel
theorem dX0_fits_18 : decode cX0_fits 18 = .ok (.iload_n 2, 1) := by decide +kernel
theorem dX0_fits_19 : decode cX0_fits 19 = .ok (.iconst 1, 1) := by decide +kernel
theorem dX0_fits_20 : decode cX0_fits 20 = .ok (.iload_n 3, 1) := by decide +kernel
theorem dX0_fits_21 : decode cX0_fits 21 = .ok (.iadd, 1) := by decide +kernel
theorem dX0_fits_22 : decode cX0_fits 22 = .ok (.invokevirtual 84, 3) := by decide +kernel
theorem dX0_fits_25 : decode cX0_fits 25 = .ok (.istore 4, 2) := by decide +kernel
theorem dX0_fits_27 : decode cX0_fits 27 = .ok (.aload_n 0, 1) := by decide +kernel
theorem dX0_fits_28 : decode cX0_fits 28 = .ok (.getfield 14, 3) := by decide +kernel
theorem dX0_fits_31 : decode cX0_fits 31 = .ok (.iload_n 1, 1) := by decide +kernel
theorem dX0_fits_32 : decode cX0_fits 32 = .ok (.iconst 0, 1) := by decide +kernel
theorem dX0_fits_33 : decode cX0_fits 33 = .ok (.invokevirtual 84, 3) := by decide +kernel
theorem dX0_fits_36 : decode cX0_fits 36 = .ok (.iload 4, 2) := by decide +kernel
theorem dX0_fits_38 : decode cX0_fits 38 = .ok (.if_icmp .eq 17, 3) := by decide +kernel
theorem dX0_fits_41 : decode cX0_fits 41 = .ok (.aload_n 0, 1) := by decide +kernel
theorem dX0_fits_42 : decode cX0_fits 42 = .ok (.getfield 14, 3) := by decide +kernel
theorem dX0_fits_45 : decode cX0_fits 45 = .ok (.iload_n 1, 1) := by decide +kernel
theorem dX0_fits_46 : decode cX0_fits 46 = .ok (.iconst 1, 1) := by decide +kernel
theorem dX0_fits_47 : decode cX0_fits 47 = .ok (.invokevirtual 84, 3) := by decide +kernel
theorem dX0_fits_50 : decode cX0_fits 50 = .ok (.iload 4, 2) := by decide +kernel
theorem dX0_fits_52 : decode cX0_fits 52 = .ok (.if_icmp .ne 7, 3) := by decide +kernel
theorem dX0_fits_55 : decode cX0_fits 55 = .ok (.iconst 1, 1) := by decide +kernel
theorem dX0_fits_56 : decode cX0_fits 56 = .ok (.goto 4, 3) := by decide +kernel
theorem dX0_fits_59 : decode cX0_fits 59 = .ok (.iconst 0, 1) := by decide +kernel
theorem dX0_fits_60 : decode cX0_fits 60 = .ok (.ireturn, 1) := by decide +kernel
theorem dX0_takeFromHand_0 : decode cX0_takeFromHand 0 = .ok (.aload_n 0, 1) := by decide +kernel
theorem dX0_takeFromHand_1 : decode cX0_takeFromHand 1 = .ok (.getfield 20, 3) := by decide +kernel
theorem dX0_takeFromHand_4 : decode cX0_takeFromHand 4 = .ok (.iload_n 1, 1) := by decide +kernel
theorem dX0_takeFromHand_5 : decode cX0_takeFromHand 5 = .ok (.iload_n 2, 1) := by decide +kernel
theorem dX0_takeFromHand_6 : decode cX0_takeFromHand 6 = .ok (.invokevirtual 84, 3) := by decide +kernel
theorem dX0_takeFromHand_9 : decode cX0_takeFromHand 9 = .ok (.istore_n 3, 1) := by decide +kernel
theorem dX0_takeFromHand_10 : decode cX0_takeFromHand 10 = .ok (.aload_n 0, 1) := by decide +kernel
theorem dX0_takeFromHand_11 : decode cX0_takeFromHand 11 = .ok (.iload_n 1, 1) := by decide +kernel
theorem dX0_takeFromHand_12 : decode cX0_takeFromHand 12 = .ok (.invokevirtual 92, 3) := by decide +kernel
theorem dX0_takeFromHand_15 : decode cX0_takeFromHand 15 = .ok (.iconst 1, 1) := by decide +kernel
theorem dX0_takeFromHand_16 : decode cX0_takeFromHand 16 = .ok (.isub, 1) := by decide +kernel
theorem dX0_takeFromHand_17 : decode cX0_takeFromHand 17 = .ok (.istore 4, 2) := by decide +kernel
theorem dX0_takeFromHand_19 : decode cX0_takeFromHand 19 = .ok (.iload_n 2, 1) := by decide +kernel
theorem dX0_takeFromHand_20 : decode cX0_takeFromHand 20 = .ok (.istore 5, 2) := by decide +kernel
theorem dX0_takeFromHand_22 : decode cX0_takeFromHand 22 = .ok (.iload 5, 2) := by decide +kernel
theorem dX0_takeFromHand_24 : decode cX0_takeFromHand 24 = .ok (.iload 4, 2) := by decide +kernel
theorem dX0_takeFromHand_26 : decode cX0_takeFromHand 26 = .ok (.if_icmp .ge 31, 3) := by decide +kernel
theorem dX0_takeFromHand_29 : decode cX0_takeFromHand 29 = .ok (.aload_n 0, 1) := by decide +kernel
theorem dX0_takeFromHand_30 : decode cX0_takeFromHand 30 = .ok (.getfield 20, 3) := by decide +kernel
theorem dX0_takeFromHand_33 : decode cX0_takeFromHand 33 = .ok (.iload_n 1, 1) := by decide +kernel
theorem dX0_takeFromHand_34 : decode cX0_takeFromHand 34 = .ok (.iload 5, 2) := by decide +kernel
theorem dX0_takeFromHand_36 : decode cX0_takeFromHand 36 = .ok (.aload_n 0, 1) := by decide +kernel
theorem dX0_takeFromHand_37 : decode cX0_takeFromHand 37 = .ok (.getfield 20, 3) := by decide +kernel
theorem dX0_takeFromHand_40 : decode cX0_takeFromHand 40 = .ok (.iload_n 1, 1) := by decide +kernel
theorem dX0_takeFromHand_41 : decode cX0_takeFromHand 41 = .ok (.iload 5, 2) := by decide +kernel
theorem dX0_takeFromHand_43 : decode cX0_takeFromHand 43 = .ok (.iconst 1, 1) := by decide +kernel
theorem dX0_takeFromHand_44 : decode cX0_takeFromHand 44 = .ok (.iadd, 1) := by decide +kernel
theorem dX0_takeFromHand_45 : decode cX0_takeFromHand 45 = .ok (.invokevirtual 84, 3) := by decide +kernel
theorem dX0_takeFromHand_48 : decode cX0_takeFromHand 48 = .ok (.invokevirtual 77, 3) := by decide +kernel
theorem dX0_takeFromHand_51 : decode cX0_takeFromHand 51 = .ok (.iinc 5 1, 3) := by decide +kernel
theorem dX0_takeFromHand_54 : decode cX0_takeFromHand 54 = .ok (.goto (-32), 3) := by decide +kernel
theorem dX0_takeFromHand_57 : decode cX0_takeFromHand 57 = .ok (.aload_n 0, 1) := by decide +kernel
theorem dX0_takeFromHand_58 : decode cX0_takeFromHand 58 = .ok (.getfield 23, 3) := by decide +kernel
theorem dX0_takeFromHand_61 : decode cX0_takeFromHand 61 = .ok (.iload_n 1, 1) := by decide +kernel
theorem dX0_takeFromHand_62 : decode cX0_takeFromHand 62 = .ok (.iconst 0, 1) := by decide +kernel
theorem dX0_takeFromHand_63 : decode cX0_takeFromHand 63 = .ok (.iconst (-1), 1) := by decide +kernel
theorem dX0_takeFromHand_64 : decode cX0_takeFromHand 64 = .ok (.invokevirtual 95, 3) := by decide +kernel
theorem dX0_takeFromHand_67 : decode cX0_takeFromHand 67 = .ok (.iload_n 3, 1) := by decide +kernel
theorem dX0_takeFromHand_68 : decode cX0_takeFromHand 68 = .ok (.ireturn, 1) := by decide +kernel
theorem dX0_putAtEnd_0 : decode cX0_putAtEnd 0 = .ok (.aload_n 0, 1) := by decide +kernel
theorem dX0_putAtEnd_1 : decode cX0_putAtEnd 1 = .ok (.getfield 14, 3) := by decide +kernel
theorem dX0_putAtEnd_4 : decode cX0_putAtEnd 4 = .ok (.iload_n 1, 1) := by decide +kernel
theorem dX0_putAtEnd_5 : decode cX0_putAtEnd 5 = .ok (.iconst 0, 1) := by decide +kernel
theorem dX0_putAtEnd_6 : decode cX0_putAtEnd 6 = .ok (.invokevirtual 84, 3) := by decide +kernel
theorem dX0_putAtEnd_9 : decode cX0_putAtEnd 9 = .ok (.istore 4, 2) := by decide +kernel
theorem dX0_putAtEnd_11 : decode cX0_putAtEnd 11 = .ok (.aload_n 0, 1) := by decide +kernel
theorem dX0_putAtEnd_12 : decode cX0_putAtEnd 12 = .ok (.getfield 14, 3) := by decide +kernel
theorem dX0_putAtEnd_15 : decode cX0_putAtEnd 15 = .ok (.iload_n 1, 1) := by decide +kernel
theorem dX0_putAtEnd_16 : decode cX0_putAtEnd 16 = .ok (.iconst 1, 1) := by decide +kernel
theorem dX0_putAtEnd_17 : decode cX0_putAtEnd 17 = .ok (.invokevirtual 84, 3) := by decide +kernel
theorem dX0_putAtEnd_20 : decode cX0_putAtEnd 20 = .ok (.istore 5, 2) := by decide +kernel
theorem dX0_putAtEnd_22 : decode cX0_putAtEnd 22 = .ok (.aload_n 0, 1) := by decide +kernel
theorem dX0_putAtEnd_23 : decode cX0_putAtEnd 23 = .ok (.getfield 26, 3) := by decide +kernel
theorem dX0_putAtEnd_26 : decode cX0_putAtEnd 26 = .ok (.iload_n 2, 1) := by decide +kernel
theorem dX0_putAtEnd_27 : decode cX0_putAtEnd 27 = .ok (.iconst 0, 1) := by decide +kernel
theorem dX0_putAtEnd_28 : decode cX0_putAtEnd 28 = .ok (.invokevirtual 84, 3) := by decide +kernel
theorem dX0_putAtEnd_31 : decode cX0_putAtEnd 31 = .ok (.ifCond .ne 28, 3) := by decide +kernel
theorem dX0_putAtEnd_34 : decode cX0_putAtEnd 34 = .ok (.aload_n 0, 1) := by decide +kernel
theorem dX0_putAtEnd_35 : decode cX0_putAtEnd 35 = .ok (.getfield 26, 3) := by decide +kernel
theorem dX0_putAtEnd_38 : decode cX0_putAtEnd 38 = .ok (.iload_n 2, 1) := by decide +kernel
theorem dX0_putAtEnd_39 : decode cX0_putAtEnd 39 = .ok (.iconst 1, 1) := by decide +kernel
theorem dX0_putAtEnd_40 : decode cX0_putAtEnd 40 = .ok (.iload 4, 2) := by decide +kernel
theorem dX0_putAtEnd_42 : decode cX0_putAtEnd 42 = .ok (.invokevirtual 77, 3) := by decide +kernel
theorem dX0_putAtEnd_45 : decode cX0_putAtEnd 45 = .ok (.aload_n 0, 1) := by decide +kernel
theorem dX0_putAtEnd_46 : decode cX0_putAtEnd 46 = .ok (.getfield 26, 3) := by decide +kernel
theorem dX0_putAtEnd_49 : decode cX0_putAtEnd 49 = .ok (.iload_n 2, 1) := by decide +kernel
theorem dX0_putAtEnd_50 : decode cX0_putAtEnd 50 = .ok (.iconst 2, 1) := by decide +kernel
theorem dX0_putAtEnd_51 : decode cX0_putAtEnd 51 = .ok (.iload 5, 2) := by decide +kernel
theorem dX0_putAtEnd_53 : decode cX0_putAtEnd 53 = .ok (.invokevirtual 77, 3) := by decide +kernel
theorem dX0_putAtEnd_56 : decode cX0_putAtEnd 56 = .ok (.goto 37, 3) := by decide +kernel
theorem dX0_putAtEnd_59 : decode cX0_putAtEnd 59 = .ok (.aload_n 0, 1) := by decide +kernel
theorem dX0_putAtEnd_60 : decode cX0_putAtEnd 60 = .ok (.getfield 26, 3) := by decide +kernel
theorem dX0_putAtEnd_63 : decode cX0_putAtEnd 63 = .ok (.iload_n 2, 1) := by decide +kernel
theorem dX0_putAtEnd_64 : decode cX0_putAtEnd 64 = .ok (.iconst 1, 1) := by decide +kernel
theorem dX0_putAtEnd_65 : decode cX0_putAtEnd 65 = .ok (.iload_n 3, 1) := by decide +kernel
theorem dX0_putAtEnd_66 : decode cX0_putAtEnd 66 = .ok (.iadd, 1) := by decide +kernel
theorem dX0_putAtEnd_67 : decode cX0_putAtEnd 67 = .ok (.iload 4, 2) := by decide +kernel
theorem dX0_putAtEnd_69 : decode cX0_putAtEnd 69 = .ok (.aload_n 0, 1) := by decide +kernel
theorem dX0_putAtEnd_70 : decode cX0_putAtEnd 70 = .ok (.getfield 26, 3) := by decide +kernel
theorem dX0_putAtEnd_73 : decode cX0_putAtEnd 73 = .ok (.iload_n 2, 1) := by decide +kernel
theorem dX0_putAtEnd_74 : decode cX0_putAtEnd 74 = .ok (.iconst 1, 1) := by decide +kernel
theorem dX0_putAtEnd_75 : decode cX0_putAtEnd 75 = .ok (.iload_n 3, 1) := by decide +kernel
theorem dX0_putAtEnd_76 : decode cX0_putAtEnd 76 = .ok (.iadd, 1) := by decide +kernel
theorem dX0_putAtEnd_77 : decode cX0_putAtEnd 77 = .ok (.invokevirtual 84, 3) := by decide +kernel
theorem dX0_putAtEnd_80 : decode cX0_putAtEnd 80 = .ok (.if_icmp .ne 8, 3) := by decide +kernel
theorem dX0_putAtEnd_83 : decode cX0_putAtEnd 83 = .ok (.iload 5, 2) := by decide +kernel
theorem dX0_putAtEnd_85 : decode cX0_putAtEnd 85 = .ok (.goto 5, 3) := by decide +kernel
theorem dX0_putAtEnd_88 : decode cX0_putAtEnd 88 = .ok (.iload 4, 2) := by decide +kernel
theorem dX0_putAtEnd_90 : decode cX0_putAtEnd 90 = .ok (.invokevirtual 77, 3) := by decide +kernel
theorem dX0_putAtEnd_93 : decode cX0_putAtEnd 93 = .ok (.aload_n 0, 1) := by decide +kernel
theorem dX0_putAtEnd_94 : decode cX0_putAtEnd 94 = .ok (.getfield 26, 3) := by decide +kernel
theorem dX0_putAtEnd_97 : decode cX0_putAtEnd 97 = .ok (.iload_n 2, 1) := by decide +kernel
theorem dX0_putAtEnd_98 : decode cX0_putAtEnd 98 = .ok (.iconst 0, 1) := by decide +kernel
theorem dX0_putAtEnd_99 : decode cX0_putAtEnd 99 = .ok (.iconst 1, 1) := by decide +kernel
theorem dX0_putAtEnd_100 : decode cX0_putAtEnd 100 = .ok (.invokevirtual 95, 3) := by decide +kernel
theorem dX0_putAtEnd_103 : decode cX0_putAtEnd 103 = .ok (.aload_n 0, 1) := by decide +kernel
theorem dX0_putAtEnd_104 : decode cX0_putAtEnd 104 = .ok (.getfield 26, 3) := by decide +kernel
theorem dX0_putAtEnd_107 : decode cX0_putAtEnd 107 = .ok (.iload_n 2, 1) := by decide +kernel
theorem dX0_putAtEnd_108 : decode cX0_putAtEnd 108 = .ok (.iconst 3, 1) := by decide +kernel
theorem dX0_putAtEnd_109 : decode cX0_putAtEnd 109 = .ok (.iload_n 1, 1) := by decide +kernel
theorem dX0_putAtEnd_110 : decode cX0_putAtEnd 110 = .ok (.invokevirtual 77, 3) := by decide +kernel
theorem dX0_putAtEnd_113 : decode cX0_putAtEnd 113 = .ok (.return_, 1) := by decide +kernel
theorem dX0_endTurn_0 : decode cX0_endTurn 0 = .ok (.aload_n 0, 1) := by decide +kernel
theorem dX0_endTurn_1 : decode cX0_endTurn 1 = .ok (.dup, 1) := by decide +kernel
theorem dX0_endTurn_2 : decode cX0_endTurn 2 = .ok (.getfield 49, 3) := by decide +kernel
theorem dX0_endTurn_5 : decode cX0_endTurn 5 = .ok (.iconst 1, 1) := by decide +kernel
theorem dX0_endTurn_6 : decode cX0_endTurn 6 = .ok (.iadd, 1) := by decide +kernel
theorem dX0_endTurn_7 : decode cX0_endTurn 7 = .ok (.putfield 49, 3) := by decide +kernel
theorem dX0_endTurn_10 : decode cX0_endTurn 10 = .ok (.aload_n 0, 1) := by decide +kernel
theorem dX0_endTurn_11 : decode cX0_endTurn 11 = .ok (.aload_n 0, 1) := by decide +kernel
theorem dX0_endTurn_12 : decode cX0_endTurn 12 = .ok (.getfield 43, 3) := by decide +kernel
theorem dX0_endTurn_15 : decode cX0_endTurn 15 = .ok (.invokevirtual 92, 3) := by decide +kernel
theorem dX0_endTurn_18 : decode cX0_endTurn 18 = .ok (.ifCond .eq 14, 3) := by decide +kernel
theorem dX0_endTurn_21 : decode cX0_endTurn 21 = .ok (.aload_n 0, 1) := by decide +kernel
theorem dX0_endTurn_22 : decode cX0_endTurn 22 = .ok (.getfield 52, 3) := by decide +kernel
theorem dX0_endTurn_25 : decode cX0_endTurn 25 = .ok (.aload_n 0, 1) := by decide +kernel
theorem dX0_endTurn_26 : decode cX0_endTurn 26 = .ok (.getfield 40, 3) := by decide +kernel
theorem dX0_endTurn_29 : decode cX0_endTurn 29 = .ok (.if_icmp .lt 7, 3) := by decide +kernel
theorem dX0_endTurn_32 : decode cX0_endTurn 32 = .ok (.iconst 1, 1) := by decide +kernel
theorem dX0_endTurn_33 : decode cX0_endTurn 33 = .ok (.goto 4, 3) := by decide +kernel
theorem dX0_endTurn_36 : decode cX0_endTurn 36 = .ok (.iconst 0, 1) := by decide +kernel
theorem dX0_endTurn_37 : decode cX0_endTurn 37 = .ok (.istore_n 1, 1) := by decide +kernel
theorem dX0_endTurn_38 : decode cX0_endTurn 38 = .ok (.aload_n 0, 1) := by decide +kernel
theorem dX0_endTurn_39 : decode cX0_endTurn 39 = .ok (.aload_n 0, 1) := by decide +kernel
theorem dX0_endTurn_40 : decode cX0_endTurn 40 = .ok (.getfield 43, 3) := by decide +kernel
theorem dX0_endTurn_43 : decode cX0_endTurn 43 = .ok (.invokevirtual 127, 3) := by decide +kernel
theorem dX0_endTurn_46 : decode cX0_endTurn 46 = .ok (.iload_n 1, 1) := by decide +kernel
theorem dX0_endTurn_47 : decode cX0_endTurn 47 = .ok (.ifCond .eq 11, 3) := by decide +kernel
theorem dX0_endTurn_50 : decode cX0_endTurn 50 = .ok (.aload_n 0, 1) := by decide +kernel
theorem dX0_endTurn_51 : decode cX0_endTurn 51 = .ok (.iconst (-1), 1) := by decide +kernel
theorem dX0_endTurn_52 : decode cX0_endTurn 52 = .ok (.putfield 43, 3) := by decide +kernel
theorem dX0_endTurn_55 : decode cX0_endTurn 55 = .ok (.bipush 11, 2) := by decide +kernel
theorem dX0_endTurn_57 : decode cX0_endTurn 57 = .ok (.ireturn, 1) := by decide +kernel
theorem dX0_endTurn_58 : decode cX0_endTurn 58 = .ok (.aload_n 0, 1) := by decide +kernel
theorem dX0_endTurn_59 : decode cX0_endTurn 59 = .ok (.aload_n 0, 1) := by decide +kernel
theorem dX0_endTurn_60 : decode cX0_endTurn 60 = .ok (.getfield 43, 3) := by decide +kernel
theorem dX0_endTurn_63 : decode cX0_endTurn 63 = .ok (.iconst 1, 1) := by decide +kernel
theorem dX0_endTurn_64 : decode cX0_endTurn 64 = .ok (.iadd, 1) := by decide +kernel
theorem dX0_endTurn_65 : decode cX0_endTurn 65 = .ok (.aload_n 0, 1) := by decide +kernel
theorem dX0_endTurn_66 : decode cX0_endTurn 66 = .ok (.getfield 40, 3) := by decide +kernel
theorem dX0_endTurn_69 : decode cX0_endTurn 69 = .ok (.if_icmp .ge 12, 3) := by decide +kernel
theorem dX0_endTurn_72 : decode cX0_endTurn 72 = .ok (.aload_n 0, 1) := by decide +kernel
theorem dX0_endTurn_73 : decode cX0_endTurn 73 = .ok (.getfield 43, 3) := by decide +kernel
theorem dX0_endTurn_76 : decode cX0_endTurn 76 = .ok (.iconst 1, 1) := by decide +kernel
theorem dX0_endTurn_77 : decode cX0_endTurn 77 = .ok (.iadd, 1) := by decide +kernel
theorem dX0_endTurn_78 : decode cX0_endTurn 78 = .ok (.goto 4, 3) := by decide +kernel
theorem dX0_endTurn_81 : decode cX0_endTurn 81 = .ok (.iconst 0, 1) := by decide +kernel
theorem dX0_endTurn_82 : decode cX0_endTurn 82 = .ok (.putfield 43, 3) := by decide +kernel
theorem dX0_endTurn_85 : decode cX0_endTurn 85 = .ok (.bipush 10, 2) := by decide +kernel
theorem dX0_endTurn_87 : decode cX0_endTurn 87 = .ok (.ireturn, 1) := by decide +kernel
theorem dX0_ageHand_0 : decode cX0_ageHand 0 = .ok (.aload_n 0, 1) := by decide +kernel
theorem dX0_ageHand_1 : decode cX0_ageHand 1 = .ok (.iload_n 1, 1) := by decide +kernel
theorem dX0_ageHand_2 : decode cX0_ageHand 2 = .ok (.invokevirtual 92, 3) := by decide +kernel
theorem dX0_ageHand_5 : decode cX0_ageHand 5 = .ok (.istore_n 2, 1) := by decide +kernel
theorem dX0_ageHand_6 : decode cX0_ageHand 6 = .ok (.iconst 0, 1) := by decide +kernel
theorem dX0_ageHand_7 : decode cX0_ageHand 7 = .ok (.istore_n 3, 1) := by decide +kernel
theorem dX0_ageHand_8 : decode cX0_ageHand 8 = .ok (.iload_n 3, 1) := by decide +kernel
theorem dX0_ageHand_9 : decode cX0_ageHand 9 = .ok (.iload_n 2, 1) := by decide +kernel
theorem dX0_ageHand_10 : decode cX0_ageHand 10 = .ok (.if_icmp .ge 63, 3) := by decide +kernel
theorem dX0_ageHand_13 : decode cX0_ageHand 13 = .ok (.aload_n 0, 1) := by decide +kernel
theorem dX0_ageHand_14 : decode cX0_ageHand 14 = .ok (.getfield 20, 3) := by decide +kernel
theorem dX0_ageHand_17 : decode cX0_ageHand 17 = .ok (.iload_n 1, 1) := by decide +kernel
theorem dX0_ageHand_18 : decode cX0_ageHand 18 = .ok (.iload_n 3, 1) := by decide +kernel
theorem dX0_ageHand_19 : decode cX0_ageHand 19 = .ok (.invokevirtual 84, 3) := by decide +kernel
theorem dX0_ageHand_22 : decode cX0_ageHand 22 = .ok (.istore 4, 2) := by decide +kernel
theorem dX0_ageHand_24 : decode cX0_ageHand 24 = .ok (.aload_n 0, 1) := by decide +kernel
theorem dX0_ageHand_25 : decode cX0_ageHand 25 = .ok (.getfield 14, 3) := by decide +kernel
theorem dX0_ageHand_28 : decode cX0_ageHand 28 = .ok (.iload 4, 2) := by decide +kernel
theorem dX0_ageHand_30 : decode cX0_ageHand 30 = .ok (.iconst 4, 1) := by decide +kernel
theorem dX0_ageHand_31 : decode cX0_ageHand 31 = .ok (.iconst 1, 1) := by decide +kernel
theorem dX0_ageHand_32 : decode cX0_ageHand 32 = .ok (.invokevirtual 95, 3) := by decide +kernel
theorem dX0_ageHand_35 : decode cX0_ageHand 35 = .ok (.aload_n 0, 1) := by decide +kernel
theorem dX0_ageHand_36 : decode cX0_ageHand 36 = .ok (.getfield 32, 3) := by decide +kernel
theorem dX0_ageHand_39 : decode cX0_ageHand 39 = .ok (.ifCond .le 28, 3) := by decide +kernel
theorem dX0_ageHand_42 : decode cX0_ageHand 42 = .ok (.aload_n 0, 1) := by decide +kernel
theorem dX0_ageHand_43 : decode cX0_ageHand 43 = .ok (.getfield 14, 3) := by decide +kernel
theorem dX0_ageHand_46 : decode cX0_ageHand 46 = .ok (.iload 4, 2) := by decide +kernel
theorem dX0_ageHand_48 : decode cX0_ageHand 48 = .ok (.iconst 4, 1) := by decide +kernel
theorem dX0_ageHand_49 : decode cX0_ageHand 49 = .ok (.invokevirtual 84, 3) := by decide +kernel
theorem dX0_ageHand_52 : decode cX0_ageHand 52 = .ok (.aload_n 0, 1) := by decide +kernel
theorem dX0_ageHand_53 : decode cX0_ageHand 53 = .ok (.getfield 32, 3) := by decide +kernel
theorem dX0_ageHand_56 : decode cX0_ageHand 56 = .ok (.irem, 1) := by decide +kernel
theorem dX0_ageHand_57 : decode cX0_ageHand 57 = .ok (.ifCond .ne 10, 3) := by decide +kernel
theorem dX0_ageHand_60 : decode cX0_ageHand 60 = .ok (.aload_n 0, 1) := by decide +kernel
theorem dX0_ageHand_61 : decode cX0_ageHand 61 = .ok (.iload 4, 2) := by decide +kernel
theorem dX0_ageHand_63 : decode cX0_ageHand 63 = .ok (.iload_n 1, 1) := by decide +kernel
theorem dX0_ageHand_64 : decode cX0_ageHand 64 = .ok (.invokevirtual 130, 3) := by decide +kernel
theorem dX0_ageHand_67 : decode cX0_ageHand 67 = .ok (.iinc 3 1, 3) := by decide +kernel
theorem dX0_ageHand_70 : decode cX0_ageHand 70 = .ok (.goto (-62), 3) := by decide +kernel
theorem dX0_ageHand_73 : decode cX0_ageHand 73 = .ok (.return_, 1) := by decide +kernel
theorem dX0_rust_0 : decode cX0_rust 0 = .ok (.aload_n 0, 1) := by decide +kernel
theorem dX0_rust_1 : decode cX0_rust 1 = .ok (.getfield 14, 3) := by decide +kernel
theorem dX0_rust_4 : decode cX0_rust 4 = .ok (.iload_n 1, 1) := by decide +kernel
theorem dX0_rust_5 : decode cX0_rust 5 = .ok (.iconst 0, 1) := by decide +kernel
theorem dX0_rust_6 : decode cX0_rust 6 = .ok (.invokevirtual 84, 3) := by decide +kernel
theorem dX0_rust_9 : decode cX0_rust 9 = .ok (.aload_n 0, 1) := by decide +kernel
theorem dX0_rust_10 : decode cX0_rust 10 = .ok (.getfield 14, 3) := by decide +kernel
theorem dX0_rust_13 : decode cX0_rust 13 = .ok (.iload_n 1, 1) := by decide +kernel
theorem dX0_rust_14 : decode cX0_rust 14 = .ok (.iconst 1, 1) := by decide +kernel
theorem dX0_rust_15 : decode cX0_rust 15 = .ok (.invokevirtual 84, 3) := by decide +kernel
theorem dX0_rust_18 : decode cX0_rust 18 = .ok (.if_icmp .lt 7, 3) := by decide +kernel
theorem dX0_rust_21 : decode cX0_rust 21 = .ok (.iconst 0, 1) := by decide +kernel
theorem dX0_rust_22 : decode cX0_rust 22 = .ok (.goto 4, 3) := by decide +kernel
theorem dX0_rust_25 : decode cX0_rust 25 = .ok (.iconst 1, 1) := by decide +kernel
theorem dX0_rust_26 : decode cX0_rust 26 = .ok (.istore_n 3, 1) := by decide +kernel
theorem dX0_rust_27 : decode cX0_rust 27 = .ok (.aload_n 0, 1) := by decide +kernel
theorem dX0_rust_28 : decode cX0_rust 28 = .ok (.getfield 14, 3) := by decide +kernel
theorem dX0_rust_31 : decode cX0_rust 31 = .ok (.iload_n 1, 1) := by decide +kernel
theorem dX0_rust_32 : decode cX0_rust 32 = .ok (.iload_n 3, 1) := by decide +kernel
theorem dX0_rust_33 : decode cX0_rust 33 = .ok (.invokevirtual 84, 3) := by decide +kernel
theorem dX0_rust_36 : decode cX0_rust 36 = .ok (.ifCond .le 34, 3) := by decide +kernel
theorem dX0_rust_39 : decode cX0_rust 39 = .ok (.aload_n 0, 1) := by decide +kernel
theorem dX0_rust_40 : decode cX0_rust 40 = .ok (.getfield 14, 3) := by decide +kernel
theorem dX0_rust_43 : decode cX0_rust 43 = .ok (.iload_n 1, 1) := by decide +kernel
theorem dX0_rust_44 : decode cX0_rust 44 = .ok (.iload_n 3, 1) := by decide +kernel
theorem dX0_rust_45 : decode cX0_rust 45 = .ok (.iconst (-1), 1) := by decide +kernel
theorem dX0_rust_46 : decode cX0_rust 46 = .ok (.invokevirtual 95, 3) := by decide +kernel
theorem dX0_rust_49 : decode cX0_rust 49 = .ok (.aload_n 0, 1) := by decide +kernel
theorem dX0_rust_50 : decode cX0_rust 50 = .ok (.getfield 14, 3) := by decide +kernel
theorem dX0_rust_53 : decode cX0_rust 53 = .ok (.iload_n 1, 1) := by decide +kernel
theorem dX0_rust_54 : decode cX0_rust 54 = .ok (.bipush 6, 2) := by decide +kernel
theorem dX0_rust_56 : decode cX0_rust 56 = .ok (.iconst 1, 1) := by decide +kernel
theorem dX0_rust_57 : decode cX0_rust 57 = .ok (.invokevirtual 95, 3) := by decide +kernel
theorem dX0_rust_60 : decode cX0_rust 60 = .ok (.aload_n 0, 1) := by decide +kernel
theorem dX0_rust_61 : decode cX0_rust 61 = .ok (.getfield 23, 3) := by decide +kernel
theorem dX0_rust_64 : decode cX0_rust 64 = .ok (.iload_n 2, 1) := by decide +kernel
theorem dX0_rust_65 : decode cX0_rust 65 = .ok (.iconst 1, 1) := by decide +kernel
theorem dX0_rust_66 : decode cX0_rust 66 = .ok (.iconst 1, 1) := by decide +kernel
theorem dX0_rust_67 : decode cX0_rust 67 = .ok (.invokevirtual 95, 3) := by decide +kernel
theorem dX0_rust_70 : decode cX0_rust 70 = .ok (.return_, 1) := by decide +kernel
theorem dX0_isOver_0 : decode cX0_isOver 0 = .ok (.aload_n 0, 1) := by decide +kernel
theorem dX0_isOver_1 : decode cX0_isOver 1 = .ok (.getfield 43, 3) := by decide +kernel
theorem dX0_isOver_4 : decode cX0_isOver 4 = .ok (.iconst (-1), 1) := by decide +kernel
theorem dX0_isOver_5 : decode cX0_isOver 5 = .ok (.if_icmp .ne 7, 3) := by decide +kernel
theorem dX0_isOver_8 : decode cX0_isOver 8 = .ok (.iconst 1, 1) := by decide +kernel
theorem dX0_isOver_9 : decode cX0_isOver 9 = .ok (.goto 4, 3) := by decide +kernel
theorem dX0_isOver_12 : decode cX0_isOver 12 = .ok (.iconst 0, 1) := by decide +kernel
theorem dX0_isOver_13 : decode cX0_isOver 13 = .ok (.ireturn, 1) := by decide +kernel
theorem dX0_hasPlayer_0 : decode cX0_hasPlayer 0 = .ok (.iload_n 1, 1) := by decide +kernel
theorem dX0_hasPlayer_1 : decode cX0_hasPlayer 1 = .ok (.ifCond .lt 15, 3) := by decide +kernel
theorem dX0_hasPlayer_4 : decode cX0_hasPlayer 4 = .ok (.iload_n 1, 1) := by decide +kernel
theorem dX0_hasPlayer_5 : decode cX0_hasPlayer 5 = .ok (.aload_n 0, 1) := by decide +kernel
theorem dX0_hasPlayer_6 : decode cX0_hasPlayer 6 = .ok (.getfield 40, 3) := by decide +kernel
theorem dX0_hasPlayer_9 : decode cX0_hasPlayer 9 = .ok (.if_icmp .ge 7, 3) := by decide +kernel
theorem dX0_hasPlayer_12 : decode cX0_hasPlayer 12 = .ok (.iconst 1, 1) := by decide +kernel
theorem dX0_hasPlayer_13 : decode cX0_hasPlayer 13 = .ok (.goto 4, 3) := by decide +kernel
theorem dX0_hasPlayer_16 : decode cX0_hasPlayer 16 = .ok (.iconst 0, 1) := by decide +kernel
theorem dX0_hasPlayer_17 : decode cX0_hasPlayer 17 = .ok (.ireturn, 1) := by decide +kernel
theorem dX0_heldBy_0 : decode cX0_heldBy 0 = .ok (.aload_n 0, 1) := by decide +kernel
theorem dX0_heldBy_1 : decode cX0_heldBy 1 = .ok (.getfield 23, 3) := by decide +kernel
theorem dX0_heldBy_4 : decode cX0_heldBy 4 = .ok (.iload_n 1, 1) := by decide +kernel
theorem dX0_heldBy_5 : decode cX0_heldBy 5 = .ok (.iconst 0, 1) := by decide +kernel
theorem dX0_heldBy_6 : decode cX0_heldBy 6 = .ok (.invokevirtual 84, 3) := by decide +kernel
theorem dX0_heldBy_9 : decode cX0_heldBy 9 = .ok (.ireturn, 1) := by decide +kernel
theorem dX0_holdsPlace_0 : decode cX0_holdsPlace 0 = .ok (.iload_n 2, 1) := by decide +kernel
theorem dX0_holdsPlace_1 : decode cX0_holdsPlace 1 = .ok (.ifCond .lt 16, 3) := by decide +kernel
theorem dX0_holdsPlace_4 : decode cX0_holdsPlace 4 = .ok (.iload_n 2, 1) := by decide +kernel
theorem dX0_holdsPlace_5 : decode cX0_holdsPlace 5 = .ok (.aload_n 0, 1) := by decide +kernel
theorem dX0_holdsPlace_6 : decode cX0_holdsPlace 6 = .ok (.iload_n 1, 1) := by decide +kernel
theorem dX0_holdsPlace_7 : decode cX0_holdsPlace 7 = .ok (.invokevirtual 92, 3) := by decide +kernel
theorem dX0_holdsPlace_10 : decode cX0_holdsPlace 10 = .ok (.if_icmp .ge 7, 3) := by decide +kernel
theorem dX0_holdsPlace_13 : decode cX0_holdsPlace 13 = .ok (.iconst 1, 1) := by decide +kernel
theorem dX0_holdsPlace_14 : decode cX0_holdsPlace 14 = .ok (.goto 4, 3) := by decide +kernel
theorem dX0_holdsPlace_17 : decode cX0_holdsPlace 17 = .ok (.iconst 0, 1) := by decide +kernel
theorem dX0_holdsPlace_18 : decode cX0_holdsPlace 18 = .ok (.ireturn, 1) := by decide +kernel
theorem dX0_stockSize_0 : decode cX0_stockSize 0 = .ok (.bipush 28, 2) := by decide +kernel
theorem dX0_stockSize_2 : decode cX0_stockSize 2 = .ok (.aload_n 0, 1) := by decide +kernel
theorem dX0_stockSize_3 : decode cX0_stockSize 3 = .ok (.getfield 46, 3) := by decide +kernel
theorem dX0_stockSize_6 : decode cX0_stockSize 6 = .ok (.isub, 1) := by decide +kernel
theorem dX0_stockSize_7 : decode cX0_stockSize 7 = .ok (.ireturn, 1) := by decide +kernel
theorem dX0_stockTile_0 : decode cX0_stockTile 0 = .ok (.aload_n 0, 1) := by decide +kernel
theorem dX0_stockTile_1 : decode cX0_stockTile 1 = .ok (.getfield 29, 3) := by decide +kernel
theorem dX0_stockTile_4 : decode cX0_stockTile 4 = .ok (.iconst 0, 1) := by decide +kernel
theorem dX0_stockTile_5 : decode cX0_stockTile 5 = .ok (.aload_n 0, 1) := by decide +kernel
theorem dX0_stockTile_6 : decode cX0_stockTile 6 = .ok (.getfield 46, 3) := by decide +kernel
theorem dX0_stockTile_9 : decode cX0_stockTile 9 = .ok (.iload_n 1, 1) := by decide +kernel
theorem dX0_stockTile_10 : decode cX0_stockTile 10 = .ok (.iadd, 1) := by decide +kernel
theorem dX0_stockTile_11 : decode cX0_stockTile 11 = .ok (.invokevirtual 84, 3) := by decide +kernel
theorem dX0_stockTile_14 : decode cX0_stockTile 14 = .ok (.ireturn, 1) := by decide +kernel
theorem dX0_numberOf_0 : decode cX0_numberOf 0 = .ok (.iload_n 1, 1) := by decide +kernel
theorem dX0_numberOf_1 : decode cX0_numberOf 1 = .ok (.tableswitch 123 0 11 #[63, 68, 73, 78, 84, 90, 95, 100, 106, 111, 116, 121], 63) := by decide +kernel
theorem dX0_numberOf_64 : decode cX0_numberOf 64 = .ok (.aload_n 0, 1) := by decide +kernel
theorem dX0_numberOf_65 : decode cX0_numberOf 65 = .ok (.getfield 40, 3) := by decide +kernel
theorem dX0_numberOf_68 : decode cX0_numberOf 68 = .ok (.ireturn, 1) := by decide +kernel
theorem dX0_numberOf_69 : decode cX0_numberOf 69 = .ok (.aload_n 0, 1) := by decide +kernel
theorem dX0_numberOf_70 : decode cX0_numberOf 70 = .ok (.getfield 43, 3) := by decide +kernel
theorem dX0_numberOf_73 : decode cX0_numberOf 73 = .ok (.ireturn, 1) := by decide +kernel
theorem dX0_numberOf_74 : decode cX0_numberOf 74 = .ok (.aload_n 0, 1) := by decide +kernel
theorem dX0_numberOf_75 : decode cX0_numberOf 75 = .ok (.invokevirtual 116, 3) := by decide +kernel
theorem dX0_numberOf_78 : decode cX0_numberOf 78 = .ok (.ireturn, 1) := by decide +kernel
theorem dX0_numberOf_79 : decode cX0_numberOf 79 = .ok (.aload_n 0, 1) := by decide +kernel
theorem dX0_numberOf_80 : decode cX0_numberOf 80 = .ok (.iconst 0, 1) := by decide +kernel
theorem dX0_numberOf_81 : decode cX0_numberOf 81 = .ok (.invokevirtual 133, 3) := by decide +kernel
theorem dX0_numberOf_84 : decode cX0_numberOf 84 = .ok (.ireturn, 1) := by decide +kernel
theorem dX0_numberOf_85 : decode cX0_numberOf 85 = .ok (.aload_n 0, 1) := by decide +kernel
theorem dX0_numberOf_86 : decode cX0_numberOf 86 = .ok (.iconst 2, 1) := by decide +kernel
theorem dX0_numberOf_87 : decode cX0_numberOf 87 = .ok (.invokevirtual 133, 3) := by decide +kernel
theorem dX0_numberOf_90 : decode cX0_numberOf 90 = .ok (.ireturn, 1) := by decide +kernel
theorem dX0_numberOf_91 : decode cX0_numberOf 91 = .ok (.aload_n 0, 1) := by decide +kernel
theorem dX0_numberOf_92 : decode cX0_numberOf 92 = .ok (.getfield 49, 3) := by decide +kernel
theorem dX0_numberOf_95 : decode cX0_numberOf 95 = .ok (.ireturn, 1) := by decide +kernel
theorem dX0_numberOf_96 : decode cX0_numberOf 96 = .ok (.aload_n 0, 1) := by decide +kernel
theorem dX0_numberOf_97 : decode cX0_numberOf 97 = .ok (.getfield 52, 3) := by decide +kernel
theorem dX0_numberOf_100 : decode cX0_numberOf 100 = .ok (.ireturn, 1) := by decide +kernel
theorem dX0_numberOf_101 : decode cX0_numberOf 101 = .ok (.aload_n 0, 1) := by decide +kernel
theorem dX0_numberOf_102 : decode cX0_numberOf 102 = .ok (.iconst 1, 1) := by decide +kernel
theorem dX0_numberOf_103 : decode cX0_numberOf 103 = .ok (.invokevirtual 133, 3) := by decide +kernel
theorem dX0_numberOf_106 : decode cX0_numberOf 106 = .ok (.ireturn, 1) := by decide +kernel
theorem dX0_numberOf_107 : decode cX0_numberOf 107 = .ok (.aload_n 0, 1) := by decide +kernel
theorem dX0_numberOf_108 : decode cX0_numberOf 108 = .ok (.invokevirtual 136, 3) := by decide +kernel
theorem dX0_numberOf_111 : decode cX0_numberOf 111 = .ok (.ireturn, 1) := by decide +kernel
theorem dX0_numberOf_112 : decode cX0_numberOf 112 = .ok (.aload_n 0, 1) := by decide +kernel
theorem dX0_numberOf_113 : decode cX0_numberOf 113 = .ok (.getfield 55, 3) := by decide +kernel
theorem dX0_numberOf_116 : decode cX0_numberOf 116 = .ok (.ireturn, 1) := by decide +kernel
theorem dX0_numberOf_117 : decode cX0_numberOf 117 = .ok (.aload_n 0, 1) := by decide +kernel
theorem dX0_numberOf_118 : decode cX0_numberOf 118 = .ok (.getfield 58, 3) := by decide +kernel
theorem dX0_numberOf_121 : decode cX0_numberOf 121 = .ok (.ireturn, 1) := by decide +kernel
theorem dX0_numberOf_122 : decode cX0_numberOf 122 = .ok (.iload_n 2, 1) := by decide +kernel
theorem dX0_numberOf_123 : decode cX0_numberOf 123 = .ok (.ireturn, 1) := by decide +kernel
theorem dX0_numberOf_124 : decode cX0_numberOf 124 = .ok (.iconst (-1), 1) := by decide +kernel
theorem dX0_numberOf_125 : decode cX0_numberOf 125 = .ok (.ireturn, 1) := by decide +kernel
theorem dX0_playerProperty_0 : decode cX0_playerProperty 0 = .ok (.iload_n 2, 1) := by decide +kernel
theorem dX0_playerProperty_1 : decode cX0_playerProperty 1 = .ok (.tableswitch 97 0 6 #[43, 49, 55, 65, 71, 81, 91], 43) := by decide +kernel
theorem dX0_playerProperty_44 : decode cX0_playerProperty 44 = .ok (.aload_n 0, 1) := by decide +kernel
theorem dX0_playerProperty_45 : decode cX0_playerProperty 45 = .ok (.iload_n 1, 1) := by decide +kernel
theorem dX0_playerProperty_46 : decode cX0_playerProperty 46 = .ok (.invokevirtual 92, 3) := by decide +kernel
theorem dX0_playerProperty_49 : decode cX0_playerProperty 49 = .ok (.ireturn, 1) := by decide +kernel
theorem dX0_playerProperty_50 : decode cX0_playerProperty 50 = .ok (.aload_n 0, 1) := by decide +kernel
theorem dX0_playerProperty_51 : decode cX0_playerProperty 51 = .ok (.iload_n 1, 1) := by decide +kernel
theorem dX0_playerProperty_52 : decode cX0_playerProperty 52 = .ok (.invokevirtual 139, 3) := by decide +kernel
theorem dX0_playerProperty_55 : decode cX0_playerProperty 55 = .ok (.ireturn, 1) := by decide +kernel
theorem dX0_playerProperty_56 : decode cX0_playerProperty 56 = .ok (.aload_n 0, 1) := by decide +kernel
theorem dX0_playerProperty_57 : decode cX0_playerProperty 57 = .ok (.getfield 23, 3) := by decide +kernel
theorem dX0_playerProperty_60 : decode cX0_playerProperty 60 = .ok (.iload_n 1, 1) := by decide +kernel
theorem dX0_playerProperty_61 : decode cX0_playerProperty 61 = .ok (.iconst 1, 1) := by decide +kernel
theorem dX0_playerProperty_62 : decode cX0_playerProperty 62 = .ok (.invokevirtual 84, 3) := by decide +kernel
theorem dX0_playerProperty_65 : decode cX0_playerProperty 65 = .ok (.ireturn, 1) := by decide +kernel
theorem dX0_playerProperty_66 : decode cX0_playerProperty 66 = .ok (.aload_n 0, 1) := by decide +kernel
theorem dX0_playerProperty_67 : decode cX0_playerProperty 67 = .ok (.iload_n 1, 1) := by decide +kernel
theorem dX0_playerProperty_68 : decode cX0_playerProperty 68 = .ok (.invokevirtual 142, 3) := by decide +kernel
theorem dX0_playerProperty_71 : decode cX0_playerProperty 71 = .ok (.ireturn, 1) := by decide +kernel
theorem dX0_playerProperty_72 : decode cX0_playerProperty 72 = .ok (.aload_n 0, 1) := by decide +kernel
theorem dX0_playerProperty_73 : decode cX0_playerProperty 73 = .ok (.getfield 23, 3) := by decide +kernel
theorem dX0_playerProperty_76 : decode cX0_playerProperty 76 = .ok (.iload_n 1, 1) := by decide +kernel
theorem dX0_playerProperty_77 : decode cX0_playerProperty 77 = .ok (.iconst 2, 1) := by decide +kernel
theorem dX0_playerProperty_78 : decode cX0_playerProperty 78 = .ok (.invokevirtual 84, 3) := by decide +kernel
theorem dX0_playerProperty_81 : decode cX0_playerProperty 81 = .ok (.ireturn, 1) := by decide +kernel
theorem dX0_playerProperty_82 : decode cX0_playerProperty 82 = .ok (.aload_n 0, 1) := by decide +kernel
theorem dX0_playerProperty_83 : decode cX0_playerProperty 83 = .ok (.getfield 23, 3) := by decide +kernel
theorem dX0_playerProperty_86 : decode cX0_playerProperty 86 = .ok (.iload_n 1, 1) := by decide +kernel
theorem dX0_playerProperty_87 : decode cX0_playerProperty 87 = .ok (.iconst 3, 1) := by decide +kernel
theorem dX0_playerProperty_88 : decode cX0_playerProperty 88 = .ok (.invokevirtual 84, 3) := by decide +kernel
theorem dX0_playerProperty_91 : decode cX0_playerProperty 91 = .ok (.ireturn, 1) := by decide +kernel
theorem dX0_playerProperty_92 : decode cX0_playerProperty 92 = .ok (.aload_n 0, 1) := by decide +kernel
theorem dX0_playerProperty_93 : decode cX0_playerProperty 93 = .ok (.iload_n 1, 1) := by decide +kernel
theorem dX0_playerProperty_94 : decode cX0_playerProperty 94 = .ok (.invokevirtual 145, 3) := by decide +kernel
theorem dX0_playerProperty_97 : decode cX0_playerProperty 97 = .ok (.ireturn, 1) := by decide +kernel
theorem dX0_playerProperty_98 : decode cX0_playerProperty 98 = .ok (.iconst (-1), 1) := by decide +kernel
theorem dX0_playerProperty_99 : decode cX0_playerProperty 99 = .ok (.ireturn, 1) := by decide +kernel
theorem dX0_tallied_0 : decode cX0_tallied 0 = .ok (.iconst 0, 1) := by decide +kernel
theorem dX0_tallied_1 : decode cX0_tallied 1 = .ok (.istore_n 2, 1) := by decide +kernel
theorem dX0_tallied_2 : decode cX0_tallied 2 = .ok (.iconst 0, 1) := by decide +kernel
theorem dX0_tallied_3 : decode cX0_tallied 3 = .ok (.istore_n 3, 1) := by decide +kernel
theorem dX0_tallied_4 : decode cX0_tallied 4 = .ok (.iload_n 3, 1) := by decide +kernel
theorem dX0_tallied_5 : decode cX0_tallied 5 = .ok (.aload_n 0, 1) := by decide +kernel
theorem dX0_tallied_6 : decode cX0_tallied 6 = .ok (.getfield 40, 3) := by decide +kernel
theorem dX0_tallied_9 : decode cX0_tallied 9 = .ok (.if_icmp .ge 21, 3) := by decide +kernel
theorem dX0_tallied_12 : decode cX0_tallied 12 = .ok (.iload_n 2, 1) := by decide +kernel
theorem dX0_tallied_13 : decode cX0_tallied 13 = .ok (.aload_n 0, 1) := by decide +kernel
theorem dX0_tallied_14 : decode cX0_tallied 14 = .ok (.getfield 23, 3) := by decide +kernel
theorem dX0_tallied_17 : decode cX0_tallied 17 = .ok (.iload_n 3, 1) := by decide +kernel
theorem dX0_tallied_18 : decode cX0_tallied 18 = .ok (.iload_n 1, 1) := by decide +kernel
theorem dX0_tallied_19 : decode cX0_tallied 19 = .ok (.invokevirtual 84, 3) := by decide +kernel
theorem dX0_tallied_22 : decode cX0_tallied 22 = .ok (.iadd, 1) := by decide +kernel
theorem dX0_tallied_23 : decode cX0_tallied 23 = .ok (.istore_n 2, 1) := by decide +kernel
theorem dX0_tallied_24 : decode cX0_tallied 24 = .ok (.iinc 3 1, 3) := by decide +kernel
theorem dX0_tallied_27 : decode cX0_tallied 27 = .ok (.goto (-23), 3) := by decide +kernel
theorem dX0_tallied_30 : decode cX0_tallied 30 = .ok (.iload_n 2, 1) := by decide +kernel
theorem dX0_tallied_31 : decode cX0_tallied 31 = .ok (.ireturn, 1) := by decide +kernel
theorem dX0_gradesOf_0 : decode cX0_gradesOf 0 = .ok (.aload_n 0, 1) := by decide +kernel
theorem dX0_gradesOf_1 : decode cX0_gradesOf 1 = .ok (.getfield 14, 3) := by decide +kernel
theorem dX0_gradesOf_4 : decode cX0_gradesOf 4 = .ok (.iload_n 1, 1) := by decide +kernel
theorem dX0_gradesOf_5 : decode cX0_gradesOf 5 = .ok (.iconst 0, 1) := by decide +kernel
theorem dX0_gradesOf_6 : decode cX0_gradesOf 6 = .ok (.invokevirtual 84, 3) := by decide +kernel
theorem dX0_gradesOf_9 : decode cX0_gradesOf 9 = .ok (.aload_n 0, 1) := by decide +kernel
theorem dX0_gradesOf_10 : decode cX0_gradesOf 10 = .ok (.getfield 14, 3) := by decide +kernel
theorem dX0_gradesOf_13 : decode cX0_gradesOf 13 = .ok (.iload_n 1, 1) := by decide +kernel
theorem dX0_gradesOf_14 : decode cX0_gradesOf 14 = .ok (.iconst 1, 1) := by decide +kernel
theorem dX0_gradesOf_15 : decode cX0_gradesOf 15 = .ok (.invokevirtual 84, 3) := by decide +kernel
theorem dX0_gradesOf_18 : decode cX0_gradesOf 18 = .ok (.iadd, 1) := by decide +kernel
theorem dX0_gradesOf_19 : decode cX0_gradesOf 19 = .ok (.ireturn, 1) := by decide +kernel
theorem dX0_gradesHeld_0 : decode cX0_gradesHeld 0 = .ok (.aload_n 0, 1) := by decide +kernel
theorem dX0_gradesHeld_1 : decode cX0_gradesHeld 1 = .ok (.iload_n 1, 1) := by decide +kernel
theorem dX0_gradesHeld_2 : decode cX0_gradesHeld 2 = .ok (.invokevirtual 92, 3) := by decide +kernel
theorem dX0_gradesHeld_5 : decode cX0_gradesHeld 5 = .ok (.istore_n 2, 1) := by decide +kernel
theorem dX0_gradesHeld_6 : decode cX0_gradesHeld 6 = .ok (.iconst 0, 1) := by decide +kernel
theorem dX0_gradesHeld_7 : decode cX0_gradesHeld 7 = .ok (.istore_n 3, 1) := by decide +kernel
theorem dX0_gradesHeld_8 : decode cX0_gradesHeld 8 = .ok (.iconst 0, 1) := by decide +kernel
theorem dX0_gradesHeld_9 : decode cX0_gradesHeld 9 = .ok (.istore 4, 2) := by decide +kernel
theorem dX0_gradesHeld_11 : decode cX0_gradesHeld 11 = .ok (.iload 4, 2) := by decide +kernel
theorem dX0_gradesHeld_13 : decode cX0_gradesHeld 13 = .ok (.iload_n 2, 1) := by decide +kernel
theorem dX0_gradesHeld_14 : decode cX0_gradesHeld 14 = .ok (.if_icmp .ge 26, 3) := by decide +kernel
theorem dX0_gradesHeld_17 : decode cX0_gradesHeld 17 = .ok (.iload_n 3, 1) := by decide +kernel
theorem dX0_gradesHeld_18 : decode cX0_gradesHeld 18 = .ok (.aload_n 0, 1) := by decide +kernel
theorem dX0_gradesHeld_19 : decode cX0_gradesHeld 19 = .ok (.aload_n 0, 1) := by decide +kernel
theorem dX0_gradesHeld_20 : decode cX0_gradesHeld 20 = .ok (.getfield 20, 3) := by decide +kernel
theorem dX0_gradesHeld_23 : decode cX0_gradesHeld 23 = .ok (.iload_n 1, 1) := by decide +kernel
theorem dX0_gradesHeld_24 : decode cX0_gradesHeld 24 = .ok (.iload 4, 2) := by decide +kernel
theorem dX0_gradesHeld_26 : decode cX0_gradesHeld 26 = .ok (.invokevirtual 84, 3) := by decide +kernel
theorem dX0_gradesHeld_29 : decode cX0_gradesHeld 29 = .ok (.invokevirtual 148, 3) := by decide +kernel
theorem dX0_gradesHeld_32 : decode cX0_gradesHeld 32 = .ok (.iadd, 1) := by decide +kernel
theorem dX0_gradesHeld_33 : decode cX0_gradesHeld 33 = .ok (.istore_n 3, 1) := by decide +kernel
theorem dX0_gradesHeld_34 : decode cX0_gradesHeld 34 = .ok (.iinc 4 1, 3) := by decide +kernel
theorem dX0_gradesHeld_37 : decode cX0_gradesHeld 37 = .ok (.goto (-26), 3) := by decide +kernel
theorem dX0_gradesHeld_40 : decode cX0_gradesHeld 40 = .ok (.iload_n 3, 1) := by decide +kernel
theorem dX0_gradesHeld_41 : decode cX0_gradesHeld 41 = .ok (.ireturn, 1) := by decide +kernel
theorem dX0_sumOf_0 : decode cX0_sumOf 0 = .ok (.aload_n 0, 1) := by decide +kernel
theorem dX0_sumOf_1 : decode cX0_sumOf 1 = .ok (.iload_n 1, 1) := by decide +kernel
theorem dX0_sumOf_2 : decode cX0_sumOf 2 = .ok (.invokevirtual 139, 3) := by decide +kernel
theorem dX0_sumOf_5 : decode cX0_sumOf 5 = .ok (.aload_n 0, 1) := by decide +kernel
theorem dX0_sumOf_6 : decode cX0_sumOf 6 = .ok (.getfield 23, 3) := by decide +kernel
theorem dX0_sumOf_9 : decode cX0_sumOf 9 = .ok (.iload_n 1, 1) := by decide +kernel
theorem dX0_sumOf_10 : decode cX0_sumOf 10 = .ok (.iconst 1, 1) := by decide +kernel
theorem dX0_sumOf_11 : decode cX0_sumOf 11 = .ok (.invokevirtual 84, 3) := by decide +kernel
theorem dX0_sumOf_14 : decode cX0_sumOf 14 = .ok (.iadd, 1) := by decide +kernel
theorem dX0_sumOf_15 : decode cX0_sumOf 15 = .ok (.ireturn, 1) := by decide +kernel
theorem dX0_winner_0 : decode cX0_winner 0 = .ok (.aload_n 0, 1) := by decide +kernel
theorem dX0_winner_1 : decode cX0_winner 1 = .ok (.invokevirtual 112, 3) := by decide +kernel
theorem dX0_winner_4 : decode cX0_winner 4 = .ok (.ifCond .ne 5, 3) := by decide +kernel
theorem dX0_winner_7 : decode cX0_winner 7 = .ok (.iconst (-1), 1) := by decide +kernel
theorem dX0_winner_8 : decode cX0_winner 8 = .ok (.ireturn, 1) := by decide +kernel
theorem dX0_winner_9 : decode cX0_winner 9 = .ok (.iconst 0, 1) := by decide +kernel
theorem dX0_winner_10 : decode cX0_winner 10 = .ok (.istore_n 1, 1) := by decide +kernel
theorem dX0_winner_11 : decode cX0_winner 11 = .ok (.iconst 1, 1) := by decide +kernel
theorem dX0_winner_12 : decode cX0_winner 12 = .ok (.istore_n 2, 1) := by decide +kernel
theorem dX0_winner_13 : decode cX0_winner 13 = .ok (.iload_n 2, 1) := by decide +kernel
theorem dX0_winner_14 : decode cX0_winner 14 = .ok (.aload_n 0, 1) := by decide +kernel
theorem dX0_winner_15 : decode cX0_winner 15 = .ok (.getfield 40, 3) := by decide +kernel
theorem dX0_winner_18 : decode cX0_winner 18 = .ok (.if_icmp .ge 24, 3) := by decide +kernel
theorem dX0_winner_21 : decode cX0_winner 21 = .ok (.aload_n 0, 1) := by decide +kernel
theorem dX0_winner_22 : decode cX0_winner 22 = .ok (.iload_n 2, 1) := by decide +kernel
theorem dX0_winner_23 : decode cX0_winner 23 = .ok (.invokevirtual 142, 3) := by decide +kernel
theorem dX0_winner_26 : decode cX0_winner 26 = .ok (.aload_n 0, 1) := by decide +kernel
theorem dX0_winner_27 : decode cX0_winner 27 = .ok (.iload_n 1, 1) := by decide +kernel
theorem dX0_winner_28 : decode cX0_winner 28 = .ok (.invokevirtual 142, 3) := by decide +kernel
theorem dX0_winner_31 : decode cX0_winner 31 = .ok (.if_icmp .ge 5, 3) := by decide +kernel
theorem dX0_winner_34 : decode cX0_winner 34 = .ok (.iload_n 2, 1) := by decide +kernel
theorem dX0_winner_35 : decode cX0_winner 35 = .ok (.istore_n 1, 1) := by decide +kernel
theorem dX0_winner_36 : decode cX0_winner 36 = .ok (.iinc 2 1, 3) := by decide +kernel
theorem dX0_winner_39 : decode cX0_winner 39 = .ok (.goto (-26), 3) := by decide +kernel
theorem dX0_winner_42 : decode cX0_winner 42 = .ok (.iload_n 1, 1) := by decide +kernel
theorem dX0_winner_43 : decode cX0_winner 43 = .ok (.ireturn, 1) := by decide +kernel
theorem dX0_endsOpenTo_0 : decode cX0_endsOpenTo 0 = .ok (.iconst 0, 1) := by decide +kernel
theorem dX0_endsOpenTo_1 : decode cX0_endsOpenTo 1 = .ok (.istore_n 2, 1) := by decide +kernel
theorem dX0_endsOpenTo_2 : decode cX0_endsOpenTo 2 = .ok (.iconst 0, 1) := by decide +kernel
theorem dX0_endsOpenTo_3 : decode cX0_endsOpenTo 3 = .ok (.istore_n 3, 1) := by decide +kernel
theorem dX0_endsOpenTo_4 : decode cX0_endsOpenTo 4 = .ok (.iload_n 3, 1) := by decide +kernel
theorem dX0_endsOpenTo_5 : decode cX0_endsOpenTo 5 = .ok (.iconst 3, 1) := by decide +kernel
theorem dX0_endsOpenTo_6 : decode cX0_endsOpenTo 6 = .ok (.if_icmp .ge 58, 3) := by decide +kernel
theorem dX0_endsOpenTo_9 : decode cX0_endsOpenTo 9 = .ok (.aload_n 0, 1) := by decide +kernel
theorem dX0_endsOpenTo_10 : decode cX0_endsOpenTo 10 = .ok (.getfield 26, 3) := by decide +kernel
theorem dX0_endsOpenTo_13 : decode cX0_endsOpenTo 13 = .ok (.iload_n 3, 1) := by decide +kernel
theorem dX0_endsOpenTo_14 : decode cX0_endsOpenTo 14 = .ok (.iconst 0, 1) := by decide +kernel
theorem dX0_endsOpenTo_15 : decode cX0_endsOpenTo 15 = .ok (.invokevirtual 84, 3) := by decide +kernel
theorem dX0_endsOpenTo_18 : decode cX0_endsOpenTo 18 = .ok (.ifCond .ne 7, 3) := by decide +kernel
theorem dX0_endsOpenTo_21 : decode cX0_endsOpenTo 21 = .ok (.iconst 1, 1) := by decide +kernel
theorem dX0_endsOpenTo_22 : decode cX0_endsOpenTo 22 = .ok (.goto 4, 3) := by decide +kernel
theorem dX0_endsOpenTo_25 : decode cX0_endsOpenTo 25 = .ok (.iconst 2, 1) := by decide +kernel
theorem dX0_endsOpenTo_26 : decode cX0_endsOpenTo 26 = .ok (.istore 4, 2) := by decide +kernel
theorem dX0_endsOpenTo_28 : decode cX0_endsOpenTo 28 = .ok (.iconst 0, 1) := by decide +kernel
theorem dX0_endsOpenTo_29 : decode cX0_endsOpenTo 29 = .ok (.istore 5, 2) := by decide +kernel
theorem dX0_endsOpenTo_31 : decode cX0_endsOpenTo 31 = .ok (.iload 5, 2) := by decide +kernel
theorem dX0_endsOpenTo_33 : decode cX0_endsOpenTo 33 = .ok (.iload 4, 2) := by decide +kernel
theorem dX0_endsOpenTo_35 : decode cX0_endsOpenTo 35 = .ok (.if_icmp .ge 23, 3) := by decide +kernel
theorem dX0_endsOpenTo_38 : decode cX0_endsOpenTo 38 = .ok (.aload_n 0, 1) := by decide +kernel
theorem dX0_endsOpenTo_39 : decode cX0_endsOpenTo 39 = .ok (.iload_n 1, 1) := by decide +kernel
theorem dX0_endsOpenTo_40 : decode cX0_endsOpenTo 40 = .ok (.iload_n 3, 1) := by decide +kernel
theorem dX0_endsOpenTo_41 : decode cX0_endsOpenTo 41 = .ok (.iload 5, 2) := by decide +kernel
theorem dX0_endsOpenTo_43 : decode cX0_endsOpenTo 43 = .ok (.invokevirtual 151, 3) := by decide +kernel
theorem dX0_endsOpenTo_46 : decode cX0_endsOpenTo 46 = .ok (.ifCond .eq 6, 3) := by decide +kernel
theorem dX0_endsOpenTo_49 : decode cX0_endsOpenTo 49 = .ok (.iinc 2 1, 3) := by decide +kernel
theorem dX0_endsOpenTo_52 : decode cX0_endsOpenTo 52 = .ok (.iinc 5 1, 3) := by decide +kernel
theorem dX0_endsOpenTo_55 : decode cX0_endsOpenTo 55 = .ok (.goto (-24), 3) := by decide +kernel
theorem dX0_endsOpenTo_58 : decode cX0_endsOpenTo 58 = .ok (.iinc 3 1, 3) := by decide +kernel
theorem dX0_endsOpenTo_61 : decode cX0_endsOpenTo 61 = .ok (.goto (-57), 3) := by decide +kernel
theorem dX0_endsOpenTo_64 : decode cX0_endsOpenTo 64 = .ok (.iload_n 2, 1) := by decide +kernel
theorem dX0_endsOpenTo_65 : decode cX0_endsOpenTo 65 = .ok (.ireturn, 1) := by decide +kernel
theorem dX0_canLayAt_0 : decode cX0_canLayAt 0 = .ok (.aload_n 0, 1) := by decide +kernel
theorem dX0_canLayAt_1 : decode cX0_canLayAt 1 = .ok (.iload_n 1, 1) := by decide +kernel
theorem dX0_canLayAt_2 : decode cX0_canLayAt 2 = .ok (.invokevirtual 92, 3) := by decide +kernel
theorem dX0_canLayAt_5 : decode cX0_canLayAt 5 = .ok (.istore 4, 2) := by decide +kernel
theorem dX0_canLayAt_7 : decode cX0_canLayAt 7 = .ok (.iconst 0, 1) := by decide +kernel
theorem dX0_canLayAt_8 : decode cX0_canLayAt 8 = .ok (.istore 5, 2) := by decide +kernel
theorem dX0_canLayAt_10 : decode cX0_canLayAt 10 = .ok (.iload 5, 2) := by decide +kernel
theorem dX0_canLayAt_12 : decode cX0_canLayAt 12 = .ok (.iload 4, 2) := by decide +kernel
theorem dX0_canLayAt_14 : decode cX0_canLayAt 14 = .ok (.if_icmp .ge 30, 3) := by decide +kernel
theorem dX0_canLayAt_17 : decode cX0_canLayAt 17 = .ok (.aload_n 0, 1) := by decide +kernel
theorem dX0_canLayAt_18 : decode cX0_canLayAt 18 = .ok (.aload_n 0, 1) := by decide +kernel
theorem dX0_canLayAt_19 : decode cX0_canLayAt 19 = .ok (.getfield 20, 3) := by decide +kernel
theorem dX0_canLayAt_22 : decode cX0_canLayAt 22 = .ok (.iload_n 1, 1) := by decide +kernel
theorem dX0_canLayAt_23 : decode cX0_canLayAt 23 = .ok (.iload 5, 2) := by decide +kernel
theorem dX0_canLayAt_25 : decode cX0_canLayAt 25 = .ok (.invokevirtual 84, 3) := by decide +kernel
theorem dX0_canLayAt_28 : decode cX0_canLayAt 28 = .ok (.iload_n 2, 1) := by decide +kernel
theorem dX0_canLayAt_29 : decode cX0_canLayAt 29 = .ok (.iload_n 3, 1) := by decide +kernel
theorem dX0_canLayAt_30 : decode cX0_canLayAt 30 = .ok (.invokevirtual 123, 3) := by decide +kernel
theorem dX0_canLayAt_33 : decode cX0_canLayAt 33 = .ok (.ifCond .eq 5, 3) := by decide +kernel
theorem dX0_canLayAt_36 : decode cX0_canLayAt 36 = .ok (.iconst 1, 1) := by decide +kernel
theorem dX0_canLayAt_37 : decode cX0_canLayAt 37 = .ok (.ireturn, 1) := by decide +kernel
theorem dX0_canLayAt_38 : decode cX0_canLayAt 38 = .ok (.iinc 5 1, 3) := by decide +kernel
theorem dX0_canLayAt_41 : decode cX0_canLayAt 41 = .ok (.goto (-31), 3) := by decide +kernel
theorem dX0_canLayAt_44 : decode cX0_canLayAt 44 = .ok (.iconst 0, 1) := by decide +kernel
theorem dX0_canLayAt_45 : decode cX0_canLayAt 45 = .ok (.ireturn, 1) := by decide +kernel
theorem dX0_fitsSomewhere_0 : decode cX0_fitsSomewhere 0 = .ok (.iconst 0, 1) := by decide +kernel
theorem dX0_fitsSomewhere_1 : decode cX0_fitsSomewhere 1 = .ok (.istore_n 2, 1) := by decide +kernel
theorem dX0_fitsSomewhere_2 : decode cX0_fitsSomewhere 2 = .ok (.iload_n 2, 1) := by decide +kernel
theorem dX0_fitsSomewhere_3 : decode cX0_fitsSomewhere 3 = .ok (.iconst 3, 1) := by decide +kernel
theorem dX0_fitsSomewhere_4 : decode cX0_fitsSomewhere 4 = .ok (.if_icmp .ge 31, 3) := by decide +kernel
theorem dX0_fitsSomewhere_7 : decode cX0_fitsSomewhere 7 = .ok (.aload_n 0, 1) := by decide +kernel
theorem dX0_fitsSomewhere_8 : decode cX0_fitsSomewhere 8 = .ok (.iload_n 1, 1) := by decide +kernel
theorem dX0_fitsSomewhere_9 : decode cX0_fitsSomewhere 9 = .ok (.iload_n 2, 1) := by decide +kernel
theorem dX0_fitsSomewhere_10 : decode cX0_fitsSomewhere 10 = .ok (.iconst 0, 1) := by decide +kernel
theorem dX0_fitsSomewhere_11 : decode cX0_fitsSomewhere 11 = .ok (.invokevirtual 123, 3) := by decide +kernel
theorem dX0_fitsSomewhere_14 : decode cX0_fitsSomewhere 14 = .ok (.ifCond .ne 13, 3) := by decide +kernel
theorem dX0_fitsSomewhere_17 : decode cX0_fitsSomewhere 17 = .ok (.aload_n 0, 1) := by decide +kernel
theorem dX0_fitsSomewhere_18 : decode cX0_fitsSomewhere 18 = .ok (.iload_n 1, 1) := by decide +kernel
theorem dX0_fitsSomewhere_19 : decode cX0_fitsSomewhere 19 = .ok (.iload_n 2, 1) := by decide +kernel
theorem dX0_fitsSomewhere_20 : decode cX0_fitsSomewhere 20 = .ok (.iconst 1, 1) := by decide +kernel
theorem dX0_fitsSomewhere_21 : decode cX0_fitsSomewhere 21 = .ok (.invokevirtual 123, 3) := by decide +kernel
theorem dX0_fitsSomewhere_24 : decode cX0_fitsSomewhere 24 = .ok (.ifCond .eq 5, 3) := by decide +kernel
theorem dX0_fitsSomewhere_27 : decode cX0_fitsSomewhere 27 = .ok (.iconst 1, 1) := by decide +kernel
theorem dX0_fitsSomewhere_28 : decode cX0_fitsSomewhere 28 = .ok (.ireturn, 1) := by decide +kernel
theorem dX0_fitsSomewhere_29 : decode cX0_fitsSomewhere 29 = .ok (.iinc 2 1, 3) := by decide +kernel
theorem dX0_fitsSomewhere_32 : decode cX0_fitsSomewhere 32 = .ok (.goto (-30), 3) := by decide +kernel
theorem dX0_fitsSomewhere_35 : decode cX0_fitsSomewhere 35 = .ok (.iconst 0, 1) := by decide +kernel
theorem dX0_fitsSomewhere_36 : decode cX0_fitsSomewhere 36 = .ok (.ireturn, 1) := by decide +kernel
theorem dX0_bestPlace_0 : decode cX0_bestPlace 0 = .ok (.aload_n 0, 1) := by decide +kernel
theorem dX0_bestPlace_1 : decode cX0_bestPlace 1 = .ok (.invokevirtual 112, 3) := by decide +kernel
theorem dX0_bestPlace_4 : decode cX0_bestPlace 4 = .ok (.ifCond .eq 5, 3) := by decide +kernel
theorem dX0_bestPlace_7 : decode cX0_bestPlace 7 = .ok (.iconst (-1), 1) := by decide +kernel
theorem dX0_bestPlace_8 : decode cX0_bestPlace 8 = .ok (.ireturn, 1) := by decide +kernel
theorem dX0_bestPlace_9 : decode cX0_bestPlace 9 = .ok (.aload_n 0, 1) := by decide +kernel
theorem dX0_bestPlace_10 : decode cX0_bestPlace 10 = .ok (.aload_n 0, 1) := by decide +kernel
theorem dX0_bestPlace_11 : decode cX0_bestPlace 11 = .ok (.getfield 43, 3) := by decide +kernel
theorem dX0_bestPlace_14 : decode cX0_bestPlace 14 = .ok (.invokevirtual 92, 3) := by decide +kernel
theorem dX0_bestPlace_17 : decode cX0_bestPlace 17 = .ok (.istore_n 1, 1) := by decide +kernel
theorem dX0_bestPlace_18 : decode cX0_bestPlace 18 = .ok (.iconst (-1), 1) := by decide +kernel
theorem dX0_bestPlace_19 : decode cX0_bestPlace 19 = .ok (.istore_n 2, 1) := by decide +kernel
theorem dX0_bestPlace_20 : decode cX0_bestPlace 20 = .ok (.iconst 0, 1) := by decide +kernel
theorem dX0_bestPlace_21 : decode cX0_bestPlace 21 = .ok (.istore_n 3, 1) := by decide +kernel
theorem dX0_bestPlace_22 : decode cX0_bestPlace 22 = .ok (.iload_n 3, 1) := by decide +kernel
theorem dX0_bestPlace_23 : decode cX0_bestPlace 23 = .ok (.iload_n 1, 1) := by decide +kernel
theorem dX0_bestPlace_24 : decode cX0_bestPlace 24 = .ok (.if_icmp .ge 44, 3) := by decide +kernel
theorem dX0_bestPlace_27 : decode cX0_bestPlace 27 = .ok (.aload_n 0, 1) := by decide +kernel
theorem dX0_bestPlace_28 : decode cX0_bestPlace 28 = .ok (.aload_n 0, 1) := by decide +kernel
theorem dX0_bestPlace_29 : decode cX0_bestPlace 29 = .ok (.getfield 20, 3) := by decide +kernel
theorem dX0_bestPlace_32 : decode cX0_bestPlace 32 = .ok (.aload_n 0, 1) := by decide +kernel
theorem dX0_bestPlace_33 : decode cX0_bestPlace 33 = .ok (.getfield 43, 3) := by decide +kernel
theorem dX0_bestPlace_36 : decode cX0_bestPlace 36 = .ok (.iload_n 3, 1) := by decide +kernel
theorem dX0_bestPlace_37 : decode cX0_bestPlace 37 = .ok (.invokevirtual 84, 3) := by decide +kernel
theorem dX0_bestPlace_40 : decode cX0_bestPlace 40 = .ok (.invokevirtual 154, 3) := by decide +kernel
theorem dX0_bestPlace_43 : decode cX0_bestPlace 43 = .ok (.ifCond .eq 19, 3) := by decide +kernel
theorem dX0_bestPlace_46 : decode cX0_bestPlace 46 = .ok (.iload_n 2, 1) := by decide +kernel
theorem dX0_bestPlace_47 : decode cX0_bestPlace 47 = .ok (.iconst (-1), 1) := by decide +kernel
theorem dX0_bestPlace_48 : decode cX0_bestPlace 48 = .ok (.if_icmp .eq 12, 3) := by decide +kernel
theorem dX0_bestPlace_51 : decode cX0_bestPlace 51 = .ok (.aload_n 0, 1) := by decide +kernel
theorem dX0_bestPlace_52 : decode cX0_bestPlace 52 = .ok (.iload_n 3, 1) := by decide +kernel
theorem dX0_bestPlace_53 : decode cX0_bestPlace 53 = .ok (.iload_n 2, 1) := by decide +kernel
theorem dX0_bestPlace_54 : decode cX0_bestPlace 54 = .ok (.invokevirtual 158, 3) := by decide +kernel
theorem dX0_bestPlace_57 : decode cX0_bestPlace 57 = .ok (.ifCond .eq 5, 3) := by decide +kernel
theorem dX0_bestPlace_60 : decode cX0_bestPlace 60 = .ok (.iload_n 3, 1) := by decide +kernel
theorem dX0_bestPlace_61 : decode cX0_bestPlace 61 = .ok (.istore_n 2, 1) := by decide +kernel
theorem dX0_bestPlace_62 : decode cX0_bestPlace 62 = .ok (.iinc 3 1, 3) := by decide +kernel
theorem dX0_bestPlace_65 : decode cX0_bestPlace 65 = .ok (.goto (-43), 3) := by decide +kernel
theorem dX0_bestPlace_68 : decode cX0_bestPlace 68 = .ok (.iload_n 2, 1) := by decide +kernel
theorem dX0_bestPlace_69 : decode cX0_bestPlace 69 = .ok (.ireturn, 1) := by decide +kernel
theorem dX0_isBetter_0 : decode cX0_isBetter 0 = .ok (.aload_n 0, 1) := by decide +kernel
theorem dX0_isBetter_1 : decode cX0_isBetter 1 = .ok (.getfield 20, 3) := by decide +kernel
theorem dX0_isBetter_4 : decode cX0_isBetter 4 = .ok (.aload_n 0, 1) := by decide +kernel
theorem dX0_isBetter_5 : decode cX0_isBetter 5 = .ok (.getfield 43, 3) := by decide +kernel
theorem dX0_isBetter_8 : decode cX0_isBetter 8 = .ok (.iload_n 1, 1) := by decide +kernel
theorem dX0_isBetter_9 : decode cX0_isBetter 9 = .ok (.invokevirtual 84, 3) := by decide +kernel
theorem dX0_isBetter_12 : decode cX0_isBetter 12 = .ok (.istore_n 3, 1) := by decide +kernel
theorem dX0_isBetter_13 : decode cX0_isBetter 13 = .ok (.aload_n 0, 1) := by decide +kernel
theorem dX0_isBetter_14 : decode cX0_isBetter 14 = .ok (.getfield 20, 3) := by decide +kernel
theorem dX0_isBetter_17 : decode cX0_isBetter 17 = .ok (.aload_n 0, 1) := by decide +kernel
theorem dX0_isBetter_18 : decode cX0_isBetter 18 = .ok (.getfield 43, 3) := by decide +kernel
theorem dX0_isBetter_21 : decode cX0_isBetter 21 = .ok (.iload_n 2, 1) := by decide +kernel
theorem dX0_isBetter_22 : decode cX0_isBetter 22 = .ok (.invokevirtual 84, 3) := by decide +kernel
theorem dX0_isBetter_25 : decode cX0_isBetter 25 = .ok (.istore 4, 2) := by decide +kernel
theorem dX0_isBetter_27 : decode cX0_isBetter 27 = .ok (.aload_n 0, 1) := by decide +kernel
theorem dX0_isBetter_28 : decode cX0_isBetter 28 = .ok (.iload_n 3, 1) := by decide +kernel
theorem dX0_isBetter_29 : decode cX0_isBetter 29 = .ok (.invokevirtual 148, 3) := by decide +kernel
theorem dX0_isBetter_32 : decode cX0_isBetter 32 = .ok (.aload_n 0, 1) := by decide +kernel
theorem dX0_isBetter_33 : decode cX0_isBetter 33 = .ok (.iload 4, 2) := by decide +kernel
theorem dX0_isBetter_35 : decode cX0_isBetter 35 = .ok (.invokevirtual 148, 3) := by decide +kernel
theorem dX0_isBetter_38 : decode cX0_isBetter 38 = .ok (.if_icmp .eq 23, 3) := by decide +kernel
theorem dX0_isBetter_41 : decode cX0_isBetter 41 = .ok (.aload_n 0, 1) := by decide +kernel
theorem dX0_isBetter_42 : decode cX0_isBetter 42 = .ok (.iload_n 3, 1) := by decide +kernel
theorem dX0_isBetter_43 : decode cX0_isBetter 43 = .ok (.invokevirtual 148, 3) := by decide +kernel
theorem dX0_isBetter_46 : decode cX0_isBetter 46 = .ok (.aload_n 0, 1) := by decide +kernel
theorem dX0_isBetter_47 : decode cX0_isBetter 47 = .ok (.iload 4, 2) := by decide +kernel
theorem dX0_isBetter_49 : decode cX0_isBetter 49 = .ok (.invokevirtual 148, 3) := by decide +kernel
theorem dX0_isBetter_52 : decode cX0_isBetter 52 = .ok (.if_icmp .le 7, 3) := by decide +kernel
theorem dX0_isBetter_55 : decode cX0_isBetter 55 = .ok (.iconst 1, 1) := by decide +kernel
theorem dX0_isBetter_56 : decode cX0_isBetter 56 = .ok (.goto 4, 3) := by decide +kernel
theorem dX0_isBetter_59 : decode cX0_isBetter 59 = .ok (.iconst 0, 1) := by decide +kernel
theorem dX0_isBetter_60 : decode cX0_isBetter 60 = .ok (.ireturn, 1) := by decide +kernel
theorem dX0_isBetter_61 : decode cX0_isBetter 61 = .ok (.aload_n 0, 1) := by decide +kernel
theorem dX0_isBetter_62 : decode cX0_isBetter 62 = .ok (.getfield 14, 3) := by decide +kernel
theorem dX0_isBetter_65 : decode cX0_isBetter 65 = .ok (.iload_n 3, 1) := by decide +kernel
theorem dX0_isBetter_66 : decode cX0_isBetter 66 = .ok (.iconst 4, 1) := by decide +kernel
theorem dX0_isBetter_67 : decode cX0_isBetter 67 = .ok (.invokevirtual 84, 3) := by decide +kernel
theorem dX0_isBetter_70 : decode cX0_isBetter 70 = .ok (.aload_n 0, 1) := by decide +kernel
theorem dX0_isBetter_71 : decode cX0_isBetter 71 = .ok (.getfield 14, 3) := by decide +kernel
theorem dX0_isBetter_74 : decode cX0_isBetter 74 = .ok (.iload 4, 2) := by decide +kernel
theorem dX0_isBetter_76 : decode cX0_isBetter 76 = .ok (.iconst 4, 1) := by decide +kernel
theorem dX0_isBetter_77 : decode cX0_isBetter 77 = .ok (.invokevirtual 84, 3) := by decide +kernel
theorem dX0_isBetter_80 : decode cX0_isBetter 80 = .ok (.if_icmp .le 7, 3) := by decide +kernel
theorem dX0_isBetter_83 : decode cX0_isBetter 83 = .ok (.iconst 1, 1) := by decide +kernel
theorem dX0_isBetter_84 : decode cX0_isBetter 84 = .ok (.goto 4, 3) := by decide +kernel
theorem dX0_isBetter_87 : decode cX0_isBetter 87 = .ok (.iconst 0, 1) := by decide +kernel
theorem dX0_isBetter_88 : decode cX0_isBetter 88 = .ok (.ireturn, 1) := by decide +kernel
theorem dX0_shareOfRust_0 : decode cX0_shareOfRust 0 = .ok (.aload_n 0, 1) := by decide +kernel
theorem dX0_shareOfRust_1 : decode cX0_shareOfRust 1 = .ok (.iconst 1, 1) := by decide +kernel
theorem dX0_shareOfRust_2 : decode cX0_shareOfRust 2 = .ok (.invokevirtual 133, 3) := by decide +kernel
theorem dX0_shareOfRust_5 : decode cX0_shareOfRust 5 = .ok (.i2d, 1) := by decide +kernel
theorem dX0_shareOfRust_6 : decode cX0_shareOfRust 6 = .ok (.ldc2_w 164, 3) := by decide +kernel
theorem dX0_shareOfRust_9 : decode cX0_shareOfRust 9 = .ok (.ddiv, 1) := by decide +kernel
theorem dX0_shareOfRust_10 : decode cX0_shareOfRust 10 = .ok (.dreturn, 1) := by decide +kernel
