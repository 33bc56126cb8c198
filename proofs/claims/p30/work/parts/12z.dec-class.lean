/-! decode rows, as printed -/
theorem dX5_init_0 : decode cX5_init 0 = .ok (.aload_n 0, 1) := by decide +kernel
theorem dX5_init_1 : decode cX5_init 1 = .ok (.invokespecial 1, 3) := by decide +kernel
theorem dX5_init_4 : decode cX5_init 4 = .ok (.aload_n 0, 1) := by decide +kernel
theorem dX5_init_5 : decode cX5_init 5 = .ok (.new 7, 3) := by decide +kernel
theorem dX5_init_8 : decode cX5_init 8 = .ok (.dup, 1) := by decide +kernel
theorem dX5_init_9 : decode cX5_init 9 = .ok (.invokespecial 9, 3) := by decide +kernel
theorem dX5_init_12 : decode cX5_init 12 = .ok (.putfield 10, 3) := by decide +kernel
theorem dX5_init_15 : decode cX5_init 15 = .ok (.aload_n 0, 1) := by decide +kernel
theorem dX5_init_16 : decode cX5_init 16 = .ok (.new 16, 3) := by decide +kernel
theorem dX5_init_19 : decode cX5_init 19 = .ok (.dup, 1) := by decide +kernel
theorem dX5_init_20 : decode cX5_init 20 = .ok (.invokespecial 18, 3) := by decide +kernel
theorem dX5_init_23 : decode cX5_init 23 = .ok (.putfield 19, 3) := by decide +kernel
theorem dX5_init_26 : decode cX5_init 26 = .ok (.aload_n 0, 1) := by decide +kernel
theorem dX5_init_27 : decode cX5_init 27 = .ok (.new 23, 3) := by decide +kernel
theorem dX5_init_30 : decode cX5_init 30 = .ok (.dup, 1) := by decide +kernel
theorem dX5_init_31 : decode cX5_init 31 = .ok (.invokespecial 25, 3) := by decide +kernel
theorem dX5_init_34 : decode cX5_init 34 = .ok (.putfield 26, 3) := by decide +kernel
theorem dX5_init_37 : decode cX5_init 37 = .ok (.aload_n 0, 1) := by decide +kernel
theorem dX5_init_38 : decode cX5_init 38 = .ok (.new 30, 3) := by decide +kernel
theorem dX5_init_41 : decode cX5_init 41 = .ok (.dup, 1) := by decide +kernel
theorem dX5_init_42 : decode cX5_init 42 = .ok (.invokespecial 32, 3) := by decide +kernel
theorem dX5_init_45 : decode cX5_init 45 = .ok (.putfield 33, 3) := by decide +kernel
theorem dX5_init_48 : decode cX5_init 48 = .ok (.aload_n 0, 1) := by decide +kernel
theorem dX5_init_49 : decode cX5_init 49 = .ok (.iconst 2, 1) := by decide +kernel
theorem dX5_init_50 : decode cX5_init 50 = .ok (.anewarray 7, 3) := by decide +kernel
theorem dX5_init_53 : decode cX5_init 53 = .ok (.putfield 37, 3) := by decide +kernel
theorem dX5_init_56 : decode cX5_init 56 = .ok (.aload_n 0, 1) := by decide +kernel
theorem dX5_init_57 : decode cX5_init 57 = .ok (.getfield 10, 3) := by decide +kernel
theorem dX5_init_60 : decode cX5_init 60 = .ok (.iconst 2, 1) := by decide +kernel
theorem dX5_init_61 : decode cX5_init 61 = .ok (.iconst 1, 1) := by decide +kernel
theorem dX5_init_62 : decode cX5_init 62 = .ok (.invokevirtual 41, 3) := by decide +kernel
theorem dX5_init_65 : decode cX5_init 65 = .ok (.return_, 1) := by decide +kernel
theorem dX5_begin_0 : decode cX5_begin 0 = .ok (.iload_n 1, 1) := by decide +kernel
theorem dX5_begin_1 : decode cX5_begin 1 = .ok (.iconst 2, 1) := by decide +kernel
theorem dX5_begin_2 : decode cX5_begin 2 = .ok (.if_icmp .lt 19, 3) := by decide +kernel
theorem dX5_begin_5 : decode cX5_begin 5 = .ok (.iload_n 1, 1) := by decide +kernel
theorem dX5_begin_6 : decode cX5_begin 6 = .ok (.iconst 4, 1) := by decide +kernel
theorem dX5_begin_7 : decode cX5_begin 7 = .ok (.if_icmp .gt 14, 3) := by decide +kernel
theorem dX5_begin_10 : decode cX5_begin 10 = .ok (.iload_n 2, 1) := by decide +kernel
theorem dX5_begin_11 : decode cX5_begin 11 = .ok (.ifCond .lt 10, 3) := by decide +kernel
theorem dX5_begin_14 : decode cX5_begin 14 = .ok (.iload_n 2, 1) := by decide +kernel
theorem dX5_begin_15 : decode cX5_begin 15 = .ok (.sipush 10000, 3) := by decide +kernel
theorem dX5_begin_18 : decode cX5_begin 18 = .ok (.if_icmp .lt 13, 3) := by decide +kernel
theorem dX5_begin_21 : decode cX5_begin 21 = .ok (.new 45, 3) := by decide +kernel
theorem dX5_begin_24 : decode cX5_begin 24 = .ok (.dup, 1) := by decide +kernel
theorem dX5_begin_25 : decode cX5_begin 25 = .ok (.ldc 47, 2) := by decide +kernel
theorem dX5_begin_27 : decode cX5_begin 27 = .ok (.invokespecial 49, 3) := by decide +kernel
theorem dX5_begin_30 : decode cX5_begin 30 = .ok (.athrow, 1) := by decide +kernel
theorem dX5_begin_31 : decode cX5_begin 31 = .ok (.aload_n 0, 1) := by decide +kernel
theorem dX5_begin_32 : decode cX5_begin 32 = .ok (.getfield 33, 3) := by decide +kernel
theorem dX5_begin_35 : decode cX5_begin 35 = .ok (.aload_n 0, 1) := by decide +kernel
theorem dX5_begin_36 : decode cX5_begin 36 = .ok (.getfield 10, 3) := by decide +kernel
theorem dX5_begin_39 : decode cX5_begin 39 = .ok (.invokevirtual 52, 3) := by decide +kernel
theorem dX5_begin_42 : decode cX5_begin 42 = .ok (.aload_n 0, 1) := by decide +kernel
theorem dX5_begin_43 : decode cX5_begin 43 = .ok (.getfield 10, 3) := by decide +kernel
theorem dX5_begin_46 : decode cX5_begin 46 = .ok (.iload_n 1, 1) := by decide +kernel
theorem dX5_begin_47 : decode cX5_begin 47 = .ok (.iload_n 2, 1) := by decide +kernel
theorem dX5_begin_48 : decode cX5_begin 48 = .ok (.invokevirtual 41, 3) := by decide +kernel
theorem dX5_begin_51 : decode cX5_begin 51 = .ok (.aload_n 0, 1) := by decide +kernel
theorem dX5_begin_52 : decode cX5_begin 52 = .ok (.getfield 10, 3) := by decide +kernel
theorem dX5_begin_55 : decode cX5_begin 55 = .ok (.invokevirtual 56, 3) := by decide +kernel
theorem dX5_begin_58 : decode cX5_begin 58 = .ok (.ireturn, 1) := by decide +kernel
theorem dX5_lay_0 : decode cX5_lay 0 = .ok (.iload_n 2, 1) := by decide +kernel
theorem dX5_lay_1 : decode cX5_lay 1 = .ok (.invokestatic 60, 3) := by decide +kernel
theorem dX5_lay_4 : decode cX5_lay 4 = .ok (.iload_n 3, 1) := by decide +kernel
theorem dX5_lay_5 : decode cX5_lay 5 = .ok (.invokestatic 64, 3) := by decide +kernel
theorem dX5_lay_8 : decode cX5_lay 8 = .ok (.aload_n 0, 1) := by decide +kernel
theorem dX5_lay_9 : decode cX5_lay 9 = .ok (.getfield 33, 3) := by decide +kernel
theorem dX5_lay_12 : decode cX5_lay 12 = .ok (.aload_n 0, 1) := by decide +kernel
theorem dX5_lay_13 : decode cX5_lay 13 = .ok (.getfield 10, 3) := by decide +kernel
theorem dX5_lay_16 : decode cX5_lay 16 = .ok (.invokevirtual 52, 3) := by decide +kernel
theorem dX5_lay_19 : decode cX5_lay 19 = .ok (.aload_n 0, 1) := by decide +kernel
theorem dX5_lay_20 : decode cX5_lay 20 = .ok (.getfield 10, 3) := by decide +kernel
theorem dX5_lay_23 : decode cX5_lay 23 = .ok (.iload_n 1, 1) := by decide +kernel
theorem dX5_lay_24 : decode cX5_lay 24 = .ok (.iload_n 2, 1) := by decide +kernel
theorem dX5_lay_25 : decode cX5_lay 25 = .ok (.iload_n 3, 1) := by decide +kernel
theorem dX5_lay_26 : decode cX5_lay 26 = .ok (.invokevirtual 67, 3) := by decide +kernel
theorem dX5_lay_29 : decode cX5_lay 29 = .ok (.ireturn, 1) := by decide +kernel
theorem dX5_draw_0 : decode cX5_draw 0 = .ok (.aload_n 0, 1) := by decide +kernel
theorem dX5_draw_1 : decode cX5_draw 1 = .ok (.getfield 33, 3) := by decide +kernel
theorem dX5_draw_4 : decode cX5_draw 4 = .ok (.aload_n 0, 1) := by decide +kernel
theorem dX5_draw_5 : decode cX5_draw 5 = .ok (.getfield 10, 3) := by decide +kernel
theorem dX5_draw_8 : decode cX5_draw 8 = .ok (.invokevirtual 52, 3) := by decide +kernel
theorem dX5_draw_11 : decode cX5_draw 11 = .ok (.aload_n 0, 1) := by decide +kernel
theorem dX5_draw_12 : decode cX5_draw 12 = .ok (.getfield 10, 3) := by decide +kernel
theorem dX5_draw_15 : decode cX5_draw 15 = .ok (.invokevirtual 71, 3) := by decide +kernel
theorem dX5_draw_18 : decode cX5_draw 18 = .ok (.ireturn, 1) := by decide +kernel
theorem dX5_pass_0 : decode cX5_pass 0 = .ok (.aload_n 0, 1) := by decide +kernel
theorem dX5_pass_1 : decode cX5_pass 1 = .ok (.getfield 33, 3) := by decide +kernel
theorem dX5_pass_4 : decode cX5_pass 4 = .ok (.aload_n 0, 1) := by decide +kernel
theorem dX5_pass_5 : decode cX5_pass 5 = .ok (.getfield 10, 3) := by decide +kernel
theorem dX5_pass_8 : decode cX5_pass 8 = .ok (.invokevirtual 52, 3) := by decide +kernel
theorem dX5_pass_11 : decode cX5_pass 11 = .ok (.aload_n 0, 1) := by decide +kernel
theorem dX5_pass_12 : decode cX5_pass 12 = .ok (.getfield 10, 3) := by decide +kernel
theorem dX5_pass_15 : decode cX5_pass 15 = .ok (.invokevirtual 74, 3) := by decide +kernel
theorem dX5_pass_18 : decode cX5_pass 18 = .ok (.ireturn, 1) := by decide +kernel
theorem dX5_oil_0 : decode cX5_oil 0 = .ok (.aload_n 0, 1) := by decide +kernel
theorem dX5_oil_1 : decode cX5_oil 1 = .ok (.getfield 10, 3) := by decide +kernel
theorem dX5_oil_4 : decode cX5_oil 4 = .ok (.invokevirtual 77, 3) := by decide +kernel
theorem dX5_oil_7 : decode cX5_oil 7 = .ok (.ifCond .ne 31, 3) := by decide +kernel
theorem dX5_oil_10 : decode cX5_oil 10 = .ok (.aload_n 0, 1) := by decide +kernel
theorem dX5_oil_11 : decode cX5_oil 11 = .ok (.getfield 10, 3) := by decide +kernel
theorem dX5_oil_14 : decode cX5_oil 14 = .ok (.aload_n 0, 1) := by decide +kernel
theorem dX5_oil_15 : decode cX5_oil 15 = .ok (.getfield 10, 3) := by decide +kernel
theorem dX5_oil_18 : decode cX5_oil 18 = .ok (.getfield 81, 3) := by decide +kernel
theorem dX5_oil_21 : decode cX5_oil 21 = .ok (.iload_n 1, 1) := by decide +kernel
theorem dX5_oil_22 : decode cX5_oil 22 = .ok (.invokevirtual 85, 3) := by decide +kernel
theorem dX5_oil_25 : decode cX5_oil 25 = .ok (.ifCond .ne 13, 3) := by decide +kernel
theorem dX5_oil_28 : decode cX5_oil 28 = .ok (.new 89, 3) := by decide +kernel
theorem dX5_oil_31 : decode cX5_oil 31 = .ok (.dup, 1) := by decide +kernel
theorem dX5_oil_32 : decode cX5_oil 32 = .ok (.ldc 91, 2) := by decide +kernel
theorem dX5_oil_34 : decode cX5_oil 34 = .ok (.invokespecial 93, 3) := by decide +kernel
theorem dX5_oil_37 : decode cX5_oil 37 = .ok (.athrow, 1) := by decide +kernel
theorem dX5_oil_38 : decode cX5_oil 38 = .ok (.aload_n 0, 1) := by decide +kernel
theorem dX5_oil_39 : decode cX5_oil 39 = .ok (.getfield 33, 3) := by decide +kernel
theorem dX5_oil_42 : decode cX5_oil 42 = .ok (.aload_n 0, 1) := by decide +kernel
theorem dX5_oil_43 : decode cX5_oil 43 = .ok (.getfield 10, 3) := by decide +kernel
theorem dX5_oil_46 : decode cX5_oil 46 = .ok (.invokevirtual 52, 3) := by decide +kernel
theorem dX5_oil_49 : decode cX5_oil 49 = .ok (.aload_n 0, 1) := by decide +kernel
theorem dX5_oil_50 : decode cX5_oil 50 = .ok (.getfield 10, 3) := by decide +kernel
theorem dX5_oil_53 : decode cX5_oil 53 = .ok (.iload_n 1, 1) := by decide +kernel
theorem dX5_oil_54 : decode cX5_oil 54 = .ok (.invokevirtual 94, 3) := by decide +kernel
theorem dX5_oil_57 : decode cX5_oil 57 = .ok (.ireturn, 1) := by decide +kernel
theorem dX5_set_0 : decode cX5_set 0 = .ok (.iload_n 1, 1) := by decide +kernel
theorem dX5_set_1 : decode cX5_set 1 = .ok (.iconst 1, 1) := by decide +kernel
theorem dX5_set_2 : decode cX5_set 2 = .ok (.if_icmp .lt 9, 3) := by decide +kernel
theorem dX5_set_5 : decode cX5_set 5 = .ok (.iload_n 1, 1) := by decide +kernel
theorem dX5_set_6 : decode cX5_set 6 = .ok (.bipush 9, 2) := by decide +kernel
theorem dX5_set_8 : decode cX5_set 8 = .ok (.if_icmp .le 13, 3) := by decide +kernel
theorem dX5_set_11 : decode cX5_set 11 = .ok (.new 45, 3) := by decide +kernel
theorem dX5_set_14 : decode cX5_set 14 = .ok (.dup, 1) := by decide +kernel
theorem dX5_set_15 : decode cX5_set 15 = .ok (.ldc 98, 2) := by decide +kernel
theorem dX5_set_17 : decode cX5_set 17 = .ok (.invokespecial 49, 3) := by decide +kernel
theorem dX5_set_20 : decode cX5_set 20 = .ok (.athrow, 1) := by decide +kernel
theorem dX5_set_21 : decode cX5_set 21 = .ok (.aload_n 0, 1) := by decide +kernel
theorem dX5_set_22 : decode cX5_set 22 = .ok (.getfield 33, 3) := by decide +kernel
theorem dX5_set_25 : decode cX5_set 25 = .ok (.aload_n 0, 1) := by decide +kernel
theorem dX5_set_26 : decode cX5_set 26 = .ok (.getfield 10, 3) := by decide +kernel
theorem dX5_set_29 : decode cX5_set 29 = .ok (.invokevirtual 52, 3) := by decide +kernel
theorem dX5_set_32 : decode cX5_set 32 = .ok (.aload_n 0, 1) := by decide +kernel
theorem dX5_set_33 : decode cX5_set 33 = .ok (.getfield 10, 3) := by decide +kernel
theorem dX5_set_36 : decode cX5_set 36 = .ok (.getfield 100, 3) := by decide +kernel
theorem dX5_set_39 : decode cX5_set 39 = .ok (.istore_n 2, 1) := by decide +kernel
theorem dX5_set_40 : decode cX5_set 40 = .ok (.aload_n 0, 1) := by decide +kernel
theorem dX5_set_41 : decode cX5_set 41 = .ok (.getfield 10, 3) := by decide +kernel
theorem dX5_set_44 : decode cX5_set 44 = .ok (.iload_n 1, 1) := by decide +kernel
theorem dX5_set_45 : decode cX5_set 45 = .ok (.putfield 100, 3) := by decide +kernel
theorem dX5_set_48 : decode cX5_set 48 = .ok (.iload_n 2, 1) := by decide +kernel
theorem dX5_set_49 : decode cX5_set 49 = .ok (.ireturn, 1) := by decide +kernel
theorem dX5_undo_0 : decode cX5_undo 0 = .ok (.aload_n 0, 1) := by decide +kernel
theorem dX5_undo_1 : decode cX5_undo 1 = .ok (.getfield 33, 3) := by decide +kernel
theorem dX5_undo_4 : decode cX5_undo 4 = .ok (.getfield 135, 3) := by decide +kernel
theorem dX5_undo_7 : decode cX5_undo 7 = .ok (.ifCond .ne 13, 3) := by decide +kernel
theorem dX5_undo_10 : decode cX5_undo 10 = .ok (.new 108, 3) := by decide +kernel
theorem dX5_undo_13 : decode cX5_undo 13 = .ok (.dup, 1) := by decide +kernel
theorem dX5_undo_14 : decode cX5_undo 14 = .ok (.ldc 138, 2) := by decide +kernel
theorem dX5_undo_16 : decode cX5_undo 16 = .ok (.invokespecial 112, 3) := by decide +kernel
theorem dX5_undo_19 : decode cX5_undo 19 = .ok (.athrow, 1) := by decide +kernel
theorem dX5_undo_20 : decode cX5_undo 20 = .ok (.aload_n 0, 1) := by decide +kernel
theorem dX5_undo_21 : decode cX5_undo 21 = .ok (.getfield 33, 3) := by decide +kernel
theorem dX5_undo_24 : decode cX5_undo 24 = .ok (.aload_n 0, 1) := by decide +kernel
theorem dX5_undo_25 : decode cX5_undo 25 = .ok (.getfield 10, 3) := by decide +kernel
theorem dX5_undo_28 : decode cX5_undo 28 = .ok (.invokevirtual 140, 3) := by decide +kernel
theorem dX5_undo_31 : decode cX5_undo 31 = .ok (.aload_n 0, 1) := by decide +kernel
theorem dX5_undo_32 : decode cX5_undo 32 = .ok (.getfield 33, 3) := by decide +kernel
theorem dX5_undo_35 : decode cX5_undo 35 = .ok (.getfield 135, 3) := by decide +kernel
theorem dX5_undo_38 : decode cX5_undo 38 = .ok (.ireturn, 1) := by decide +kernel
theorem dX5_tileOf_0 : decode cX5_tileOf 0 = .ok (.iload_n 1, 1) := by decide +kernel
theorem dX5_tileOf_1 : decode cX5_tileOf 1 = .ok (.ifCond .lt 9, 3) := by decide +kernel
theorem dX5_tileOf_4 : decode cX5_tileOf 4 = .ok (.iload_n 1, 1) := by decide +kernel
theorem dX5_tileOf_5 : decode cX5_tileOf 5 = .ok (.bipush 28, 2) := by decide +kernel
theorem dX5_tileOf_7 : decode cX5_tileOf 7 = .ok (.if_icmp .lt 13, 3) := by decide +kernel
theorem dX5_tileOf_10 : decode cX5_tileOf 10 = .ok (.new 89, 3) := by decide +kernel
theorem dX5_tileOf_13 : decode cX5_tileOf 13 = .ok (.dup, 1) := by decide +kernel
theorem dX5_tileOf_14 : decode cX5_tileOf 14 = .ok (.ldc 143, 2) := by decide +kernel
theorem dX5_tileOf_16 : decode cX5_tileOf 16 = .ok (.invokespecial 93, 3) := by decide +kernel
theorem dX5_tileOf_19 : decode cX5_tileOf 19 = .ok (.athrow, 1) := by decide +kernel
theorem dX5_tileOf_20 : decode cX5_tileOf 20 = .ok (.iload_n 2, 1) := by decide +kernel
theorem dX5_tileOf_21 : decode cX5_tileOf 21 = .ok (.bipush 7, 2) := by decide +kernel
theorem dX5_tileOf_23 : decode cX5_tileOf 23 = .ok (.invokestatic 145, 3) := by decide +kernel
theorem dX5_tileOf_26 : decode cX5_tileOf 26 = .ok (.aload_n 0, 1) := by decide +kernel
theorem dX5_tileOf_27 : decode cX5_tileOf 27 = .ok (.getfield 10, 3) := by decide +kernel
theorem dX5_tileOf_30 : decode cX5_tileOf 30 = .ok (.getfield 148, 3) := by decide +kernel
theorem dX5_tileOf_33 : decode cX5_tileOf 33 = .ok (.iload_n 1, 1) := by decide +kernel
theorem dX5_tileOf_34 : decode cX5_tileOf 34 = .ok (.iload_n 2, 1) := by decide +kernel
theorem dX5_tileOf_35 : decode cX5_tileOf 35 = .ok (.invokevirtual 152, 3) := by decide +kernel
theorem dX5_tileOf_38 : decode cX5_tileOf 38 = .ok (.ireturn, 1) := by decide +kernel
theorem dX5_hand_0 : decode cX5_hand 0 = .ok (.aload_n 0, 1) := by decide +kernel
theorem dX5_hand_1 : decode cX5_hand 1 = .ok (.iload_n 1, 1) := by decide +kernel
theorem dX5_hand_2 : decode cX5_hand 2 = .ok (.invokevirtual 158, 3) := by decide +kernel
theorem dX5_hand_5 : decode cX5_hand 5 = .ok (.iload_n 2, 1) := by decide +kernel
theorem dX5_hand_6 : decode cX5_hand 6 = .ok (.invokestatic 161, 3) := by decide +kernel
theorem dX5_hand_9 : decode cX5_hand 9 = .ok (.aload_n 0, 1) := by decide +kernel
theorem dX5_hand_10 : decode cX5_hand 10 = .ok (.getfield 10, 3) := by decide +kernel
theorem dX5_hand_13 : decode cX5_hand 13 = .ok (.iload_n 1, 1) := by decide +kernel
theorem dX5_hand_14 : decode cX5_hand 14 = .ok (.iload_n 2, 1) := by decide +kernel
theorem dX5_hand_15 : decode cX5_hand 15 = .ok (.invokevirtual 85, 3) := by decide +kernel
theorem dX5_hand_18 : decode cX5_hand 18 = .ok (.ifCond .eq 18, 3) := by decide +kernel
theorem dX5_hand_21 : decode cX5_hand 21 = .ok (.aload_n 0, 1) := by decide +kernel
theorem dX5_hand_22 : decode cX5_hand 22 = .ok (.getfield 10, 3) := by decide +kernel
theorem dX5_hand_25 : decode cX5_hand 25 = .ok (.getfield 164, 3) := by decide +kernel
theorem dX5_hand_28 : decode cX5_hand 28 = .ok (.iload_n 1, 1) := by decide +kernel
theorem dX5_hand_29 : decode cX5_hand 29 = .ok (.iload_n 2, 1) := by decide +kernel
theorem dX5_hand_30 : decode cX5_hand 30 = .ok (.invokevirtual 152, 3) := by decide +kernel
theorem dX5_hand_33 : decode cX5_hand 33 = .ok (.goto 4, 3) := by decide +kernel
theorem dX5_hand_36 : decode cX5_hand 36 = .ok (.iconst (-1), 1) := by decide +kernel
theorem dX5_hand_37 : decode cX5_hand 37 = .ok (.ireturn, 1) := by decide +kernel
theorem dX5_stock_0 : decode cX5_stock 0 = .ok (.iload_n 1, 1) := by decide +kernel
theorem dX5_stock_1 : decode cX5_stock 1 = .ok (.invokestatic 161, 3) := by decide +kernel
theorem dX5_stock_4 : decode cX5_stock 4 = .ok (.iload_n 1, 1) := by decide +kernel
theorem dX5_stock_5 : decode cX5_stock 5 = .ok (.aload_n 0, 1) := by decide +kernel
theorem dX5_stock_6 : decode cX5_stock 6 = .ok (.getfield 10, 3) := by decide +kernel
theorem dX5_stock_9 : decode cX5_stock 9 = .ok (.invokevirtual 56, 3) := by decide +kernel
theorem dX5_stock_12 : decode cX5_stock 12 = .ok (.if_icmp .ge 14, 3) := by decide +kernel
theorem dX5_stock_15 : decode cX5_stock 15 = .ok (.aload_n 0, 1) := by decide +kernel
theorem dX5_stock_16 : decode cX5_stock 16 = .ok (.getfield 10, 3) := by decide +kernel
theorem dX5_stock_19 : decode cX5_stock 19 = .ok (.iload_n 1, 1) := by decide +kernel
theorem dX5_stock_20 : decode cX5_stock 20 = .ok (.invokevirtual 167, 3) := by decide +kernel
theorem dX5_stock_23 : decode cX5_stock 23 = .ok (.goto 4, 3) := by decide +kernel
theorem dX5_stock_26 : decode cX5_stock 26 = .ok (.iconst (-1), 1) := by decide +kernel
theorem dX5_stock_27 : decode cX5_stock 27 = .ok (.ireturn, 1) := by decide +kernel
theorem dX5_playerOf_0 : decode cX5_playerOf 0 = .ok (.aload_n 0, 1) := by decide +kernel
theorem dX5_playerOf_1 : decode cX5_playerOf 1 = .ok (.iload_n 1, 1) := by decide +kernel
theorem dX5_playerOf_2 : decode cX5_playerOf 2 = .ok (.invokevirtual 158, 3) := by decide +kernel
theorem dX5_playerOf_5 : decode cX5_playerOf 5 = .ok (.iload_n 2, 1) := by decide +kernel
theorem dX5_playerOf_6 : decode cX5_playerOf 6 = .ok (.bipush 7, 2) := by decide +kernel
theorem dX5_playerOf_8 : decode cX5_playerOf 8 = .ok (.invokestatic 145, 3) := by decide +kernel
theorem dX5_playerOf_11 : decode cX5_playerOf 11 = .ok (.aload_n 0, 1) := by decide +kernel
theorem dX5_playerOf_12 : decode cX5_playerOf 12 = .ok (.getfield 10, 3) := by decide +kernel
theorem dX5_playerOf_15 : decode cX5_playerOf 15 = .ok (.iload_n 1, 1) := by decide +kernel
theorem dX5_playerOf_16 : decode cX5_playerOf 16 = .ok (.iload_n 2, 1) := by decide +kernel
theorem dX5_playerOf_17 : decode cX5_playerOf 17 = .ok (.invokevirtual 170, 3) := by decide +kernel
theorem dX5_playerOf_20 : decode cX5_playerOf 20 = .ok (.ireturn, 1) := by decide +kernel
theorem dX5_rowOf_0 : decode cX5_rowOf 0 = .ok (.iload_n 1, 1) := by decide +kernel
theorem dX5_rowOf_1 : decode cX5_rowOf 1 = .ok (.invokestatic 60, 3) := by decide +kernel
theorem dX5_rowOf_4 : decode cX5_rowOf 4 = .ok (.iload_n 2, 1) := by decide +kernel
theorem dX5_rowOf_5 : decode cX5_rowOf 5 = .ok (.iconst 4, 1) := by decide +kernel
theorem dX5_rowOf_6 : decode cX5_rowOf 6 = .ok (.invokestatic 145, 3) := by decide +kernel
theorem dX5_rowOf_9 : decode cX5_rowOf 9 = .ok (.aload_n 0, 1) := by decide +kernel
theorem dX5_rowOf_10 : decode cX5_rowOf 10 = .ok (.getfield 10, 3) := by decide +kernel
theorem dX5_rowOf_13 : decode cX5_rowOf 13 = .ok (.getfield 173, 3) := by decide +kernel
theorem dX5_rowOf_16 : decode cX5_rowOf 16 = .ok (.iload_n 1, 1) := by decide +kernel
theorem dX5_rowOf_17 : decode cX5_rowOf 17 = .ok (.iload_n 2, 1) := by decide +kernel
theorem dX5_rowOf_18 : decode cX5_rowOf 18 = .ok (.invokevirtual 152, 3) := by decide +kernel
theorem dX5_rowOf_21 : decode cX5_rowOf 21 = .ok (.ireturn, 1) := by decide +kernel
theorem dX5_count_0 : decode cX5_count 0 = .ok (.iload_n 1, 1) := by decide +kernel
theorem dX5_count_1 : decode cX5_count 1 = .ok (.bipush 12, 2) := by decide +kernel
theorem dX5_count_3 : decode cX5_count 3 = .ok (.invokestatic 145, 3) := by decide +kernel
theorem dX5_count_6 : decode cX5_count 6 = .ok (.aload_n 0, 1) := by decide +kernel
theorem dX5_count_7 : decode cX5_count 7 = .ok (.getfield 10, 3) := by decide +kernel
theorem dX5_count_10 : decode cX5_count 10 = .ok (.iload_n 1, 1) := by decide +kernel
theorem dX5_count_11 : decode cX5_count 11 = .ok (.aload_n 0, 1) := by decide +kernel
theorem dX5_count_12 : decode cX5_count 12 = .ok (.getfield 33, 3) := by decide +kernel
theorem dX5_count_15 : decode cX5_count 15 = .ok (.getfield 135, 3) := by decide +kernel
theorem dX5_count_18 : decode cX5_count 18 = .ok (.invokevirtual 176, 3) := by decide +kernel
theorem dX5_count_21 : decode cX5_count 21 = .ok (.ireturn, 1) := by decide +kernel
theorem dX5_setting_0 : decode cX5_setting 0 = .ok (.aload_n 0, 1) := by decide +kernel
theorem dX5_setting_1 : decode cX5_setting 1 = .ok (.getfield 10, 3) := by decide +kernel
theorem dX5_setting_4 : decode cX5_setting 4 = .ok (.getfield 100, 3) := by decide +kernel
theorem dX5_setting_7 : decode cX5_setting 7 = .ok (.ireturn, 1) := by decide +kernel
theorem dX5_whyNot_0 : decode cX5_whyNot 0 = .ok (.iload_n 2, 1) := by decide +kernel
theorem dX5_whyNot_1 : decode cX5_whyNot 1 = .ok (.invokestatic 60, 3) := by decide +kernel
theorem dX5_whyNot_4 : decode cX5_whyNot 4 = .ok (.iload_n 3, 1) := by decide +kernel
theorem dX5_whyNot_5 : decode cX5_whyNot 5 = .ok (.invokestatic 64, 3) := by decide +kernel
theorem dX5_whyNot_8 : decode cX5_whyNot 8 = .ok (.aload_n 0, 1) := by decide +kernel
theorem dX5_whyNot_9 : decode cX5_whyNot 9 = .ok (.getfield 10, 3) := by decide +kernel
theorem dX5_whyNot_12 : decode cX5_whyNot 12 = .ok (.iload_n 1, 1) := by decide +kernel
theorem dX5_whyNot_13 : decode cX5_whyNot 13 = .ok (.iload_n 2, 1) := by decide +kernel
theorem dX5_whyNot_14 : decode cX5_whyNot 14 = .ok (.iload_n 3, 1) := by decide +kernel
theorem dX5_whyNot_15 : decode cX5_whyNot 15 = .ok (.invokevirtual 179, 3) := by decide +kernel
theorem dX5_whyNot_18 : decode cX5_whyNot 18 = .ok (.ireturn, 1) := by decide +kernel
theorem dX5_longest_0 : decode cX5_longest 0 = .ok (.aload_n 0, 1) := by decide +kernel
theorem dX5_longest_1 : decode cX5_longest 1 = .ok (.iload_n 1, 1) := by decide +kernel
theorem dX5_longest_2 : decode cX5_longest 2 = .ok (.invokevirtual 158, 3) := by decide +kernel
theorem dX5_longest_5 : decode cX5_longest 5 = .ok (.iload_n 2, 1) := by decide +kernel
theorem dX5_longest_6 : decode cX5_longest 6 = .ok (.invokestatic 182, 3) := by decide +kernel
theorem dX5_longest_9 : decode cX5_longest 9 = .ok (.aload_n 0, 1) := by decide +kernel
theorem dX5_longest_10 : decode cX5_longest 10 = .ok (.getfield 19, 3) := by decide +kernel
theorem dX5_longest_13 : decode cX5_longest 13 = .ok (.aload_n 0, 1) := by decide +kernel
theorem dX5_longest_14 : decode cX5_longest 14 = .ok (.getfield 10, 3) := by decide +kernel
theorem dX5_longest_17 : decode cX5_longest 17 = .ok (.iload_n 1, 1) := by decide +kernel
theorem dX5_longest_18 : decode cX5_longest 18 = .ok (.invokevirtual 185, 3) := by decide +kernel
theorem dX5_longest_21 : decode cX5_longest 21 = .ok (.aload_n 0, 1) := by decide +kernel
theorem dX5_longest_22 : decode cX5_longest 22 = .ok (.getfield 19, 3) := by decide +kernel
theorem dX5_longest_25 : decode cX5_longest 25 = .ok (.iload_n 2, 1) := by decide +kernel
theorem dX5_longest_26 : decode cX5_longest 26 = .ok (.invokevirtual 189, 3) := by decide +kernel
theorem dX5_longest_29 : decode cX5_longest 29 = .ok (.aload_n 0, 1) := by decide +kernel
theorem dX5_longest_30 : decode cX5_longest 30 = .ok (.getfield 19, 3) := by decide +kernel
theorem dX5_longest_33 : decode cX5_longest 33 = .ok (.invokevirtual 192, 3) := by decide +kernel
theorem dX5_longest_36 : decode cX5_longest 36 = .ok (.ireturn, 1) := by decide +kernel
theorem dX5_whole_0 : decode cX5_whole 0 = .ok (.aload_n 0, 1) := by decide +kernel
theorem dX5_whole_1 : decode cX5_whole 1 = .ok (.iload_n 1, 1) := by decide +kernel
theorem dX5_whole_2 : decode cX5_whole 2 = .ok (.invokevirtual 158, 3) := by decide +kernel
theorem dX5_whole_5 : decode cX5_whole 5 = .ok (.iload_n 2, 1) := by decide +kernel
theorem dX5_whole_6 : decode cX5_whole 6 = .ok (.invokestatic 182, 3) := by decide +kernel
theorem dX5_whole_9 : decode cX5_whole 9 = .ok (.iload_n 3, 1) := by decide +kernel
theorem dX5_whole_10 : decode cX5_whole 10 = .ok (.iconst 2, 1) := by decide +kernel
theorem dX5_whole_11 : decode cX5_whole 11 = .ok (.invokestatic 145, 3) := by decide +kernel
theorem dX5_whole_14 : decode cX5_whole 14 = .ok (.aload_n 0, 1) := by decide +kernel
theorem dX5_whole_15 : decode cX5_whole 15 = .ok (.getfield 19, 3) := by decide +kernel
theorem dX5_whole_18 : decode cX5_whole 18 = .ok (.aload_n 0, 1) := by decide +kernel
theorem dX5_whole_19 : decode cX5_whole 19 = .ok (.getfield 10, 3) := by decide +kernel
theorem dX5_whole_22 : decode cX5_whole 22 = .ok (.iload_n 1, 1) := by decide +kernel
theorem dX5_whole_23 : decode cX5_whole 23 = .ok (.invokevirtual 185, 3) := by decide +kernel
theorem dX5_whole_26 : decode cX5_whole 26 = .ok (.iload_n 3, 1) := by decide +kernel
theorem dX5_whole_27 : decode cX5_whole 27 = .ok (.iconst 1, 1) := by decide +kernel
theorem dX5_whole_28 : decode cX5_whole 28 = .ok (.if_icmp .ne 12, 3) := by decide +kernel
theorem dX5_whole_31 : decode cX5_whole 31 = .ok (.aload_n 0, 1) := by decide +kernel
theorem dX5_whole_32 : decode cX5_whole 32 = .ok (.getfield 19, 3) := by decide +kernel
theorem dX5_whole_35 : decode cX5_whole 35 = .ok (.iload_n 2, 1) := by decide +kernel
theorem dX5_whole_36 : decode cX5_whole 36 = .ok (.invokevirtual 195, 3) := by decide +kernel
theorem dX5_whole_39 : decode cX5_whole 39 = .ok (.ireturn, 1) := by decide +kernel
theorem dX5_whole_40 : decode cX5_whole 40 = .ok (.aload_n 0, 1) := by decide +kernel
theorem dX5_whole_41 : decode cX5_whole 41 = .ok (.getfield 19, 3) := by decide +kernel
theorem dX5_whole_44 : decode cX5_whole 44 = .ok (.iload_n 2, 1) := by decide +kernel
theorem dX5_whole_45 : decode cX5_whole 45 = .ok (.invokevirtual 189, 3) := by decide +kernel
theorem dX5_whole_48 : decode cX5_whole 48 = .ok (.aload_n 0, 1) := by decide +kernel
theorem dX5_whole_49 : decode cX5_whole 49 = .ok (.getfield 19, 3) := by decide +kernel
theorem dX5_whole_52 : decode cX5_whole 52 = .ok (.invokevirtual 198, 3) := by decide +kernel
theorem dX5_whole_55 : decode cX5_whole 55 = .ok (.ireturn, 1) := by decide +kernel
theorem dX5_advice_0 : decode cX5_advice 0 = .ok (.aload_n 0, 1) := by decide +kernel
theorem dX5_advice_1 : decode cX5_advice 1 = .ok (.getfield 10, 3) := by decide +kernel
theorem dX5_advice_4 : decode cX5_advice 4 = .ok (.invokevirtual 201, 3) := by decide +kernel
theorem dX5_advice_7 : decode cX5_advice 7 = .ok (.ireturn, 1) := by decide +kernel
theorem dX5_rustShare_0 : decode cX5_rustShare 0 = .ok (.aload_n 0, 1) := by decide +kernel
theorem dX5_rustShare_1 : decode cX5_rustShare 1 = .ok (.getfield 10, 3) := by decide +kernel
theorem dX5_rustShare_4 : decode cX5_rustShare 4 = .ok (.invokevirtual 207, 3) := by decide +kernel
theorem dX5_rustShare_7 : decode cX5_rustShare 7 = .ok (.dreturn, 1) := by decide +kernel
theorem dX5_requireRow_0 : decode cX5_requireRow 0 = .ok (.iload_n 0, 1) := by decide +kernel
theorem dX5_requireRow_1 : decode cX5_requireRow 1 = .ok (.ifCond .lt 8, 3) := by decide +kernel
theorem dX5_requireRow_4 : decode cX5_requireRow 4 = .ok (.iload_n 0, 1) := by decide +kernel
theorem dX5_requireRow_5 : decode cX5_requireRow 5 = .ok (.iconst 3, 1) := by decide +kernel
theorem dX5_requireRow_6 : decode cX5_requireRow 6 = .ok (.if_icmp .lt 13, 3) := by decide +kernel
theorem dX5_requireRow_9 : decode cX5_requireRow 9 = .ok (.new 89, 3) := by decide +kernel
theorem dX5_requireRow_12 : decode cX5_requireRow 12 = .ok (.dup, 1) := by decide +kernel
theorem dX5_requireRow_13 : decode cX5_requireRow 13 = .ok (.ldc 231, 2) := by decide +kernel
theorem dX5_requireRow_15 : decode cX5_requireRow 15 = .ok (.invokespecial 93, 3) := by decide +kernel
theorem dX5_requireRow_18 : decode cX5_requireRow 18 = .ok (.athrow, 1) := by decide +kernel
theorem dX5_requireRow_19 : decode cX5_requireRow 19 = .ok (.return_, 1) := by decide +kernel
theorem dX5_requireEnd_0 : decode cX5_requireEnd 0 = .ok (.iload_n 0, 1) := by decide +kernel
theorem dX5_requireEnd_1 : decode cX5_requireEnd 1 = .ok (.ifCond .lt 8, 3) := by decide +kernel
theorem dX5_requireEnd_4 : decode cX5_requireEnd 4 = .ok (.iload_n 0, 1) := by decide +kernel
theorem dX5_requireEnd_5 : decode cX5_requireEnd 5 = .ok (.iconst 1, 1) := by decide +kernel
theorem dX5_requireEnd_6 : decode cX5_requireEnd 6 = .ok (.if_icmp .le 13, 3) := by decide +kernel
theorem dX5_requireEnd_9 : decode cX5_requireEnd 9 = .ok (.new 45, 3) := by decide +kernel
theorem dX5_requireEnd_12 : decode cX5_requireEnd 12 = .ok (.dup, 1) := by decide +kernel
theorem dX5_requireEnd_13 : decode cX5_requireEnd 13 = .ok (.ldc 233, 2) := by decide +kernel
theorem dX5_requireEnd_15 : decode cX5_requireEnd 15 = .ok (.invokespecial 49, 3) := by decide +kernel
theorem dX5_requireEnd_18 : decode cX5_requireEnd 18 = .ok (.athrow, 1) := by decide +kernel
theorem dX5_requireEnd_19 : decode cX5_requireEnd 19 = .ok (.return_, 1) := by decide +kernel
theorem dX5_requirePlayer_0 : decode cX5_requirePlayer 0 = .ok (.aload_n 0, 1) := by decide +kernel
theorem dX5_requirePlayer_1 : decode cX5_requirePlayer 1 = .ok (.getfield 10, 3) := by decide +kernel
theorem dX5_requirePlayer_4 : decode cX5_requirePlayer 4 = .ok (.iload_n 1, 1) := by decide +kernel
theorem dX5_requirePlayer_5 : decode cX5_requirePlayer 5 = .ok (.invokevirtual 235, 3) := by decide +kernel
theorem dX5_requirePlayer_8 : decode cX5_requirePlayer 8 = .ok (.ifCond .ne 13, 3) := by decide +kernel
theorem dX5_requirePlayer_11 : decode cX5_requirePlayer 11 = .ok (.new 89, 3) := by decide +kernel
theorem dX5_requirePlayer_14 : decode cX5_requirePlayer 14 = .ok (.dup, 1) := by decide +kernel
theorem dX5_requirePlayer_15 : decode cX5_requirePlayer 15 = .ok (.ldc 239, 2) := by decide +kernel
theorem dX5_requirePlayer_17 : decode cX5_requirePlayer 17 = .ok (.invokespecial 93, 3) := by decide +kernel
theorem dX5_requirePlayer_20 : decode cX5_requirePlayer 20 = .ok (.athrow, 1) := by decide +kernel
theorem dX5_requirePlayer_21 : decode cX5_requirePlayer 21 = .ok (.return_, 1) := by decide +kernel
theorem dX5_requirePlace_0 : decode cX5_requirePlace 0 = .ok (.iload_n 0, 1) := by decide +kernel
theorem dX5_requirePlace_1 : decode cX5_requirePlace 1 = .ok (.ifCond .ge 13, 3) := by decide +kernel
theorem dX5_requirePlace_4 : decode cX5_requirePlace 4 = .ok (.new 45, 3) := by decide +kernel
theorem dX5_requirePlace_7 : decode cX5_requirePlace 7 = .ok (.dup, 1) := by decide +kernel
theorem dX5_requirePlace_8 : decode cX5_requirePlace 8 = .ok (.ldc 241, 2) := by decide +kernel
theorem dX5_requirePlace_10 : decode cX5_requirePlace 10 = .ok (.invokespecial 49, 3) := by decide +kernel
theorem dX5_requirePlace_13 : decode cX5_requirePlace 13 = .ok (.athrow, 1) := by decide +kernel
theorem dX5_requirePlace_14 : decode cX5_requirePlace 14 = .ok (.return_, 1) := by decide +kernel
theorem dX5_requireWhat_0 : decode cX5_requireWhat 0 = .ok (.iload_n 0, 1) := by decide +kernel
theorem dX5_requireWhat_1 : decode cX5_requireWhat 1 = .ok (.ifCond .lt 8, 3) := by decide +kernel
theorem dX5_requireWhat_4 : decode cX5_requireWhat 4 = .ok (.iload_n 0, 1) := by decide +kernel
theorem dX5_requireWhat_5 : decode cX5_requireWhat 5 = .ok (.iload_n 1, 1) := by decide +kernel
theorem dX5_requireWhat_6 : decode cX5_requireWhat 6 = .ok (.if_icmp .lt 13, 3) := by decide +kernel
theorem dX5_requireWhat_9 : decode cX5_requireWhat 9 = .ok (.new 45, 3) := by decide +kernel
theorem dX5_requireWhat_12 : decode cX5_requireWhat 12 = .ok (.dup, 1) := by decide +kernel
theorem dX5_requireWhat_13 : decode cX5_requireWhat 13 = .ok (.ldc 243, 2) := by decide +kernel
theorem dX5_requireWhat_15 : decode cX5_requireWhat 15 = .ok (.invokespecial 49, 3) := by decide +kernel
theorem dX5_requireWhat_18 : decode cX5_requireWhat 18 = .ok (.athrow, 1) := by decide +kernel
theorem dX5_requireWhat_19 : decode cX5_requireWhat 19 = .ok (.return_, 1) := by decide +kernel
theorem dX5_requireGrade_0 : decode cX5_requireGrade 0 = .ok (.iload_n 0, 1) := by decide +kernel
theorem dX5_requireGrade_1 : decode cX5_requireGrade 1 = .ok (.ifCond .lt 9, 3) := by decide +kernel
theorem dX5_requireGrade_4 : decode cX5_requireGrade 4 = .ok (.iload_n 0, 1) := by decide +kernel
theorem dX5_requireGrade_5 : decode cX5_requireGrade 5 = .ok (.bipush 7, 2) := by decide +kernel
theorem dX5_requireGrade_7 : decode cX5_requireGrade 7 = .ok (.if_icmp .lt 13, 3) := by decide +kernel
theorem dX5_requireGrade_10 : decode cX5_requireGrade 10 = .ok (.new 45, 3) := by decide +kernel
theorem dX5_requireGrade_13 : decode cX5_requireGrade 13 = .ok (.dup, 1) := by decide +kernel
theorem dX5_requireGrade_14 : decode cX5_requireGrade 14 = .ok (.ldc 245, 2) := by decide +kernel
theorem dX5_requireGrade_16 : decode cX5_requireGrade 16 = .ok (.invokespecial 49, 3) := by decide +kernel
theorem dX5_requireGrade_19 : decode cX5_requireGrade 19 = .ok (.athrow, 1) := by decide +kernel
theorem dX5_requireGrade_20 : decode cX5_requireGrade 20 = .ok (.return_, 1) := by decide +kernel
