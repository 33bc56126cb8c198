/-! decode rows, as printed -/
theorem dX5_init_0 : decode cX5_init 0 = .ok (.aload_n 0, 1) := by decide +kernel
theorem dX5_init_1 : decode cX5_init 1 = .ok (.invokespecial 1, 3) := by decide +kernel
theorem dX5_init_4 : decode cX5_init 4 = .ok (.aload_n 0, 1) := by decide +kernel
theorem dX5_init_5 : decode cX5_init 5 = .ok (.new 7, 3) := by decide +kernel
theorem dX5_init_8 : decode cX5_init 8 = .ok (.dup, 1) := by decide +kernel
theorem dX5_init_9 : decode cX5_init 9 = .ok (.invokespecial 9, 3) := by decide +kernel
theorem dX5_init_12 : decode cX5_init 12 = .ok (.putfield 10, 3) := by decide +kernel
theorem dX5_init_15 : decode cX5_init 15 = .ok (.aload_n 0, 1) := by decide +kernel
theorem dX5_init_16 : decode cX5_init 16 = .ok (.new 16, 3) := by decide +kernel
theorem dX5_init_19 : decode cX5_init 19 = .ok (.dup, 1) := by decide +kernel
theorem dX5_init_20 : decode cX5_init 20 = .ok (.invokespecial 18, 3) := by decide +kernel
theorem dX5_init_23 : decode cX5_init 23 = .ok (.putfield 19, 3) := by decide +kernel
theorem dX5_init_26 : decode cX5_init 26 = .ok (.aload_n 0, 1) := by decide +kernel
theorem dX5_init_27 : decode cX5_init 27 = .ok (.new 23, 3) := by decide +kernel
theorem dX5_init_30 : decode cX5_init 30 = .ok (.dup, 1) := by decide +kernel
theorem dX5_init_31 : decode cX5_init 31 = .ok (.invokespecial 25, 3) := by decide +kernel
theorem dX5_init_34 : decode cX5_init 34 = .ok (.putfield 26, 3) := by decide +kernel
theorem dX5_init_37 : decode cX5_init 37 = .ok (.aload_n 0, 1) := by decide +kernel
theorem dX5_init_38 : decode cX5_init 38 = .ok (.new 30, 3) := by decide +kernel
theorem dX5_init_41 : decode cX5_init 41 = .ok (.dup, 1) := by decide +kernel
theorem dX5_init_42 : decode cX5_init 42 = .ok (.invokespecial 32, 3) := by decide +kernel
theorem dX5_init_45 : decode cX5_init 45 = .ok (.putfield 33, 3) := by decide +kernel
theorem dX5_init_48 : decode cX5_init 48 = .ok (.aload_n 0, 1) := by decide +kernel
theorem dX5_init_49 : decode cX5_init 49 = .ok (.iconst 2, 1) := by decide +kernel
theorem dX5_init_50 : decode cX5_init 50 = .ok (.anewarray 7, 3) := by decide +kernel
theorem dX5_init_53 : decode cX5_init 53 = .ok (.putfield 37, 3) := by decide +kernel
theorem dX5_init_56 : decode cX5_init 56 = .ok (.aload_n 0, 1) := by decide +kernel
theorem dX5_init_57 : decode cX5_init 57 = .ok (.getfield 10, 3) := by decide +kernel
theorem dX5_init_60 : decode cX5_init 60 = .ok (.iconst 2, 1) := by decide +kernel
theorem dX5_init_61 : decode cX5_init 61 = .ok (.iconst 1, 1) := by decide +kernel
theorem dX5_init_62 : decode cX5_init 62 = .ok (.invokevirtual 41, 3) := by decide +kernel
theorem dX5_init_65 : decode cX5_init 65 = .ok (.return_, 1) := by decide +kernel
theorem dX5_begin_0 : decode cX5_begin 0 = .ok (.iload_n 1, 1) := by decide +kernel
theorem dX5_begin_1 : decode cX5_begin 1 = .ok (.iconst 2, 1) := by decide +kernel
theorem dX5_begin_2 : decode cX5_begin 2 = .ok (.if_icmp .lt 19, 3) := by decide +kernel
theorem dX5_begin_5 : decode cX5_begin 5 = .ok (.iload_n 1, 1) := by decide +kernel
theorem dX5_begin_6 : decode cX5_begin 6 = .ok (.iconst 4, 1) := by decide +kernel
theorem dX5_begin_7 : decode cX5_begin 7 = .ok (.if_icmp .gt 14, 3) := by decide +kernel
theorem dX5_begin_10 : decode cX5_begin 10 = .ok (.iload_n 2, 1) := by decide +kernel
theorem dX5_begin_11 : decode cX5_begin 11 = .ok (.ifCond .lt 10, 3) := by decide +kernel
theorem dX5_begin_14 : decode cX5_begin 14 = .ok (.iload_n 2, 1) := by decide +kernel
theorem dX5_begin_15 : decode cX5_begin 15 = .ok (.sipush 10000, 3) := by decide +kernel
theorem dX5_begin_18 : decode cX5_begin 18 = .ok (.if_icmp .lt 13, 3) := by decide +kernel
theorem dX5_begin_21 : decode cX5_begin 21 = .ok (.new 45, 3) := by decide +kernel
theorem dX5_begin_24 : decode cX5_begin 24 = .ok (.dup, 1) := by decide +kernel
theorem dX5_begin_25 : decode cX5_begin 25 = .ok (.ldc 47, 2) := by decide +kernel
theorem dX5_begin_27 : decode cX5_begin 27 = .ok (.invokespecial 49, 3) := by decide +kernel
theorem dX5_begin_30 : decode cX5_begin 30 = .ok (.athrow, 1) := by decide +kernel
theorem dX5_begin_31 : decode cX5_begin 31 = .ok (.aload_n 0, 1) := by decide +kernel
theorem dX5_begin_32 : decode cX5_begin 32 = .ok (.getfield 33, 3) := by decide +kernel
theorem dX5_begin_35 : decode cX5_begin 35 = .ok (.aload_n 0, 1) := by decide +kernel
theorem dX5_begin_36 : decode cX5_begin 36 = .ok (.getfield 10, 3) := by decide +kernel
theorem dX5_begin_39 : decode cX5_begin 39 = .ok (.invokevirtual 52, 3) := by decide +kernel
theorem dX5_begin_42 : decode cX5_begin 42 = .ok (.aload_n 0, 1) := by decide +kernel
theorem dX5_begin_43 : decode cX5_begin 43 = .ok (.getfield 10, 3) := by decide +kernel
theorem dX5_begin_46 : decode cX5_begin 46 = .ok (.iload_n 1, 1) := by decide +kernel
theorem dX5_begin_47 : decode cX5_begin 47 = .ok (.iload_n 2, 1) := by decide +kernel
theorem dX5_begin_48 : decode cX5_begin 48 = .ok (.invokevirtual 41, 3) := by decide +kernel
theorem dX5_begin_51 : decode cX5_begin 51 = .ok (.aload_n 0, 1) := by decide +kernel
theorem dX5_begin_52 : decode cX5_begin 52 = .ok (.getfield 10, 3) := by decide +kernel
theorem dX5_begin_55 : decode cX5_begin 55 = .ok (.invokevirtual 56, 3) := by decide +kernel
theorem dX5_begin_58 : decode cX5_begin 58 = .ok (.ireturn, 1) := by decide +kernel
theorem dX5_lay_0 : decode cX5_lay 0 = .ok (.iload_n 2, 1) := by decide +kernel
theorem dX5_lay_1 : decode cX5_lay 1 = .ok (.invokestatic 60, 3) := by decide +kernel
theorem dX5_lay_4 : decode cX5_lay 4 = .ok (.iload_n 3, 1) := by decide +kernel
theorem dX5_lay_5 : decode cX5_lay 5 = .ok (.invokestatic 64, 3) := by decide +kernel
theorem dX5_lay_8 : decode cX5_lay 8 = .ok (.aload_n 0, 1) := by decide +kernel
theorem dX5_lay_9 : decode cX5_lay 9 = .ok (.getfield 33, 3) := by decide +kernel
theorem dX5_lay_12 : decode cX5_lay 12 = .ok (.aload_n 0, 1) := by decide +kernel
theorem dX5_lay_13 : decode cX5_lay 13 = .ok (.getfield 10, 3) := by decide +kernel
theorem dX5_lay_16 : decode cX5_lay 16 = .ok (.invokevirtual 52, 3) := by decide +kernel
theorem dX5_lay_19 : decode cX5_lay 19 = .ok (.aload_n 0, 1) := by decide +kernel
theorem dX5_lay_20 : decode cX5_lay 20 = .ok (.getfield 10, 3) := by decide +kernel
theorem dX5_lay_23 : decode cX5_lay 23 = .ok (.iload_n 1, 1) := by decide +kernel
theorem dX5_lay_24 : decode cX5_lay 24 = .ok (.iload_n 2, 1) := by decide +kernel
theorem dX5_lay_25 : decode cX5_lay 25 = .ok (.iload_n 3, 1) := by decide +kernel
theorem dX5_lay_26 : decode cX5_lay 26 = .ok (.invokevirtual 67, 3) := by decide +kernel
theorem dX5_lay_29 : decode cX5_lay 29 = .ok (.ireturn, 1) := by decide +kernel
theorem dX5_draw_0 : decode cX5_draw 0 = .ok (.aload_n 0, 1) := by decide +kernel
theorem dX5_draw_1 : decode cX5_draw 1 = .ok (.getfield 33, 3) := by decide +kernel
theorem dX5_draw_4 : decode cX5_draw 4 = .ok (.aload_n 0, 1) := by decide +kernel
theorem dX5_draw_5 : decode cX5_draw 5 = .ok (.getfield 10, 3) := by decide +kernel
theorem dX5_draw_8 : decode cX5_draw 8 = .ok (.invokevirtual 52, 3) := by decide +kernel
theorem dX5_draw_11 : decode cX5_draw 11 = .ok (.aload_n 0, 1) := by decide +kernel
theorem dX5_draw_12 : decode cX5_draw 12 = .ok (.getfield 10, 3) := by decide +kernel
theorem dX5_draw_15 : decode cX5_draw 15 = .ok (.invokevirtual 71, 3) := by decide +kernel
theorem dX5_draw_18 : decode cX5_draw 18 = .ok (.ireturn, 1) := by decide +kernel
theorem dX5_pass_0 : decode cX5_pass 0 = .ok (.aload_n 0, 1) := by decide +kernel
theorem dX5_pass_1 : decode cX5_pass 1 = .ok (.getfield 33, 3) := by decide +kernel
theorem dX5_pass_4 : decode cX5_pass 4 = .ok (.aload_n 0, 1) := by decide +kernel
theorem dX5_pass_5 : decode cX5_pass 5 = .ok (.getfield 10, 3) := by decide +kernel
theorem dX5_pass_8 : decode cX5_pass 8 = .ok (.invokevirtual 52, 3) := by decide +kernel
theorem dX5_pass_11 : decode cX5_pass 11 = .ok (.aload_n 0, 1) := by decide +kernel
theorem dX5_pass_12 : decode cX5_pass 12 = .ok (.getfield 10, 3) := by decide +kernel
theorem dX5_pass_15 : decode cX5_pass 15 = .ok (.invokevirtual 74, 3) := by decide +kernel
theorem dX5_pass_18 : decode cX5_pass 18 = .ok (.ireturn, 1) := by decide +kernel
theorem dX5_oil_0 : decode cX5_oil 0 = .ok (.aload_n 0, 1) := by decide +kernel
theorem dX5_oil_1 : decode cX5_oil 1 = .ok (.getfield 10, 3) := by decide +kernel
theorem dX5_oil_4 : decode cX5_oil 4 = .ok (.invokevirtual 77, 3) := by decide +kernel
theorem dX5_oil_7 : decode cX5_oil 7 = .ok (.ifCond .ne 31, 3) := by decide +kernel
theorem dX5_oil_10 : decode cX5_oil 10 = .ok (.aload_n 0, 1) := by decide +kernel
theorem dX5_oil_11 : decode cX5_oil 11 = .ok (.getfield 10, 3) := by decide +kernel
theorem dX5_oil_14 : decode cX5_oil 14 = .ok (.aload_n 0, 1) := by decide +kernel
theorem dX5_oil_15 : decode cX5_oil 15 = .ok (.getfield 10, 3) := by decide +kernel
theorem dX5_oil_18 : decode cX5_oil 18 = .ok (.getfield 81, 3) := by decide +kernel
theorem dX5_oil_21 : decode cX5_oil 21 = .ok (.iload_n 1, 1) := by decide +kernel
theorem dX5_oil_22 : decode cX5_oil 22 = .ok (.invokevirtual 85, 3) := by decide +kernel
theorem dX5_oil_25 : decode cX5_oil 25 = .ok (.ifCond .ne 13, 3) := by decide +kernel
theorem dX5_oil_28 : decode cX5_oil 28 = .ok (.new 89, 3) := by decide +kernel
theorem dX5_oil_31 : decode cX5_oil 31 = .ok (.dup, 1) := by decide +kernel
theorem dX5_oil_32 : decode cX5_oil 32 = .ok (.ldc 91, 2) := by decide +kernel
theorem dX5_oil_34 : decode cX5_oil 34 = .ok (.invokespecial 93, 3) := by decide +kernel
theorem dX5_oil_37 : decode cX5_oil 37 = .ok (.athrow, 1) := by decide +kernel
theorem dX5_oil_38 : decode cX5_oil 38 = .ok (.aload_n 0, 1) := by decide +kernel
theorem dX5_oil_39 : decode cX5_oil 39 = .ok (.getfield 33, 3) := by decide +kernel
theorem dX5_oil_42 : decode cX5_oil 42 = .ok (.aload_n 0, 1) := by decide +kernel
theorem dX5_oil_43 : decode cX5_oil 43 = .ok (.getfield 10, 3) := by decide +kernel
theorem dX5_oil_46 : decode cX5_oil 46 = .ok (.invokevirtual 52, 3) := by decide +kernel
theorem dX5_oil_49 : decode cX5_oil 49 = .ok (.aload_n 0, 1) := by decide +kernel
theorem dX5_oil_50 : decode cX5_oil 50 = .ok (.getfield 10, 3) := by decide +kernel
theorem dX5_oil_53 : decode cX5_oil 53 = .ok (.iload_n 1, 1) := by decide +kernel
theorem dX5_oil_54 : decode cX5_oil 54 = .ok (.invokevirtual 94, 3) := by decide +kernel
theorem dX5_oil_57 : decode cX5_oil 57 = .ok (.ireturn, 1) := by decide +kernel
theorem dX5_set_0 : decode cX5_set 0 = .ok (.iload_n 1, 1) := by decide +kernel
theorem dX5_set_1 : decode cX5_set 1 = .ok (.iconst 1, 1) := by decide +kernel
theorem dX5_set_2 : decode cX5_set 2 = .ok (.if_icmp .lt 9, 3) := by decide +kernel
theorem dX5_set_5 : decode cX5_set 5 = .ok (.iload_n 1, 1) := by decide +kernel
theorem dX5_set_6 : decode cX5_set 6 = .ok (.bipush 9, 2) := by decide +kernel
theorem dX5_set_8 : decode cX5_set 8 = .ok (.if_icmp .le 13, 3) := by decide +kernel
theorem dX5_set_11 : decode cX5_set 11 = .ok (.new 45, 3) := by decide +kernel
theorem dX5_set_14 : decode cX5_set 14 = .ok (.dup, 1) := by decide +kernel
theorem dX5_set_15 : decode cX5_set 15 = .ok (.ldc 98, 2) := by decide +kernel
theorem dX5_set_17 : decode cX5_set 17 = .ok (.invokespecial 49, 3) := by decide +kernel
theorem dX5_set_20 : decode cX5_set 20 = .ok (.athrow, 1) := by decide +kernel
theorem dX5_set_21 : decode cX5_set 21 = .ok (.aload_n 0, 1) := by decide +kernel
theorem dX5_set_22 : decode cX5_set 22 = .ok (.getfield 33, 3) := by decide +kernel
theorem dX5_set_25 : decode cX5_set 25 = .ok (.aload_n 0, 1) := by decide +kernel
theorem dX5_set_26 : decode cX5_set 26 = .ok (.getfield 10, 3) := by decide +kernel
theorem dX5_set_29 : decode cX5_set 29 = .ok (.invokevirtual 52, 3) := by decide +kernel
theorem dX5_set_32 : decode cX5_set 32 = .ok (.aload_n 0, 1) := by decide +kernel
theorem dX5_set_33 : decode cX5_set 33 = .ok (.getfield 10, 3) := by decide +kernel
theorem dX5_set_36 : decode cX5_set 36 = .ok (.getfield 100, 3) := by decide +kernel
theorem dX5_set_39 : decode cX5_set 39 = .ok (.istore_n 2, 1) := by decide +kernel
theorem dX5_set_40 : decode cX5_set 40 = .ok (.aload_n 0, 1) := by decide +kernel
theorem dX5_set_41 : decode cX5_set 41 = .ok (.getfield 10, 3) := by decide +kernel
theorem dX5_set_44 : decode cX5_set 44 = .ok (.iload_n 1, 1) := by decide +kernel
theorem dX5_set_45 : decode cX5_set 45 = .ok (.putfield 100, 3) := by decide +kernel
theorem dX5_set_48 : decode cX5_set 48 = .ok (.iload_n 2, 1) := by decide +kernel
theorem dX5_set_49 : decode cX5_set 49 = .ok (.ireturn, 1) := by decide +kernel
theorem dX5_append_0 : decode cX5_append 0 = .ok (.iload_n 1, 1) := by decide +kernel
theorem dX5_append_1 : decode cX5_append 1 = .ok (.bipush 33, 2) := by decide +kernel
theorem dX5_append_3 : decode cX5_append 3 = .ok (.if_icmp .lt 9, 3) := by decide +kernel
theorem dX5_append_6 : decode cX5_append 6 = .ok (.iload_n 1, 1) := by decide +kernel
theorem dX5_append_7 : decode cX5_append 7 = .ok (.bipush 126, 2) := by decide +kernel
theorem dX5_append_9 : decode cX5_append 9 = .ok (.if_icmp .le 13, 3) := by decide +kernel
theorem dX5_append_12 : decode cX5_append 12 = .ok (.new 45, 3) := by decide +kernel
theorem dX5_append_15 : decode cX5_append 15 = .ok (.dup, 1) := by decide +kernel
theorem dX5_append_16 : decode cX5_append 16 = .ok (.ldc 103, 2) := by decide +kernel
theorem dX5_append_18 : decode cX5_append 18 = .ok (.invokespecial 49, 3) := by decide +kernel
theorem dX5_append_21 : decode cX5_append 21 = .ok (.athrow, 1) := by decide +kernel
theorem dX5_append_22 : decode cX5_append 22 = .ok (.aload_n 0, 1) := by decide +kernel
theorem dX5_append_23 : decode cX5_append 23 = .ok (.getfield 26, 3) := by decide +kernel
theorem dX5_append_26 : decode cX5_append 26 = .ok (.getfield 105, 3) := by decide +kernel
theorem dX5_append_29 : decode cX5_append 29 = .ok (.bipush 60, 2) := by decide +kernel
theorem dX5_append_31 : decode cX5_append 31 = .ok (.if_icmp .lt 13, 3) := by decide +kernel
theorem dX5_append_34 : decode cX5_append 34 = .ok (.new 108, 3) := by decide +kernel
theorem dX5_append_37 : decode cX5_append 37 = .ok (.dup, 1) := by decide +kernel
theorem dX5_append_38 : decode cX5_append 38 = .ok (.ldc 110, 2) := by decide +kernel
theorem dX5_append_40 : decode cX5_append 40 = .ok (.invokespecial 112, 3) := by decide +kernel
theorem dX5_append_43 : decode cX5_append 43 = .ok (.athrow, 1) := by decide +kernel
theorem dX5_append_44 : decode cX5_append 44 = .ok (.aload_n 0, 1) := by decide +kernel
theorem dX5_append_45 : decode cX5_append 45 = .ok (.getfield 26, 3) := by decide +kernel
theorem dX5_append_48 : decode cX5_append 48 = .ok (.iload_n 1, 1) := by decide +kernel
theorem dX5_append_49 : decode cX5_append 49 = .ok (.invokevirtual 113, 3) := by decide +kernel
theorem dX5_append_52 : decode cX5_append 52 = .ok (.aload_n 0, 1) := by decide +kernel
theorem dX5_append_53 : decode cX5_append 53 = .ok (.getfield 26, 3) := by decide +kernel
theorem dX5_append_56 : decode cX5_append 56 = .ok (.getfield 105, 3) := by decide +kernel
theorem dX5_append_59 : decode cX5_append 59 = .ok (.ireturn, 1) := by decide +kernel
theorem dX5_clearBuffer_0 : decode cX5_clearBuffer 0 = .ok (.aload_n 0, 1) := by decide +kernel
theorem dX5_clearBuffer_1 : decode cX5_clearBuffer 1 = .ok (.getfield 26, 3) := by decide +kernel
theorem dX5_clearBuffer_4 : decode cX5_clearBuffer 4 = .ok (.getfield 105, 3) := by decide +kernel
theorem dX5_clearBuffer_7 : decode cX5_clearBuffer 7 = .ok (.istore_n 1, 1) := by decide +kernel
theorem dX5_clearBuffer_8 : decode cX5_clearBuffer 8 = .ok (.aload_n 0, 1) := by decide +kernel
theorem dX5_clearBuffer_9 : decode cX5_clearBuffer 9 = .ok (.getfield 26, 3) := by decide +kernel
theorem dX5_clearBuffer_12 : decode cX5_clearBuffer 12 = .ok (.iconst 0, 1) := by decide +kernel
theorem dX5_clearBuffer_13 : decode cX5_clearBuffer 13 = .ok (.putfield 105, 3) := by decide +kernel
theorem dX5_clearBuffer_16 : decode cX5_clearBuffer 16 = .ok (.iload_n 1, 1) := by decide +kernel
theorem dX5_clearBuffer_17 : decode cX5_clearBuffer 17 = .ok (.ireturn, 1) := by decide +kernel
theorem dX5_firstError_0 : decode cX5_firstError 0 = .ok (.aload_n 0, 1) := by decide +kernel
theorem dX5_firstError_1 : decode cX5_firstError 1 = .ok (.getfield 26, 3) := by decide +kernel
theorem dX5_firstError_4 : decode cX5_firstError 4 = .ok (.invokevirtual 116, 3) := by decide +kernel
theorem dX5_firstError_7 : decode cX5_firstError 7 = .ok (.ireturn, 1) := by decide +kernel
theorem dX5_run_0 : decode cX5_run 0 = .ok (.aload_n 0, 1) := by decide +kernel
theorem dX5_run_1 : decode cX5_run 1 = .ok (.getfield 26, 3) := by decide +kernel
theorem dX5_run_4 : decode cX5_run 4 = .ok (.invokevirtual 119, 3) := by decide +kernel
theorem dX5_run_7 : decode cX5_run 7 = .ok (.ifCond .ne 13, 3) := by decide +kernel
theorem dX5_run_10 : decode cX5_run 10 = .ok (.new 45, 3) := by decide +kernel
theorem dX5_run_13 : decode cX5_run 13 = .ok (.dup, 1) := by decide +kernel
theorem dX5_run_14 : decode cX5_run 14 = .ok (.ldc 122, 2) := by decide +kernel
theorem dX5_run_16 : decode cX5_run 16 = .ok (.invokespecial 49, 3) := by decide +kernel
theorem dX5_run_19 : decode cX5_run 19 = .ok (.athrow, 1) := by decide +kernel
theorem dX5_run_20 : decode cX5_run 20 = .ok (.aload_n 0, 1) := by decide +kernel
theorem dX5_run_21 : decode cX5_run 21 = .ok (.getfield 33, 3) := by decide +kernel
theorem dX5_run_24 : decode cX5_run 24 = .ok (.aload_n 0, 1) := by decide +kernel
theorem dX5_run_25 : decode cX5_run 25 = .ok (.getfield 10, 3) := by decide +kernel
theorem dX5_run_28 : decode cX5_run 28 = .ok (.invokevirtual 52, 3) := by decide +kernel
theorem dX5_run_31 : decode cX5_run 31 = .ok (.aload_n 0, 1) := by decide +kernel
theorem dX5_run_32 : decode cX5_run 32 = .ok (.getfield 26, 3) := by decide +kernel
theorem dX5_run_35 : decode cX5_run 35 = .ok (.aload_n 0, 1) := by decide +kernel
theorem dX5_run_36 : decode cX5_run 36 = .ok (.getfield 10, 3) := by decide +kernel
theorem dX5_run_39 : decode cX5_run 39 = .ok (.invokevirtual 124, 3) := by decide +kernel
theorem dX5_run_42 : decode cX5_run 42 = .ok (.istore_n 1, 1) := by decide +kernel
theorem dX5_run_43 : decode cX5_run 43 = .ok (.aload_n 0, 1) := by decide +kernel
theorem dX5_run_44 : decode cX5_run 44 = .ok (.getfield 26, 3) := by decide +kernel
theorem dX5_run_47 : decode cX5_run 47 = .ok (.iconst 0, 1) := by decide +kernel
theorem dX5_run_48 : decode cX5_run 48 = .ok (.putfield 105, 3) := by decide +kernel
theorem dX5_run_51 : decode cX5_run 51 = .ok (.iload_n 1, 1) := by decide +kernel
theorem dX5_run_52 : decode cX5_run 52 = .ok (.ireturn, 1) := by decide +kernel
theorem dX5_keep_0 : decode cX5_keep 0 = .ok (.iload_n 1, 1) := by decide +kernel
theorem dX5_keep_1 : decode cX5_keep 1 = .ok (.ifCond .lt 12, 3) := by decide +kernel
theorem dX5_keep_4 : decode cX5_keep 4 = .ok (.iload_n 1, 1) := by decide +kernel
theorem dX5_keep_5 : decode cX5_keep 5 = .ok (.aload_n 0, 1) := by decide +kernel
theorem dX5_keep_6 : decode cX5_keep 6 = .ok (.getfield 37, 3) := by decide +kernel
theorem dX5_keep_9 : decode cX5_keep 9 = .ok (.arraylength, 1) := by decide +kernel
theorem dX5_keep_10 : decode cX5_keep 10 = .ok (.if_icmp .lt 13, 3) := by decide +kernel
theorem dX5_keep_13 : decode cX5_keep 13 = .ok (.new 45, 3) := by decide +kernel
theorem dX5_keep_16 : decode cX5_keep 16 = .ok (.dup, 1) := by decide +kernel
theorem dX5_keep_17 : decode cX5_keep 17 = .ok (.ldc 128, 2) := by decide +kernel
theorem dX5_keep_19 : decode cX5_keep 19 = .ok (.invokespecial 49, 3) := by decide +kernel
theorem dX5_keep_22 : decode cX5_keep 22 = .ok (.athrow, 1) := by decide +kernel
theorem dX5_keep_23 : decode cX5_keep 23 = .ok (.aload_n 0, 1) := by decide +kernel
theorem dX5_keep_24 : decode cX5_keep 24 = .ok (.getfield 37, 3) := by decide +kernel
theorem dX5_keep_27 : decode cX5_keep 27 = .ok (.iload_n 1, 1) := by decide +kernel
theorem dX5_keep_28 : decode cX5_keep 28 = .ok (.aaload, 1) := by decide +kernel
theorem dX5_keep_29 : decode cX5_keep 29 = .ok (.astore_n 2, 1) := by decide +kernel
theorem dX5_keep_30 : decode cX5_keep 30 = .ok (.aload_n 2, 1) := by decide +kernel
theorem dX5_keep_31 : decode cX5_keep 31 = .ok (.ifnonnull 18, 3) := by decide +kernel
theorem dX5_keep_34 : decode cX5_keep 34 = .ok (.new 7, 3) := by decide +kernel
theorem dX5_keep_37 : decode cX5_keep 37 = .ok (.dup, 1) := by decide +kernel
theorem dX5_keep_38 : decode cX5_keep 38 = .ok (.invokespecial 9, 3) := by decide +kernel
theorem dX5_keep_41 : decode cX5_keep 41 = .ok (.astore_n 2, 1) := by decide +kernel
theorem dX5_keep_42 : decode cX5_keep 42 = .ok (.aload_n 0, 1) := by decide +kernel
theorem dX5_keep_43 : decode cX5_keep 43 = .ok (.getfield 37, 3) := by decide +kernel
theorem dX5_keep_46 : decode cX5_keep 46 = .ok (.iload_n 1, 1) := by decide +kernel
theorem dX5_keep_47 : decode cX5_keep 47 = .ok (.aload_n 2, 1) := by decide +kernel
theorem dX5_keep_48 : decode cX5_keep 48 = .ok (.aastore, 1) := by decide +kernel
theorem dX5_keep_49 : decode cX5_keep 49 = .ok (.aload_n 2, 1) := by decide +kernel
theorem dX5_keep_50 : decode cX5_keep 50 = .ok (.aload_n 0, 1) := by decide +kernel
theorem dX5_keep_51 : decode cX5_keep 51 = .ok (.getfield 10, 3) := by decide +kernel
theorem dX5_keep_54 : decode cX5_keep 54 = .ok (.invokevirtual 130, 3) := by decide +kernel
theorem dX5_keep_57 : decode cX5_keep 57 = .ok (.aload_n 0, 1) := by decide +kernel
theorem dX5_keep_58 : decode cX5_keep 58 = .ok (.getfield 10, 3) := by decide +kernel
theorem dX5_keep_61 : decode cX5_keep 61 = .ok (.invokevirtual 56, 3) := by decide +kernel
theorem dX5_keep_64 : decode cX5_keep 64 = .ok (.ireturn, 1) := by decide +kernel
theorem dX5_goBack_0 : decode cX5_goBack 0 = .ok (.iload_n 1, 1) := by decide +kernel
theorem dX5_goBack_1 : decode cX5_goBack 1 = .ok (.ifCond .lt 12, 3) := by decide +kernel
theorem dX5_goBack_4 : decode cX5_goBack 4 = .ok (.iload_n 1, 1) := by decide +kernel
theorem dX5_goBack_5 : decode cX5_goBack 5 = .ok (.aload_n 0, 1) := by decide +kernel
theorem dX5_goBack_6 : decode cX5_goBack 6 = .ok (.getfield 37, 3) := by decide +kernel
theorem dX5_goBack_9 : decode cX5_goBack 9 = .ok (.arraylength, 1) := by decide +kernel
theorem dX5_goBack_10 : decode cX5_goBack 10 = .ok (.if_icmp .lt 13, 3) := by decide +kernel
theorem dX5_goBack_13 : decode cX5_goBack 13 = .ok (.new 45, 3) := by decide +kernel
theorem dX5_goBack_16 : decode cX5_goBack 16 = .ok (.dup, 1) := by decide +kernel
theorem dX5_goBack_17 : decode cX5_goBack 17 = .ok (.ldc 128, 2) := by decide +kernel
theorem dX5_goBack_19 : decode cX5_goBack 19 = .ok (.invokespecial 49, 3) := by decide +kernel
theorem dX5_goBack_22 : decode cX5_goBack 22 = .ok (.athrow, 1) := by decide +kernel
theorem dX5_goBack_23 : decode cX5_goBack 23 = .ok (.aload_n 0, 1) := by decide +kernel
theorem dX5_goBack_24 : decode cX5_goBack 24 = .ok (.getfield 37, 3) := by decide +kernel
theorem dX5_goBack_27 : decode cX5_goBack 27 = .ok (.iload_n 1, 1) := by decide +kernel
theorem dX5_goBack_28 : decode cX5_goBack 28 = .ok (.aaload, 1) := by decide +kernel
theorem dX5_goBack_29 : decode cX5_goBack 29 = .ok (.astore_n 2, 1) := by decide +kernel
theorem dX5_goBack_30 : decode cX5_goBack 30 = .ok (.aload_n 2, 1) := by decide +kernel
theorem dX5_goBack_31 : decode cX5_goBack 31 = .ok (.ifnonnull 13, 3) := by decide +kernel
theorem dX5_goBack_34 : decode cX5_goBack 34 = .ok (.new 108, 3) := by decide +kernel
theorem dX5_goBack_37 : decode cX5_goBack 37 = .ok (.dup, 1) := by decide +kernel
theorem dX5_goBack_38 : decode cX5_goBack 38 = .ok (.ldc 133, 2) := by decide +kernel
theorem dX5_goBack_40 : decode cX5_goBack 40 = .ok (.invokespecial 112, 3) := by decide +kernel
theorem dX5_goBack_43 : decode cX5_goBack 43 = .ok (.athrow, 1) := by decide +kernel
theorem dX5_goBack_44 : decode cX5_goBack 44 = .ok (.aload_n 0, 1) := by decide +kernel
theorem dX5_goBack_45 : decode cX5_goBack 45 = .ok (.getfield 33, 3) := by decide +kernel
theorem dX5_goBack_48 : decode cX5_goBack 48 = .ok (.aload_n 0, 1) := by decide +kernel
theorem dX5_goBack_49 : decode cX5_goBack 49 = .ok (.getfield 10, 3) := by decide +kernel
theorem dX5_goBack_52 : decode cX5_goBack 52 = .ok (.invokevirtual 52, 3) := by decide +kernel
theorem dX5_goBack_55 : decode cX5_goBack 55 = .ok (.aload_n 0, 1) := by decide +kernel
theorem dX5_goBack_56 : decode cX5_goBack 56 = .ok (.getfield 10, 3) := by decide +kernel
theorem dX5_goBack_59 : decode cX5_goBack 59 = .ok (.aload_n 2, 1) := by decide +kernel
theorem dX5_goBack_60 : decode cX5_goBack 60 = .ok (.invokevirtual 130, 3) := by decide +kernel
theorem dX5_goBack_63 : decode cX5_goBack 63 = .ok (.aload_n 0, 1) := by decide +kernel
theorem dX5_goBack_64 : decode cX5_goBack 64 = .ok (.getfield 10, 3) := by decide +kernel
theorem dX5_goBack_67 : decode cX5_goBack 67 = .ok (.invokevirtual 56, 3) := by decide +kernel
theorem dX5_goBack_70 : decode cX5_goBack 70 = .ok (.ireturn, 1) := by decide +kernel
theorem dX5_undo_0 : decode cX5_undo 0 = .ok (.aload_n 0, 1) := by decide +kernel
theorem dX5_undo_1 : decode cX5_undo 1 = .ok (.getfield 33, 3) := by decide +kernel
theorem dX5_undo_4 : decode cX5_undo 4 = .ok (.getfield 135, 3) := by decide +kernel
theorem dX5_undo_7 : decode cX5_undo 7 = .ok (.ifCond .ne 13, 3) := by decide +kernel
theorem dX5_undo_10 : decode cX5_undo 10 = .ok (.new 108, 3) := by decide +kernel
theorem dX5_undo_13 : decode cX5_undo 13 = .ok (.dup, 1) := by decide +kernel
theorem dX5_undo_14 : decode cX5_undo 14 = .ok (.ldc 138, 2) := by decide +kernel
theorem dX5_undo_16 : decode cX5_undo 16 = .ok (.invokespecial 112, 3) := by decide +kernel
theorem dX5_undo_19 : decode cX5_undo 19 = .ok (.athrow, 1) := by decide +kernel
theorem dX5_undo_20 : decode cX5_undo 20 = .ok (.aload_n 0, 1) := by decide +kernel
theorem dX5_undo_21 : decode cX5_undo 21 = .ok (.getfield 33, 3) := by decide +kernel
theorem dX5_undo_24 : decode cX5_undo 24 = .ok (.aload_n 0, 1) := by decide +kernel
theorem dX5_undo_25 : decode cX5_undo 25 = .ok (.getfield 10, 3) := by decide +kernel
theorem dX5_undo_28 : decode cX5_undo 28 = .ok (.invokevirtual 140, 3) := by decide +kernel
theorem dX5_undo_31 : decode cX5_undo 31 = .ok (.aload_n 0, 1) := by decide +kernel
theorem dX5_undo_32 : decode cX5_undo 32 = .ok (.getfield 33, 3) := by decide +kernel
theorem dX5_undo_35 : decode cX5_undo 35 = .ok (.getfield 135, 3) := by decide +kernel
theorem dX5_undo_38 : decode cX5_undo 38 = .ok (.ireturn, 1) := by decide +kernel
theorem dX5_tileOf_0 : decode cX5_tileOf 0 = .ok (.iload_n 1, 1) := by decide +kernel
theorem dX5_tileOf_1 : decode cX5_tileOf 1 = .ok (.ifCond .lt 9, 3) := by decide +kernel
theorem dX5_tileOf_4 : decode cX5_tileOf 4 = .ok (.iload_n 1, 1) := by decide +kernel
theorem dX5_tileOf_5 : decode cX5_tileOf 5 = .ok (.bipush 28, 2) := by decide +kernel
theorem dX5_tileOf_7 : decode cX5_tileOf 7 = .ok (.if_icmp .lt 13, 3) := by decide +kernel
theorem dX5_tileOf_10 : decode cX5_tileOf 10 = .ok (.new 89, 3) := by decide +kernel
theorem dX5_tileOf_13 : decode cX5_tileOf 13 = .ok (.dup, 1) := by decide +kernel
theorem dX5_tileOf_14 : decode cX5_tileOf 14 = .ok (.ldc 143, 2) := by decide +kernel
theorem dX5_tileOf_16 : decode cX5_tileOf 16 = .ok (.invokespecial 93, 3) := by decide +kernel
theorem dX5_tileOf_19 : decode cX5_tileOf 19 = .ok (.athrow, 1) := by decide +kernel
theorem dX5_tileOf_20 : decode cX5_tileOf 20 = .ok (.iload_n 2, 1) := by decide +kernel
theorem dX5_tileOf_21 : decode cX5_tileOf 21 = .ok (.bipush 7, 2) := by decide +kernel
theorem dX5_tileOf_23 : decode cX5_tileOf 23 = .ok (.invokestatic 145, 3) := by decide +kernel
theorem dX5_tileOf_26 : decode cX5_tileOf 26 = .ok (.aload_n 0, 1) := by decide +kernel
theorem dX5_tileOf_27 : decode cX5_tileOf 27 = .ok (.getfield 10, 3) := by decide +kernel
theorem dX5_tileOf_30 : decode cX5_tileOf 30 = .ok (.getfield 148, 3) := by decide +kernel
theorem dX5_tileOf_33 : decode cX5_tileOf 33 = .ok (.iload_n 1, 1) := by decide +kernel
theorem dX5_tileOf_34 : decode cX5_tileOf 34 = .ok (.iload_n 2, 1) := by decide +kernel
theorem dX5_tileOf_35 : decode cX5_tileOf 35 = .ok (.invokevirtual 152, 3) := by decide +kernel
theorem dX5_tileOf_38 : decode cX5_tileOf 38 = .ok (.ireturn, 1) := by decide +kernel
theorem dX5_hand_0 : decode cX5_hand 0 = .ok (.aload_n 0, 1) := by decide +kernel
theorem dX5_hand_1 : decode cX5_hand 1 = .ok (.iload_n 1, 1) := by decide +kernel
theorem dX5_hand_2 : decode cX5_hand 2 = .ok (.invokevirtual 158, 3) := by decide +kernel
theorem dX5_hand_5 : decode cX5_hand 5 = .ok (.iload_n 2, 1) := by decide +kernel
theorem dX5_hand_6 : decode cX5_hand 6 = .ok (.invokestatic 161, 3) := by decide +kernel
theorem dX5_hand_9 : decode cX5_hand 9 = .ok (.aload_n 0, 1) := by decide +kernel
theorem dX5_hand_10 : decode cX5_hand 10 = .ok (.getfield 10, 3) := by decide +kernel
theorem dX5_hand_13 : decode cX5_hand 13 = .ok (.iload_n 1, 1) := by decide +kernel
theorem dX5_hand_14 : decode cX5_hand 14 = .ok (.iload_n 2, 1) := by decide +kernel
theorem dX5_hand_15 : decode cX5_hand 15 = .ok (.invokevirtual 85, 3) := by decide +kernel
theorem dX5_hand_18 : decode cX5_hand 18 = .ok (.ifCond .eq 18, 3) := by decide +kernel
theorem dX5_hand_21 : decode cX5_hand 21 = .ok (.aload_n 0, 1) := by decide +kernel
theorem dX5_hand_22 : decode cX5_hand 22 = .ok (.getfield 10, 3) := by decide +kernel
theorem dX5_hand_25 : decode cX5_hand 25 = .ok (.getfield 164, 3) := by decide +kernel
theorem dX5_hand_28 : decode cX5_hand 28 = .ok (.iload_n 1, 1) := by decide +kernel
theorem dX5_hand_29 : decode cX5_hand 29 = .ok (.iload_n 2, 1) := by decide +kernel
theorem dX5_hand_30 : decode cX5_hand 30 = .ok (.invokevirtual 152, 3) := by decide +kernel
theorem dX5_hand_33 : decode cX5_hand 33 = .ok (.goto 4, 3) := by decide +kernel
theorem dX5_hand_36 : decode cX5_hand 36 = .ok (.iconst (-1), 1) := by decide +kernel
theorem dX5_hand_37 : decode cX5_hand 37 = .ok (.ireturn, 1) := by decide +kernel
theorem dX5_stock_0 : decode cX5_stock 0 = .ok (.iload_n 1, 1) := by decide +kernel
theorem dX5_stock_1 : decode cX5_stock 1 = .ok (.invokestatic 161, 3) := by decide +kernel
theorem dX5_stock_4 : decode cX5_stock 4 = .ok (.iload_n 1, 1) := by decide +kernel
theorem dX5_stock_5 : decode cX5_stock 5 = .ok (.aload_n 0, 1) := by decide +kernel
theorem dX5_stock_6 : decode cX5_stock 6 = .ok (.getfield 10, 3) := by decide +kernel
theorem dX5_stock_9 : decode cX5_stock 9 = .ok (.invokevirtual 56, 3) := by decide +kernel
theorem dX5_stock_12 : decode cX5_stock 12 = .ok (.if_icmp .ge 14, 3) := by decide +kernel
theorem dX5_stock_15 : decode cX5_stock 15 = .ok (.aload_n 0, 1) := by decide +kernel
theorem dX5_stock_16 : decode cX5_stock 16 = .ok (.getfield 10, 3) := by decide +kernel
theorem dX5_stock_19 : decode cX5_stock 19 = .ok (.iload_n 1, 1) := by decide +kernel
theorem dX5_stock_20 : decode cX5_stock 20 = .ok (.invokevirtual 167, 3) := by decide +kernel
theorem dX5_stock_23 : decode cX5_stock 23 = .ok (.goto 4, 3) := by decide +kernel
theorem dX5_stock_26 : decode cX5_stock 26 = .ok (.iconst (-1), 1) := by decide +kernel
theorem dX5_stock_27 : decode cX5_stock 27 = .ok (.ireturn, 1) := by decide +kernel
theorem dX5_playerOf_0 : decode cX5_playerOf 0 = .ok (.aload_n 0, 1) := by decide +kernel
theorem dX5_playerOf_1 : decode cX5_playerOf 1 = .ok (.iload_n 1, 1) := by decide +kernel
theorem dX5_playerOf_2 : decode cX5_playerOf 2 = .ok (.invokevirtual 158, 3) := by decide +kernel
theorem dX5_playerOf_5 : decode cX5_playerOf 5 = .ok (.iload_n 2, 1) := by decide +kernel
theorem dX5_playerOf_6 : decode cX5_playerOf 6 = .ok (.bipush 7, 2) := by decide +kernel
theorem dX5_playerOf_8 : decode cX5_playerOf 8 = .ok (.invokestatic 145, 3) := by decide +kernel
theorem dX5_playerOf_11 : decode cX5_playerOf 11 = .ok (.aload_n 0, 1) := by decide +kernel
theorem dX5_playerOf_12 : decode cX5_playerOf 12 = .ok (.getfield 10, 3) := by decide +kernel
theorem dX5_playerOf_15 : decode cX5_playerOf 15 = .ok (.iload_n 1, 1) := by decide +kernel
theorem dX5_playerOf_16 : decode cX5_playerOf 16 = .ok (.iload_n 2, 1) := by decide +kernel
theorem dX5_playerOf_17 : decode cX5_playerOf 17 = .ok (.invokevirtual 170, 3) := by decide +kernel
theorem dX5_playerOf_20 : decode cX5_playerOf 20 = .ok (.ireturn, 1) := by decide +kernel
theorem dX5_rowOf_0 : decode cX5_rowOf 0 = .ok (.iload_n 1, 1) := by decide +kernel
theorem dX5_rowOf_1 : decode cX5_rowOf 1 = .ok (.invokestatic 60, 3) := by decide +kernel
theorem dX5_rowOf_4 : decode cX5_rowOf 4 = .ok (.iload_n 2, 1) := by decide +kernel
theorem dX5_rowOf_5 : decode cX5_rowOf 5 = .ok (.iconst 4, 1) := by decide +kernel
theorem dX5_rowOf_6 : decode cX5_rowOf 6 = .ok (.invokestatic 145, 3) := by decide +kernel
theorem dX5_rowOf_9 : decode cX5_rowOf 9 = .ok (.aload_n 0, 1) := by decide +kernel
theorem dX5_rowOf_10 : decode cX5_rowOf 10 = .ok (.getfield 10, 3) := by decide +kernel
theorem dX5_rowOf_13 : decode cX5_rowOf 13 = .ok (.getfield 173, 3) := by decide +kernel
theorem dX5_rowOf_16 : decode cX5_rowOf 16 = .ok (.iload_n 1, 1) := by decide +kernel
theorem dX5_rowOf_17 : decode cX5_rowOf 17 = .ok (.iload_n 2, 1) := by decide +kernel
theorem dX5_rowOf_18 : decode cX5_rowOf 18 = .ok (.invokevirtual 152, 3) := by decide +kernel
theorem dX5_rowOf_21 : decode cX5_rowOf 21 = .ok (.ireturn, 1) := by decide +kernel
theorem dX5_count_0 : decode cX5_count 0 = .ok (.iload_n 1, 1) := by decide +kernel
theorem dX5_count_1 : decode cX5_count 1 = .ok (.bipush 12, 2) := by decide +kernel
theorem dX5_count_3 : decode cX5_count 3 = .ok (.invokestatic 145, 3) := by decide +kernel
theorem dX5_count_6 : decode cX5_count 6 = .ok (.aload_n 0, 1) := by decide +kernel
theorem dX5_count_7 : decode cX5_count 7 = .ok (.getfield 10, 3) := by decide +kernel
theorem dX5_count_10 : decode cX5_count 10 = .ok (.iload_n 1, 1) := by decide +kernel
theorem dX5_count_11 : decode cX5_count 11 = .ok (.aload_n 0, 1) := by decide +kernel
theorem dX5_count_12 : decode cX5_count 12 = .ok (.getfield 33, 3) := by decide +kernel
theorem dX5_count_15 : decode cX5_count 15 = .ok (.getfield 135, 3) := by decide +kernel
theorem dX5_count_18 : decode cX5_count 18 = .ok (.invokevirtual 176, 3) := by decide +kernel
theorem dX5_count_21 : decode cX5_count 21 = .ok (.ireturn, 1) := by decide +kernel
theorem dX5_setting_0 : decode cX5_setting 0 = .ok (.aload_n 0, 1) := by decide +kernel
theorem dX5_setting_1 : decode cX5_setting 1 = .ok (.getfield 10, 3) := by decide +kernel
theorem dX5_setting_4 : decode cX5_setting 4 = .ok (.getfield 100, 3) := by decide +kernel
theorem dX5_setting_7 : decode cX5_setting 7 = .ok (.ireturn, 1) := by decide +kernel
theorem dX5_whyNot_0 : decode cX5_whyNot 0 = .ok (.iload_n 2, 1) := by decide +kernel
theorem dX5_whyNot_1 : decode cX5_whyNot 1 = .ok (.invokestatic 60, 3) := by decide +kernel
theorem dX5_whyNot_4 : decode cX5_whyNot 4 = .ok (.iload_n 3, 1) := by decide +kernel
theorem dX5_whyNot_5 : decode cX5_whyNot 5 = .ok (.invokestatic 64, 3) := by decide +kernel
theorem dX5_whyNot_8 : decode cX5_whyNot 8 = .ok (.aload_n 0, 1) := by decide +kernel
theorem dX5_whyNot_9 : decode cX5_whyNot 9 = .ok (.getfield 10, 3) := by decide +kernel
theorem dX5_whyNot_12 : decode cX5_whyNot 12 = .ok (.iload_n 1, 1) := by decide +kernel
theorem dX5_whyNot_13 : decode cX5_whyNot 13 = .ok (.iload_n 2, 1) := by decide +kernel
theorem dX5_whyNot_14 : decode cX5_whyNot 14 = .ok (.iload_n 3, 1) := by decide +kernel
theorem dX5_whyNot_15 : decode cX5_whyNot 15 = .ok (.invokevirtual 179, 3) := by decide +kernel
theorem dX5_whyNot_18 : decode cX5_whyNot 18 = .ok (.ireturn, 1) := by decide +kernel
theorem dX5_longest_0 : decode cX5_longest 0 = .ok (.aload_n 0, 1) := by decide +kernel
theorem dX5_longest_1 : decode cX5_longest 1 = .ok (.iload_n 1, 1) := by decide +kernel
theorem dX5_longest_2 : decode cX5_longest 2 = .ok (.invokevirtual 158, 3) := by decide +kernel
theorem dX5_longest_5 : decode cX5_longest 5 = .ok (.iload_n 2, 1) := by decide +kernel
theorem dX5_longest_6 : decode cX5_longest 6 = .ok (.invokestatic 182, 3) := by decide +kernel
theorem dX5_longest_9 : decode cX5_longest 9 = .ok (.aload_n 0, 1) := by decide +kernel
theorem dX5_longest_10 : decode cX5_longest 10 = .ok (.getfield 19, 3) := by decide +kernel
theorem dX5_longest_13 : decode cX5_longest 13 = .ok (.aload_n 0, 1) := by decide +kernel
theorem dX5_longest_14 : decode cX5_longest 14 = .ok (.getfield 10, 3) := by decide +kernel
theorem dX5_longest_17 : decode cX5_longest 17 = .ok (.iload_n 1, 1) := by decide +kernel
theorem dX5_longest_18 : decode cX5_longest 18 = .ok (.invokevirtual 185, 3) := by decide +kernel
theorem dX5_longest_21 : decode cX5_longest 21 = .ok (.aload_n 0, 1) := by decide +kernel
theorem dX5_longest_22 : decode cX5_longest 22 = .ok (.getfield 19, 3) := by decide +kernel
theorem dX5_longest_25 : decode cX5_longest 25 = .ok (.iload_n 2, 1) := by decide +kernel
theorem dX5_longest_26 : decode cX5_longest 26 = .ok (.invokevirtual 189, 3) := by decide +kernel
theorem dX5_longest_29 : decode cX5_longest 29 = .ok (.aload_n 0, 1) := by decide +kernel
theorem dX5_longest_30 : decode cX5_longest 30 = .ok (.getfield 19, 3) := by decide +kernel
theorem dX5_longest_33 : decode cX5_longest 33 = .ok (.invokevirtual 192, 3) := by decide +kernel
theorem dX5_longest_36 : decode cX5_longest 36 = .ok (.ireturn, 1) := by decide +kernel
theorem dX5_whole_0 : decode cX5_whole 0 = .ok (.aload_n 0, 1) := by decide +kernel
theorem dX5_whole_1 : decode cX5_whole 1 = .ok (.iload_n 1, 1) := by decide +kernel
theorem dX5_whole_2 : decode cX5_whole 2 = .ok (.invokevirtual 158, 3) := by decide +kernel
theorem dX5_whole_5 : decode cX5_whole 5 = .ok (.iload_n 2, 1) := by decide +kernel
theorem dX5_whole_6 : decode cX5_whole 6 = .ok (.invokestatic 182, 3) := by decide +kernel
theorem dX5_whole_9 : decode cX5_whole 9 = .ok (.iload_n 3, 1) := by decide +kernel
theorem dX5_whole_10 : decode cX5_whole 10 = .ok (.iconst 2, 1) := by decide +kernel
theorem dX5_whole_11 : decode cX5_whole 11 = .ok (.invokestatic 145, 3) := by decide +kernel
theorem dX5_whole_14 : decode cX5_whole 14 = .ok (.aload_n 0, 1) := by decide +kernel
theorem dX5_whole_15 : decode cX5_whole 15 = .ok (.getfield 19, 3) := by decide +kernel
theorem dX5_whole_18 : decode cX5_whole 18 = .ok (.aload_n 0, 1) := by decide +kernel
theorem dX5_whole_19 : decode cX5_whole 19 = .ok (.getfield 10, 3) := by decide +kernel
theorem dX5_whole_22 : decode cX5_whole 22 = .ok (.iload_n 1, 1) := by decide +kernel
theorem dX5_whole_23 : decode cX5_whole 23 = .ok (.invokevirtual 185, 3) := by decide +kernel
theorem dX5_whole_26 : decode cX5_whole 26 = .ok (.iload_n 3, 1) := by decide +kernel
theorem dX5_whole_27 : decode cX5_whole 27 = .ok (.iconst 1, 1) := by decide +kernel
theorem dX5_whole_28 : decode cX5_whole 28 = .ok (.if_icmp .ne 12, 3) := by decide +kernel
theorem dX5_whole_31 : decode cX5_whole 31 = .ok (.aload_n 0, 1) := by decide +kernel
theorem dX5_whole_32 : decode cX5_whole 32 = .ok (.getfield 19, 3) := by decide +kernel
theorem dX5_whole_35 : decode cX5_whole 35 = .ok (.iload_n 2, 1) := by decide +kernel
theorem dX5_whole_36 : decode cX5_whole 36 = .ok (.invokevirtual 195, 3) := by decide +kernel
theorem dX5_whole_39 : decode cX5_whole 39 = .ok (.ireturn, 1) := by decide +kernel
theorem dX5_whole_40 : decode cX5_whole 40 = .ok (.aload_n 0, 1) := by decide +kernel
theorem dX5_whole_41 : decode cX5_whole 41 = .ok (.getfield 19, 3) := by decide +kernel
theorem dX5_whole_44 : decode cX5_whole 44 = .ok (.iload_n 2, 1) := by decide +kernel
theorem dX5_whole_45 : decode cX5_whole 45 = .ok (.invokevirtual 189, 3) := by decide +kernel
theorem dX5_whole_48 : decode cX5_whole 48 = .ok (.aload_n 0, 1) := by decide +kernel
theorem dX5_whole_49 : decode cX5_whole 49 = .ok (.getfield 19, 3) := by decide +kernel
theorem dX5_whole_52 : decode cX5_whole 52 = .ok (.invokevirtual 198, 3) := by decide +kernel
theorem dX5_whole_55 : decode cX5_whole 55 = .ok (.ireturn, 1) := by decide +kernel
theorem dX5_advice_0 : decode cX5_advice 0 = .ok (.aload_n 0, 1) := by decide +kernel
theorem dX5_advice_1 : decode cX5_advice 1 = .ok (.getfield 10, 3) := by decide +kernel
theorem dX5_advice_4 : decode cX5_advice 4 = .ok (.invokevirtual 201, 3) := by decide +kernel
theorem dX5_advice_7 : decode cX5_advice 7 = .ok (.ireturn, 1) := by decide +kernel
theorem dX5_commonest_0 : decode cX5_commonest 0 = .ok (.aload_n 0, 1) := by decide +kernel
theorem dX5_commonest_1 : decode cX5_commonest 1 = .ok (.getfield 10, 3) := by decide +kernel
theorem dX5_commonest_4 : decode cX5_commonest 4 = .ok (.invokevirtual 204, 3) := by decide +kernel
theorem dX5_commonest_7 : decode cX5_commonest 7 = .ok (.ireturn, 1) := by decide +kernel
theorem dX5_rustShare_0 : decode cX5_rustShare 0 = .ok (.aload_n 0, 1) := by decide +kernel
theorem dX5_rustShare_1 : decode cX5_rustShare 1 = .ok (.getfield 10, 3) := by decide +kernel
theorem dX5_rustShare_4 : decode cX5_rustShare 4 = .ok (.invokevirtual 207, 3) := by decide +kernel
theorem dX5_rustShare_7 : decode cX5_rustShare 7 = .ok (.dreturn, 1) := by decide +kernel
theorem dX5_digest_0 : decode cX5_digest 0 = .ok (.ldc2_w 211, 3) := by decide +kernel
theorem dX5_digest_3 : decode cX5_digest 3 = .ok (.lstore_n 1, 1) := by decide +kernel
theorem dX5_digest_4 : decode cX5_digest 4 = .ok (.iconst 0, 1) := by decide +kernel
theorem dX5_digest_5 : decode cX5_digest 5 = .ok (.istore_n 3, 1) := by decide +kernel
theorem dX5_digest_6 : decode cX5_digest 6 = .ok (.iload_n 3, 1) := by decide +kernel
theorem dX5_digest_7 : decode cX5_digest 7 = .ok (.bipush 12, 2) := by decide +kernel
theorem dX5_digest_9 : decode cX5_digest 9 = .ok (.if_icmp .ge 32, 3) := by decide +kernel
theorem dX5_digest_12 : decode cX5_digest 12 = .ok (.ldc2_w 213, 3) := by decide +kernel
theorem dX5_digest_15 : decode cX5_digest 15 = .ok (.lload_n 1, 1) := by decide +kernel
theorem dX5_digest_16 : decode cX5_digest 16 = .ok (.lmul, 1) := by decide +kernel
theorem dX5_digest_17 : decode cX5_digest 17 = .ok (.aload_n 0, 1) := by decide +kernel
theorem dX5_digest_18 : decode cX5_digest 18 = .ok (.getfield 10, 3) := by decide +kernel
theorem dX5_digest_21 : decode cX5_digest 21 = .ok (.iload_n 3, 1) := by decide +kernel
theorem dX5_digest_22 : decode cX5_digest 22 = .ok (.aload_n 0, 1) := by decide +kernel
theorem dX5_digest_23 : decode cX5_digest 23 = .ok (.getfield 33, 3) := by decide +kernel
theorem dX5_digest_26 : decode cX5_digest 26 = .ok (.getfield 135, 3) := by decide +kernel
theorem dX5_digest_29 : decode cX5_digest 29 = .ok (.invokevirtual 176, 3) := by decide +kernel
theorem dX5_digest_32 : decode cX5_digest 32 = .ok (.i2l, 1) := by decide +kernel
theorem dX5_digest_33 : decode cX5_digest 33 = .ok (.ladd, 1) := by decide +kernel
theorem dX5_digest_34 : decode cX5_digest 34 = .ok (.lstore_n 1, 1) := by decide +kernel
theorem dX5_digest_35 : decode cX5_digest 35 = .ok (.iinc 3 1, 3) := by decide +kernel
theorem dX5_digest_38 : decode cX5_digest 38 = .ok (.goto (-32), 3) := by decide +kernel
theorem dX5_digest_41 : decode cX5_digest 41 = .ok (.ldc2_w 213, 3) := by decide +kernel
theorem dX5_digest_44 : decode cX5_digest 44 = .ok (.lload_n 1, 1) := by decide +kernel
theorem dX5_digest_45 : decode cX5_digest 45 = .ok (.lmul, 1) := by decide +kernel
theorem dX5_digest_46 : decode cX5_digest 46 = .ok (.aload_n 0, 1) := by decide +kernel
theorem dX5_digest_47 : decode cX5_digest 47 = .ok (.getfield 10, 3) := by decide +kernel
theorem dX5_digest_50 : decode cX5_digest 50 = .ok (.getfield 100, 3) := by decide +kernel
theorem dX5_digest_53 : decode cX5_digest 53 = .ok (.i2l, 1) := by decide +kernel
theorem dX5_digest_54 : decode cX5_digest 54 = .ok (.ladd, 1) := by decide +kernel
theorem dX5_digest_55 : decode cX5_digest 55 = .ok (.lstore_n 1, 1) := by decide +kernel
theorem dX5_digest_56 : decode cX5_digest 56 = .ok (.aload_n 0, 1) := by decide +kernel
theorem dX5_digest_57 : decode cX5_digest 57 = .ok (.getfield 10, 3) := by decide +kernel
theorem dX5_digest_60 : decode cX5_digest 60 = .ok (.getfield 148, 3) := by decide +kernel
theorem dX5_digest_63 : decode cX5_digest 63 = .ok (.lload_n 1, 1) := by decide +kernel
theorem dX5_digest_64 : decode cX5_digest 64 = .ok (.invokevirtual 215, 3) := by decide +kernel
theorem dX5_digest_67 : decode cX5_digest 67 = .ok (.lstore_n 1, 1) := by decide +kernel
theorem dX5_digest_68 : decode cX5_digest 68 = .ok (.iconst 0, 1) := by decide +kernel
theorem dX5_digest_69 : decode cX5_digest 69 = .ok (.istore_n 3, 1) := by decide +kernel
theorem dX5_digest_70 : decode cX5_digest 70 = .ok (.iload_n 3, 1) := by decide +kernel
theorem dX5_digest_71 : decode cX5_digest 71 = .ok (.aload_n 0, 1) := by decide +kernel
theorem dX5_digest_72 : decode cX5_digest 72 = .ok (.getfield 10, 3) := by decide +kernel
theorem dX5_digest_75 : decode cX5_digest 75 = .ok (.getfield 219, 3) := by decide +kernel
theorem dX5_digest_78 : decode cX5_digest 78 = .ok (.if_icmp .ge 16, 3) := by decide +kernel
theorem dX5_digest_81 : decode cX5_digest 81 = .ok (.aload_n 0, 1) := by decide +kernel
theorem dX5_digest_82 : decode cX5_digest 82 = .ok (.lload_n 1, 1) := by decide +kernel
theorem dX5_digest_83 : decode cX5_digest 83 = .ok (.iload_n 3, 1) := by decide +kernel
theorem dX5_digest_84 : decode cX5_digest 84 = .ok (.invokevirtual 222, 3) := by decide +kernel
theorem dX5_digest_87 : decode cX5_digest 87 = .ok (.lstore_n 1, 1) := by decide +kernel
theorem dX5_digest_88 : decode cX5_digest 88 = .ok (.iinc 3 1, 3) := by decide +kernel
theorem dX5_digest_91 : decode cX5_digest 91 = .ok (.goto (-21), 3) := by decide +kernel
theorem dX5_digest_94 : decode cX5_digest 94 = .ok (.aload_n 0, 1) := by decide +kernel
theorem dX5_digest_95 : decode cX5_digest 95 = .ok (.getfield 10, 3) := by decide +kernel
theorem dX5_digest_98 : decode cX5_digest 98 = .ok (.getfield 173, 3) := by decide +kernel
theorem dX5_digest_101 : decode cX5_digest 101 = .ok (.lload_n 1, 1) := by decide +kernel
theorem dX5_digest_102 : decode cX5_digest 102 = .ok (.invokevirtual 215, 3) := by decide +kernel
theorem dX5_digest_105 : decode cX5_digest 105 = .ok (.lstore_n 1, 1) := by decide +kernel
theorem dX5_digest_106 : decode cX5_digest 106 = .ok (.iconst 0, 1) := by decide +kernel
theorem dX5_digest_107 : decode cX5_digest 107 = .ok (.istore_n 3, 1) := by decide +kernel
theorem dX5_digest_108 : decode cX5_digest 108 = .ok (.iload_n 3, 1) := by decide +kernel
theorem dX5_digest_109 : decode cX5_digest 109 = .ok (.aload_n 0, 1) := by decide +kernel
theorem dX5_digest_110 : decode cX5_digest 110 = .ok (.getfield 10, 3) := by decide +kernel
theorem dX5_digest_113 : decode cX5_digest 113 = .ok (.invokevirtual 56, 3) := by decide +kernel
theorem dX5_digest_116 : decode cX5_digest 116 = .ok (.if_icmp .ge 25, 3) := by decide +kernel
theorem dX5_digest_119 : decode cX5_digest 119 = .ok (.ldc2_w 213, 3) := by decide +kernel
theorem dX5_digest_122 : decode cX5_digest 122 = .ok (.lload_n 1, 1) := by decide +kernel
theorem dX5_digest_123 : decode cX5_digest 123 = .ok (.lmul, 1) := by decide +kernel
theorem dX5_digest_124 : decode cX5_digest 124 = .ok (.aload_n 0, 1) := by decide +kernel
theorem dX5_digest_125 : decode cX5_digest 125 = .ok (.getfield 10, 3) := by decide +kernel
theorem dX5_digest_128 : decode cX5_digest 128 = .ok (.iload_n 3, 1) := by decide +kernel
theorem dX5_digest_129 : decode cX5_digest 129 = .ok (.invokevirtual 167, 3) := by decide +kernel
theorem dX5_digest_132 : decode cX5_digest 132 = .ok (.i2l, 1) := by decide +kernel
theorem dX5_digest_133 : decode cX5_digest 133 = .ok (.ladd, 1) := by decide +kernel
theorem dX5_digest_134 : decode cX5_digest 134 = .ok (.lstore_n 1, 1) := by decide +kernel
theorem dX5_digest_135 : decode cX5_digest 135 = .ok (.iinc 3 1, 3) := by decide +kernel
theorem dX5_digest_138 : decode cX5_digest 138 = .ok (.goto (-30), 3) := by decide +kernel
theorem dX5_digest_141 : decode cX5_digest 141 = .ok (.ldc2_w 213, 3) := by decide +kernel
theorem dX5_digest_144 : decode cX5_digest 144 = .ok (.lload_n 1, 1) := by decide +kernel
theorem dX5_digest_145 : decode cX5_digest 145 = .ok (.lmul, 1) := by decide +kernel
theorem dX5_digest_146 : decode cX5_digest 146 = .ok (.aload_n 0, 1) := by decide +kernel
theorem dX5_digest_147 : decode cX5_digest 147 = .ok (.getfield 10, 3) := by decide +kernel
theorem dX5_digest_150 : decode cX5_digest 150 = .ok (.invokevirtual 201, 3) := by decide +kernel
theorem dX5_digest_153 : decode cX5_digest 153 = .ok (.i2l, 1) := by decide +kernel
theorem dX5_digest_154 : decode cX5_digest 154 = .ok (.ladd, 1) := by decide +kernel
theorem dX5_digest_155 : decode cX5_digest 155 = .ok (.lstore_n 1, 1) := by decide +kernel
theorem dX5_digest_156 : decode cX5_digest 156 = .ok (.ldc2_w 213, 3) := by decide +kernel
theorem dX5_digest_159 : decode cX5_digest 159 = .ok (.lload_n 1, 1) := by decide +kernel
theorem dX5_digest_160 : decode cX5_digest 160 = .ok (.lmul, 1) := by decide +kernel
theorem dX5_digest_161 : decode cX5_digest 161 = .ok (.aload_n 0, 1) := by decide +kernel
theorem dX5_digest_162 : decode cX5_digest 162 = .ok (.getfield 10, 3) := by decide +kernel
theorem dX5_digest_165 : decode cX5_digest 165 = .ok (.invokevirtual 204, 3) := by decide +kernel
theorem dX5_digest_168 : decode cX5_digest 168 = .ok (.i2l, 1) := by decide +kernel
theorem dX5_digest_169 : decode cX5_digest 169 = .ok (.ladd, 1) := by decide +kernel
theorem dX5_digest_170 : decode cX5_digest 170 = .ok (.lstore_n 1, 1) := by decide +kernel
theorem dX5_digest_171 : decode cX5_digest 171 = .ok (.ldc2_w 213, 3) := by decide +kernel
theorem dX5_digest_174 : decode cX5_digest 174 = .ok (.lload_n 1, 1) := by decide +kernel
theorem dX5_digest_175 : decode cX5_digest 175 = .ok (.lmul, 1) := by decide +kernel
theorem dX5_digest_176 : decode cX5_digest 176 = .ok (.aload_n 0, 1) := by decide +kernel
theorem dX5_digest_177 : decode cX5_digest 177 = .ok (.getfield 10, 3) := by decide +kernel
theorem dX5_digest_180 : decode cX5_digest 180 = .ok (.invokevirtual 207, 3) := by decide +kernel
theorem dX5_digest_183 : decode cX5_digest 183 = .ok (.invokestatic 226, 3) := by decide +kernel
theorem dX5_digest_186 : decode cX5_digest 186 = .ok (.ladd, 1) := by decide +kernel
theorem dX5_digest_187 : decode cX5_digest 187 = .ok (.lstore_n 1, 1) := by decide +kernel
theorem dX5_digest_188 : decode cX5_digest 188 = .ok (.iconst 0, 1) := by decide +kernel
theorem dX5_digest_189 : decode cX5_digest 189 = .ok (.istore_n 3, 1) := by decide +kernel
theorem dX5_digest_190 : decode cX5_digest 190 = .ok (.iload_n 3, 1) := by decide +kernel
theorem dX5_digest_191 : decode cX5_digest 191 = .ok (.aload_n 0, 1) := by decide +kernel
theorem dX5_digest_192 : decode cX5_digest 192 = .ok (.getfield 37, 3) := by decide +kernel
theorem dX5_digest_195 : decode cX5_digest 195 = .ok (.arraylength, 1) := by decide +kernel
theorem dX5_digest_196 : decode cX5_digest 196 = .ok (.if_icmp .ge 31, 3) := by decide +kernel
theorem dX5_digest_199 : decode cX5_digest 199 = .ok (.ldc2_w 213, 3) := by decide +kernel
theorem dX5_digest_202 : decode cX5_digest 202 = .ok (.lload_n 1, 1) := by decide +kernel
theorem dX5_digest_203 : decode cX5_digest 203 = .ok (.lmul, 1) := by decide +kernel
theorem dX5_digest_204 : decode cX5_digest 204 = .ok (.aload_n 0, 1) := by decide +kernel
theorem dX5_digest_205 : decode cX5_digest 205 = .ok (.getfield 37, 3) := by decide +kernel
theorem dX5_digest_208 : decode cX5_digest 208 = .ok (.iload_n 3, 1) := by decide +kernel
theorem dX5_digest_209 : decode cX5_digest 209 = .ok (.aaload, 1) := by decide +kernel
theorem dX5_digest_210 : decode cX5_digest 210 = .ok (.ifnonnull 7, 3) := by decide +kernel
theorem dX5_digest_213 : decode cX5_digest 213 = .ok (.iconst 0, 1) := by decide +kernel
theorem dX5_digest_214 : decode cX5_digest 214 = .ok (.goto 4, 3) := by decide +kernel
theorem dX5_digest_217 : decode cX5_digest 217 = .ok (.iconst 1, 1) := by decide +kernel
theorem dX5_digest_218 : decode cX5_digest 218 = .ok (.i2l, 1) := by decide +kernel
theorem dX5_digest_219 : decode cX5_digest 219 = .ok (.ladd, 1) := by decide +kernel
theorem dX5_digest_220 : decode cX5_digest 220 = .ok (.lstore_n 1, 1) := by decide +kernel
theorem dX5_digest_221 : decode cX5_digest 221 = .ok (.iinc 3 1, 3) := by decide +kernel
theorem dX5_digest_224 : decode cX5_digest 224 = .ok (.goto (-34), 3) := by decide +kernel
theorem dX5_digest_227 : decode cX5_digest 227 = .ok (.aload_n 0, 1) := by decide +kernel
theorem dX5_digest_228 : decode cX5_digest 228 = .ok (.getfield 26, 3) := by decide +kernel
theorem dX5_digest_231 : decode cX5_digest 231 = .ok (.lload_n 1, 1) := by decide +kernel
theorem dX5_digest_232 : decode cX5_digest 232 = .ok (.invokevirtual 230, 3) := by decide +kernel
theorem dX5_digest_235 : decode cX5_digest 235 = .ok (.lreturn, 1) := by decide +kernel
theorem dX5_requireRow_0 : decode cX5_requireRow 0 = .ok (.iload_n 0, 1) := by decide +kernel
theorem dX5_requireRow_1 : decode cX5_requireRow 1 = .ok (.ifCond .lt 8, 3) := by decide +kernel
theorem dX5_requireRow_4 : decode cX5_requireRow 4 = .ok (.iload_n 0, 1) := by decide +kernel
theorem dX5_requireRow_5 : decode cX5_requireRow 5 = .ok (.iconst 3, 1) := by decide +kernel
theorem dX5_requireRow_6 : decode cX5_requireRow 6 = .ok (.if_icmp .lt 13, 3) := by decide +kernel
theorem dX5_requireRow_9 : decode cX5_requireRow 9 = .ok (.new 89, 3) := by decide +kernel
theorem dX5_requireRow_12 : decode cX5_requireRow 12 = .ok (.dup, 1) := by decide +kernel
theorem dX5_requireRow_13 : decode cX5_requireRow 13 = .ok (.ldc 231, 2) := by decide +kernel
theorem dX5_requireRow_15 : decode cX5_requireRow 15 = .ok (.invokespecial 93, 3) := by decide +kernel
theorem dX5_requireRow_18 : decode cX5_requireRow 18 = .ok (.athrow, 1) := by decide +kernel
theorem dX5_requireRow_19 : decode cX5_requireRow 19 = .ok (.return_, 1) := by decide +kernel
theorem dX5_requireEnd_0 : decode cX5_requireEnd 0 = .ok (.iload_n 0, 1) := by decide +kernel
theorem dX5_requireEnd_1 : decode cX5_requireEnd 1 = .ok (.ifCond .lt 8, 3) := by decide +kernel
theorem dX5_requireEnd_4 : decode cX5_requireEnd 4 = .ok (.iload_n 0, 1) := by decide +kernel
theorem dX5_requireEnd_5 : decode cX5_requireEnd 5 = .ok (.iconst 1, 1) := by decide +kernel
theorem dX5_requireEnd_6 : decode cX5_requireEnd 6 = .ok (.if_icmp .le 13, 3) := by decide +kernel
theorem dX5_requireEnd_9 : decode cX5_requireEnd 9 = .ok (.new 45, 3) := by decide +kernel
theorem dX5_requireEnd_12 : decode cX5_requireEnd 12 = .ok (.dup, 1) := by decide +kernel
theorem dX5_requireEnd_13 : decode cX5_requireEnd 13 = .ok (.ldc 233, 2) := by decide +kernel
theorem dX5_requireEnd_15 : decode cX5_requireEnd 15 = .ok (.invokespecial 49, 3) := by decide +kernel
theorem dX5_requireEnd_18 : decode cX5_requireEnd 18 = .ok (.athrow, 1) := by decide +kernel
theorem dX5_requireEnd_19 : decode cX5_requireEnd 19 = .ok (.return_, 1) := by decide +kernel
theorem dX5_requirePlayer_0 : decode cX5_requirePlayer 0 = .ok (.aload_n 0, 1) := by decide +kernel
theorem dX5_requirePlayer_1 : decode cX5_requirePlayer 1 = .ok (.getfield 10, 3) := by decide +kernel
theorem dX5_requirePlayer_4 : decode cX5_requirePlayer 4 = .ok (.iload_n 1, 1) := by decide +kernel
theorem dX5_requirePlayer_5 : decode cX5_requirePlayer 5 = .ok (.invokevirtual 235, 3) := by decide +kernel
theorem dX5_requirePlayer_8 : decode cX5_requirePlayer 8 = .ok (.ifCond .ne 13, 3) := by decide +kernel
theorem dX5_requirePlayer_11 : decode cX5_requirePlayer 11 = .ok (.new 89, 3) := by decide +kernel
theorem dX5_requirePlayer_14 : decode cX5_requirePlayer 14 = .ok (.dup, 1) := by decide +kernel
theorem dX5_requirePlayer_15 : decode cX5_requirePlayer 15 = .ok (.ldc 239, 2) := by decide +kernel
theorem dX5_requirePlayer_17 : decode cX5_requirePlayer 17 = .ok (.invokespecial 93, 3) := by decide +kernel
theorem dX5_requirePlayer_20 : decode cX5_requirePlayer 20 = .ok (.athrow, 1) := by decide +kernel
theorem dX5_requirePlayer_21 : decode cX5_requirePlayer 21 = .ok (.return_, 1) := by decide +kernel
theorem dX5_requirePlace_0 : decode cX5_requirePlace 0 = .ok (.iload_n 0, 1) := by decide +kernel
theorem dX5_requirePlace_1 : decode cX5_requirePlace 1 = .ok (.ifCond .ge 13, 3) := by decide +kernel
theorem dX5_requirePlace_4 : decode cX5_requirePlace 4 = .ok (.new 45, 3) := by decide +kernel
theorem dX5_requirePlace_7 : decode cX5_requirePlace 7 = .ok (.dup, 1) := by decide +kernel
theorem dX5_requirePlace_8 : decode cX5_requirePlace 8 = .ok (.ldc 241, 2) := by decide +kernel
theorem dX5_requirePlace_10 : decode cX5_requirePlace 10 = .ok (.invokespecial 49, 3) := by decide +kernel
theorem dX5_requirePlace_13 : decode cX5_requirePlace 13 = .ok (.athrow, 1) := by decide +kernel
theorem dX5_requirePlace_14 : decode cX5_requirePlace 14 = .ok (.return_, 1) := by decide +kernel
theorem dX5_requireWhat_0 : decode cX5_requireWhat 0 = .ok (.iload_n 0, 1) := by decide +kernel
theorem dX5_requireWhat_1 : decode cX5_requireWhat 1 = .ok (.ifCond .lt 8, 3) := by decide +kernel
theorem dX5_requireWhat_4 : decode cX5_requireWhat 4 = .ok (.iload_n 0, 1) := by decide +kernel
theorem dX5_requireWhat_5 : decode cX5_requireWhat 5 = .ok (.iload_n 1, 1) := by decide +kernel
theorem dX5_requireWhat_6 : decode cX5_requireWhat 6 = .ok (.if_icmp .lt 13, 3) := by decide +kernel
theorem dX5_requireWhat_9 : decode cX5_requireWhat 9 = .ok (.new 45, 3) := by decide +kernel
theorem dX5_requireWhat_12 : decode cX5_requireWhat 12 = .ok (.dup, 1) := by decide +kernel
theorem dX5_requireWhat_13 : decode cX5_requireWhat 13 = .ok (.ldc 243, 2) := by decide +kernel
theorem dX5_requireWhat_15 : decode cX5_requireWhat 15 = .ok (.invokespecial 49, 3) := by decide +kernel
theorem dX5_requireWhat_18 : decode cX5_requireWhat 18 = .ok (.athrow, 1) := by decide +kernel
theorem dX5_requireWhat_19 : decode cX5_requireWhat 19 = .ok (.return_, 1) := by decide +kernel
theorem dX5_requireGrade_0 : decode cX5_requireGrade 0 = .ok (.iload_n 0, 1) := by decide +kernel
theorem dX5_requireGrade_1 : decode cX5_requireGrade 1 = .ok (.ifCond .lt 9, 3) := by decide +kernel
theorem dX5_requireGrade_4 : decode cX5_requireGrade 4 = .ok (.iload_n 0, 1) := by decide +kernel
theorem dX5_requireGrade_5 : decode cX5_requireGrade 5 = .ok (.bipush 7, 2) := by decide +kernel
theorem dX5_requireGrade_7 : decode cX5_requireGrade 7 = .ok (.if_icmp .lt 13, 3) := by decide +kernel
theorem dX5_requireGrade_10 : decode cX5_requireGrade 10 = .ok (.new 45, 3) := by decide +kernel
theorem dX5_requireGrade_13 : decode cX5_requireGrade 13 = .ok (.dup, 1) := by decide +kernel
theorem dX5_requireGrade_14 : decode cX5_requireGrade 14 = .ok (.ldc 245, 2) := by decide +kernel
theorem dX5_requireGrade_16 : decode cX5_requireGrade 16 = .ok (.invokespecial 49, 3) := by decide +kernel
theorem dX5_requireGrade_19 : decode cX5_requireGrade 19 = .ok (.athrow, 1) := by decide +kernel
theorem dX5_requireGrade_20 : decode cX5_requireGrade 20 = .ok (.return_, 1) := by decide +kernel
theorem dX5_mixPlayer_0 : decode cX5_mixPlayer 0 = .ok (.lload_n 1, 1) := by decide +kernel
theorem dX5_mixPlayer_1 : decode cX5_mixPlayer 1 = .ok (.lstore 4, 2) := by decide +kernel
theorem dX5_mixPlayer_3 : decode cX5_mixPlayer 3 = .ok (.iconst 0, 1) := by decide +kernel
theorem dX5_mixPlayer_4 : decode cX5_mixPlayer 4 = .ok (.istore 6, 2) := by decide +kernel
theorem dX5_mixPlayer_6 : decode cX5_mixPlayer 6 = .ok (.iload 6, 2) := by decide +kernel
theorem dX5_mixPlayer_8 : decode cX5_mixPlayer 8 = .ok (.bipush 7, 2) := by decide +kernel
theorem dX5_mixPlayer_10 : decode cX5_mixPlayer 10 = .ok (.if_icmp .ge 29, 3) := by decide +kernel
theorem dX5_mixPlayer_13 : decode cX5_mixPlayer 13 = .ok (.ldc2_w 213, 3) := by decide +kernel
theorem dX5_mixPlayer_16 : decode cX5_mixPlayer 16 = .ok (.lload 4, 2) := by decide +kernel
theorem dX5_mixPlayer_18 : decode cX5_mixPlayer 18 = .ok (.lmul, 1) := by decide +kernel
theorem dX5_mixPlayer_19 : decode cX5_mixPlayer 19 = .ok (.aload_n 0, 1) := by decide +kernel
theorem dX5_mixPlayer_20 : decode cX5_mixPlayer 20 = .ok (.getfield 10, 3) := by decide +kernel
theorem dX5_mixPlayer_23 : decode cX5_mixPlayer 23 = .ok (.iload_n 3, 1) := by decide +kernel
theorem dX5_mixPlayer_24 : decode cX5_mixPlayer 24 = .ok (.iload 6, 2) := by decide +kernel
theorem dX5_mixPlayer_26 : decode cX5_mixPlayer 26 = .ok (.invokevirtual 170, 3) := by decide +kernel
theorem dX5_mixPlayer_29 : decode cX5_mixPlayer 29 = .ok (.i2l, 1) := by decide +kernel
theorem dX5_mixPlayer_30 : decode cX5_mixPlayer 30 = .ok (.ladd, 1) := by decide +kernel
theorem dX5_mixPlayer_31 : decode cX5_mixPlayer 31 = .ok (.lstore 4, 2) := by decide +kernel
theorem dX5_mixPlayer_33 : decode cX5_mixPlayer 33 = .ok (.iinc 6 1, 3) := by decide +kernel
theorem dX5_mixPlayer_36 : decode cX5_mixPlayer 36 = .ok (.goto (-30), 3) := by decide +kernel
theorem dX5_mixPlayer_39 : decode cX5_mixPlayer 39 = .ok (.iconst 0, 1) := by decide +kernel
theorem dX5_mixPlayer_40 : decode cX5_mixPlayer 40 = .ok (.istore 6, 2) := by decide +kernel
theorem dX5_mixPlayer_42 : decode cX5_mixPlayer 42 = .ok (.iload 6, 2) := by decide +kernel
theorem dX5_mixPlayer_44 : decode cX5_mixPlayer 44 = .ok (.aload_n 0, 1) := by decide +kernel
theorem dX5_mixPlayer_45 : decode cX5_mixPlayer 45 = .ok (.getfield 10, 3) := by decide +kernel
theorem dX5_mixPlayer_48 : decode cX5_mixPlayer 48 = .ok (.iload_n 3, 1) := by decide +kernel
theorem dX5_mixPlayer_49 : decode cX5_mixPlayer 49 = .ok (.invokevirtual 247, 3) := by decide +kernel
theorem dX5_mixPlayer_52 : decode cX5_mixPlayer 52 = .ok (.if_icmp .ge 32, 3) := by decide +kernel
theorem dX5_mixPlayer_55 : decode cX5_mixPlayer 55 = .ok (.ldc2_w 213, 3) := by decide +kernel
theorem dX5_mixPlayer_58 : decode cX5_mixPlayer 58 = .ok (.lload 4, 2) := by decide +kernel
theorem dX5_mixPlayer_60 : decode cX5_mixPlayer 60 = .ok (.lmul, 1) := by decide +kernel
theorem dX5_mixPlayer_61 : decode cX5_mixPlayer 61 = .ok (.aload_n 0, 1) := by decide +kernel
theorem dX5_mixPlayer_62 : decode cX5_mixPlayer 62 = .ok (.getfield 10, 3) := by decide +kernel
theorem dX5_mixPlayer_65 : decode cX5_mixPlayer 65 = .ok (.getfield 164, 3) := by decide +kernel
theorem dX5_mixPlayer_68 : decode cX5_mixPlayer 68 = .ok (.iload_n 3, 1) := by decide +kernel
theorem dX5_mixPlayer_69 : decode cX5_mixPlayer 69 = .ok (.iload 6, 2) := by decide +kernel
theorem dX5_mixPlayer_71 : decode cX5_mixPlayer 71 = .ok (.invokevirtual 152, 3) := by decide +kernel
theorem dX5_mixPlayer_74 : decode cX5_mixPlayer 74 = .ok (.i2l, 1) := by decide +kernel
theorem dX5_mixPlayer_75 : decode cX5_mixPlayer 75 = .ok (.ladd, 1) := by decide +kernel
theorem dX5_mixPlayer_76 : decode cX5_mixPlayer 76 = .ok (.lstore 4, 2) := by decide +kernel
theorem dX5_mixPlayer_78 : decode cX5_mixPlayer 78 = .ok (.iinc 6 1, 3) := by decide +kernel
theorem dX5_mixPlayer_81 : decode cX5_mixPlayer 81 = .ok (.goto (-39), 3) := by decide +kernel
theorem dX5_mixPlayer_84 : decode cX5_mixPlayer 84 = .ok (.aload_n 0, 1) := by decide +kernel
theorem dX5_mixPlayer_85 : decode cX5_mixPlayer 85 = .ok (.getfield 19, 3) := by decide +kernel
theorem dX5_mixPlayer_88 : decode cX5_mixPlayer 88 = .ok (.aload_n 0, 1) := by decide +kernel
theorem dX5_mixPlayer_89 : decode cX5_mixPlayer 89 = .ok (.getfield 10, 3) := by decide +kernel
theorem dX5_mixPlayer_92 : decode cX5_mixPlayer 92 = .ok (.iload_n 3, 1) := by decide +kernel
theorem dX5_mixPlayer_93 : decode cX5_mixPlayer 93 = .ok (.invokevirtual 185, 3) := by decide +kernel
theorem dX5_mixPlayer_96 : decode cX5_mixPlayer 96 = .ok (.iconst 0, 1) := by decide +kernel
theorem dX5_mixPlayer_97 : decode cX5_mixPlayer 97 = .ok (.istore 6, 2) := by decide +kernel
theorem dX5_mixPlayer_99 : decode cX5_mixPlayer 99 = .ok (.iload 6, 2) := by decide +kernel
theorem dX5_mixPlayer_101 : decode cX5_mixPlayer 101 = .ok (.bipush 7, 2) := by decide +kernel
theorem dX5_mixPlayer_103 : decode cX5_mixPlayer 103 = .ok (.if_icmp .ge 71, 3) := by decide +kernel
theorem dX5_mixPlayer_106 : decode cX5_mixPlayer 106 = .ok (.aload_n 0, 1) := by decide +kernel
theorem dX5_mixPlayer_107 : decode cX5_mixPlayer 107 = .ok (.getfield 19, 3) := by decide +kernel
theorem dX5_mixPlayer_110 : decode cX5_mixPlayer 110 = .ok (.iload 6, 2) := by decide +kernel
theorem dX5_mixPlayer_112 : decode cX5_mixPlayer 112 = .ok (.invokevirtual 189, 3) := by decide +kernel
theorem dX5_mixPlayer_115 : decode cX5_mixPlayer 115 = .ok (.ldc2_w 213, 3) := by decide +kernel
theorem dX5_mixPlayer_118 : decode cX5_mixPlayer 118 = .ok (.lload 4, 2) := by decide +kernel
theorem dX5_mixPlayer_120 : decode cX5_mixPlayer 120 = .ok (.lmul, 1) := by decide +kernel
theorem dX5_mixPlayer_121 : decode cX5_mixPlayer 121 = .ok (.aload_n 0, 1) := by decide +kernel
theorem dX5_mixPlayer_122 : decode cX5_mixPlayer 122 = .ok (.getfield 19, 3) := by decide +kernel
theorem dX5_mixPlayer_125 : decode cX5_mixPlayer 125 = .ok (.invokevirtual 192, 3) := by decide +kernel
theorem dX5_mixPlayer_128 : decode cX5_mixPlayer 128 = .ok (.i2l, 1) := by decide +kernel
theorem dX5_mixPlayer_129 : decode cX5_mixPlayer 129 = .ok (.ladd, 1) := by decide +kernel
theorem dX5_mixPlayer_130 : decode cX5_mixPlayer 130 = .ok (.lstore 4, 2) := by decide +kernel
theorem dX5_mixPlayer_132 : decode cX5_mixPlayer 132 = .ok (.ldc2_w 213, 3) := by decide +kernel
theorem dX5_mixPlayer_135 : decode cX5_mixPlayer 135 = .ok (.lload 4, 2) := by decide +kernel
theorem dX5_mixPlayer_137 : decode cX5_mixPlayer 137 = .ok (.lmul, 1) := by decide +kernel
theorem dX5_mixPlayer_138 : decode cX5_mixPlayer 138 = .ok (.aload_n 0, 1) := by decide +kernel
theorem dX5_mixPlayer_139 : decode cX5_mixPlayer 139 = .ok (.getfield 19, 3) := by decide +kernel
theorem dX5_mixPlayer_142 : decode cX5_mixPlayer 142 = .ok (.invokevirtual 198, 3) := by decide +kernel
theorem dX5_mixPlayer_145 : decode cX5_mixPlayer 145 = .ok (.i2l, 1) := by decide +kernel
theorem dX5_mixPlayer_146 : decode cX5_mixPlayer 146 = .ok (.ladd, 1) := by decide +kernel
theorem dX5_mixPlayer_147 : decode cX5_mixPlayer 147 = .ok (.lstore 4, 2) := by decide +kernel
theorem dX5_mixPlayer_149 : decode cX5_mixPlayer 149 = .ok (.ldc2_w 213, 3) := by decide +kernel
theorem dX5_mixPlayer_152 : decode cX5_mixPlayer 152 = .ok (.lload 4, 2) := by decide +kernel
theorem dX5_mixPlayer_154 : decode cX5_mixPlayer 154 = .ok (.lmul, 1) := by decide +kernel
theorem dX5_mixPlayer_155 : decode cX5_mixPlayer 155 = .ok (.aload_n 0, 1) := by decide +kernel
theorem dX5_mixPlayer_156 : decode cX5_mixPlayer 156 = .ok (.getfield 19, 3) := by decide +kernel
theorem dX5_mixPlayer_159 : decode cX5_mixPlayer 159 = .ok (.iload 6, 2) := by decide +kernel
theorem dX5_mixPlayer_161 : decode cX5_mixPlayer 161 = .ok (.invokevirtual 195, 3) := by decide +kernel
theorem dX5_mixPlayer_164 : decode cX5_mixPlayer 164 = .ok (.i2l, 1) := by decide +kernel
theorem dX5_mixPlayer_165 : decode cX5_mixPlayer 165 = .ok (.ladd, 1) := by decide +kernel
theorem dX5_mixPlayer_166 : decode cX5_mixPlayer 166 = .ok (.lstore 4, 2) := by decide +kernel
theorem dX5_mixPlayer_168 : decode cX5_mixPlayer 168 = .ok (.iinc 6 1, 3) := by decide +kernel
theorem dX5_mixPlayer_171 : decode cX5_mixPlayer 171 = .ok (.goto (-72), 3) := by decide +kernel
theorem dX5_mixPlayer_174 : decode cX5_mixPlayer 174 = .ok (.lload 4, 2) := by decide +kernel
theorem dX5_mixPlayer_176 : decode cX5_mixPlayer 176 = .ok (.lreturn, 1) := by decide +kernel
theorem dX5_bitsOf_0 : decode cX5_bitsOf 0 = .ok (.dload_n 0, 1) := by decide +kernel
theorem dX5_bitsOf_1 : decode cX5_bitsOf 1 = .ok (.dconst 0, 1) := by decide +kernel
theorem dX5_bitsOf_2 : decode cX5_bitsOf 2 = .ok (.dcmp .l, 1) := by decide +kernel
theorem dX5_bitsOf_3 : decode cX5_bitsOf 3 = .ok (.ifCond .gt 5, 3) := by decide +kernel
theorem dX5_bitsOf_6 : decode cX5_bitsOf 6 = .ok (.lconst 0, 1) := by decide +kernel
theorem dX5_bitsOf_7 : decode cX5_bitsOf 7 = .ok (.lreturn, 1) := by decide +kernel
theorem dX5_bitsOf_8 : decode cX5_bitsOf 8 = .ok (.dload_n 0, 1) := by decide +kernel
theorem dX5_bitsOf_9 : decode cX5_bitsOf 9 = .ok (.dstore_n 2, 1) := by decide +kernel
theorem dX5_bitsOf_10 : decode cX5_bitsOf 10 = .ok (.ldc2_w 250, 3) := by decide +kernel
theorem dX5_bitsOf_13 : decode cX5_bitsOf 13 = .ok (.lstore 4, 2) := by decide +kernel
theorem dX5_bitsOf_15 : decode cX5_bitsOf 15 = .ok (.iconst 0, 1) := by decide +kernel
theorem dX5_bitsOf_16 : decode cX5_bitsOf 16 = .ok (.istore 6, 2) := by decide +kernel
theorem dX5_bitsOf_18 : decode cX5_bitsOf 18 = .ok (.iload 6, 2) := by decide +kernel
theorem dX5_bitsOf_20 : decode cX5_bitsOf 20 = .ok (.sipush 1022, 3) := by decide +kernel
theorem dX5_bitsOf_23 : decode cX5_bitsOf 23 = .ok (.if_icmp .ge 27, 3) := by decide +kernel
theorem dX5_bitsOf_26 : decode cX5_bitsOf 26 = .ok (.dload_n 2, 1) := by decide +kernel
theorem dX5_bitsOf_27 : decode cX5_bitsOf 27 = .ok (.dconst 1, 1) := by decide +kernel
theorem dX5_bitsOf_28 : decode cX5_bitsOf 28 = .ok (.dcmp .g, 1) := by decide +kernel
theorem dX5_bitsOf_29 : decode cX5_bitsOf 29 = .ok (.ifCond .ge 21, 3) := by decide +kernel
theorem dX5_bitsOf_32 : decode cX5_bitsOf 32 = .ok (.dload_n 2, 1) := by decide +kernel
theorem dX5_bitsOf_33 : decode cX5_bitsOf 33 = .ok (.ldc2_w 252, 3) := by decide +kernel
theorem dX5_bitsOf_36 : decode cX5_bitsOf 36 = .ok (.dmul, 1) := by decide +kernel
theorem dX5_bitsOf_37 : decode cX5_bitsOf 37 = .ok (.dstore_n 2, 1) := by decide +kernel
theorem dX5_bitsOf_38 : decode cX5_bitsOf 38 = .ok (.lload 4, 2) := by decide +kernel
theorem dX5_bitsOf_40 : decode cX5_bitsOf 40 = .ok (.lconst 1, 1) := by decide +kernel
theorem dX5_bitsOf_41 : decode cX5_bitsOf 41 = .ok (.lsub, 1) := by decide +kernel
theorem dX5_bitsOf_42 : decode cX5_bitsOf 42 = .ok (.lstore 4, 2) := by decide +kernel
theorem dX5_bitsOf_44 : decode cX5_bitsOf 44 = .ok (.iinc 6 1, 3) := by decide +kernel
theorem dX5_bitsOf_47 : decode cX5_bitsOf 47 = .ok (.goto (-29), 3) := by decide +kernel
theorem dX5_bitsOf_50 : decode cX5_bitsOf 50 = .ok (.lload 4, 2) := by decide +kernel
theorem dX5_bitsOf_52 : decode cX5_bitsOf 52 = .ok (.bipush 52, 2) := by decide +kernel
theorem dX5_bitsOf_54 : decode cX5_bitsOf 54 = .ok (.lshl, 1) := by decide +kernel
theorem dX5_bitsOf_55 : decode cX5_bitsOf 55 = .ok (.dload_n 2, 1) := by decide +kernel
theorem dX5_bitsOf_56 : decode cX5_bitsOf 56 = .ok (.dconst 1, 1) := by decide +kernel
theorem dX5_bitsOf_57 : decode cX5_bitsOf 57 = .ok (.dsub, 1) := by decide +kernel
theorem dX5_bitsOf_58 : decode cX5_bitsOf 58 = .ok (.ldc2_w 254, 3) := by decide +kernel
theorem dX5_bitsOf_61 : decode cX5_bitsOf 61 = .ok (.dmul, 1) := by decide +kernel
theorem dX5_bitsOf_62 : decode cX5_bitsOf 62 = .ok (.d2l, 1) := by decide +kernel
theorem dX5_bitsOf_63 : decode cX5_bitsOf 63 = .ok (.ladd, 1) := by decide +kernel
theorem dX5_bitsOf_64 : decode cX5_bitsOf 64 = .ok (.lreturn, 1) := by decide +kernel
