theorem dL_cell_0 : decode cL_cell 0 = .ok (.iload_n 1, 1) := by decide +kernel
theorem dL_cell_1 : decode cL_cell 1 = .ok (.aload_n 0, 1) := by decide +kernel
theorem dL_cell_2 : decode cL_cell 2 = .ok (.arraylength, 1) := by decide +kernel
theorem dL_cell_3 : decode cL_cell 3 = .ok (.if_icmp .ge 9, 3) := by decide +kernel
theorem dL_cell_6 : decode cL_cell 6 = .ok (.aload_n 0, 1) := by decide +kernel
theorem dL_cell_7 : decode cL_cell 7 = .ok (.iload_n 1, 1) := by decide +kernel
theorem dL_cell_8 : decode cL_cell 8 = .ok (.iaload, 1) := by decide +kernel
theorem dL_cell_9 : decode cL_cell 9 = .ok (.goto 12, 3) := by decide +kernel
theorem dL_cell_12 : decode cL_cell 12 = .ok (.ldc 7, 2) := by decide +kernel
theorem dL_cell_14 : decode cL_cell 14 = .ok (.iload_n 1, 1) := by decide +kernel
theorem dL_cell_15 : decode cL_cell 15 = .ok (.iconst 1, 1) := by decide +kernel
theorem dL_cell_16 : decode cL_cell 16 = .ok (.iadd, 1) := by decide +kernel
theorem dL_cell_17 : decode cL_cell 17 = .ok (.imul, 1) := by decide +kernel
theorem dL_cell_18 : decode cL_cell 18 = .ok (.ldc 8, 2) := by decide +kernel
theorem dL_cell_20 : decode cL_cell 20 = .ok (.iadd, 1) := by decide +kernel
theorem dL_cell_21 : decode cL_cell 21 = .ok (.ireturn, 1) := by decide +kernel
theorem dL_low_0 : decode cL_low 0 = .ok (.iload_n 0, 1) := by decide +kernel
theorem dL_low_1 : decode cL_low 1 = .ok (.ldc 9, 2) := by decide +kernel
theorem dL_low_3 : decode cL_low 3 = .ok (.iand, 1) := by decide +kernel
theorem dL_low_4 : decode cL_low 4 = .ok (.iload_n 1, 1) := by decide +kernel
theorem dL_low_5 : decode cL_low 5 = .ok (.irem, 1) := by decide +kernel
theorem dL_low_6 : decode cL_low 6 = .ok (.ireturn, 1) := by decide +kernel
theorem dL_slot_0 : decode cL_slot 0 = .ok (.iload_n 0, 1) := by decide +kernel
theorem dL_slot_1 : decode cL_slot 1 = .ok (.ifCond .ge 8, 3) := by decide +kernel
theorem dL_slot_4 : decode cL_slot 4 = .ok (.bipush 10, 2) := by decide +kernel
theorem dL_slot_6 : decode cL_slot 6 = .ok (.goto 7, 3) := by decide +kernel
theorem dL_slot_9 : decode cL_slot 9 = .ok (.iload_n 0, 1) := by decide +kernel
theorem dL_slot_10 : decode cL_slot 10 = .ok (.bipush 32, 2) := by decide +kernel
theorem dL_slot_12 : decode cL_slot 12 = .ok (.irem, 1) := by decide +kernel
theorem dL_slot_13 : decode cL_slot 13 = .ok (.istore_n 2, 1) := by decide +kernel
theorem dL_slot_14 : decode cL_slot 14 = .ok (.iload_n 2, 1) := by decide +kernel
theorem dL_slot_15 : decode cL_slot 15 = .ok (.bipush 10, 2) := by decide +kernel
theorem dL_slot_17 : decode cL_slot 17 = .ok (.if_icmp .ge 32, 3) := by decide +kernel
theorem dL_slot_20 : decode cL_slot 20 = .ok (.aload_n 1, 1) := by decide +kernel
theorem dL_slot_21 : decode cL_slot 21 = .ok (.bipush 6, 2) := by decide +kernel
theorem dL_slot_23 : decode cL_slot 23 = .ok (.iload_n 2, 1) := by decide +kernel
theorem dL_slot_24 : decode cL_slot 24 = .ok (.imul, 1) := by decide +kernel
theorem dL_slot_25 : decode cL_slot 25 = .ok (.iaload, 1) := by decide +kernel
theorem dL_slot_26 : decode cL_slot 26 = .ok (.iconst 1, 1) := by decide +kernel
theorem dL_slot_27 : decode cL_slot 27 = .ok (.if_icmp .ne 22, 3) := by decide +kernel
theorem dL_slot_30 : decode cL_slot 30 = .ok (.aload_n 1, 1) := by decide +kernel
theorem dL_slot_31 : decode cL_slot 31 = .ok (.bipush 6, 2) := by decide +kernel
theorem dL_slot_33 : decode cL_slot 33 = .ok (.iload_n 2, 1) := by decide +kernel
theorem dL_slot_34 : decode cL_slot 34 = .ok (.imul, 1) := by decide +kernel
theorem dL_slot_35 : decode cL_slot 35 = .ok (.iconst 1, 1) := by decide +kernel
theorem dL_slot_36 : decode cL_slot 36 = .ok (.iadd, 1) := by decide +kernel
theorem dL_slot_37 : decode cL_slot 37 = .ok (.iaload, 1) := by decide +kernel
theorem dL_slot_38 : decode cL_slot 38 = .ok (.iload_n 0, 1) := by decide +kernel
theorem dL_slot_39 : decode cL_slot 39 = .ok (.bipush 32, 2) := by decide +kernel
theorem dL_slot_41 : decode cL_slot 41 = .ok (.idiv, 1) := by decide +kernel
theorem dL_slot_42 : decode cL_slot 42 = .ok (.if_icmp .ne 7, 3) := by decide +kernel
theorem dL_slot_45 : decode cL_slot 45 = .ok (.iload_n 2, 1) := by decide +kernel
theorem dL_slot_46 : decode cL_slot 46 = .ok (.goto 4, 3) := by decide +kernel
theorem dL_slot_49 : decode cL_slot 49 = .ok (.iconst (-1), 1) := by decide +kernel
theorem dL_slot_50 : decode cL_slot 50 = .ok (.ireturn, 1) := by decide +kernel
theorem dL_handle_0 : decode cL_handle 0 = .ok (.iload_n 0, 1) := by decide +kernel
theorem dL_handle_1 : decode cL_handle 1 = .ok (.ifCond .ge 7, 3) := by decide +kernel
theorem dL_handle_4 : decode cL_handle 4 = .ok (.iconst (-1), 1) := by decide +kernel
theorem dL_handle_5 : decode cL_handle 5 = .ok (.goto 16, 3) := by decide +kernel
theorem dL_handle_8 : decode cL_handle 8 = .ok (.iload_n 0, 1) := by decide +kernel
theorem dL_handle_9 : decode cL_handle 9 = .ok (.bipush 32, 2) := by decide +kernel
theorem dL_handle_11 : decode cL_handle 11 = .ok (.aload_n 1, 1) := by decide +kernel
theorem dL_handle_12 : decode cL_handle 12 = .ok (.bipush 6, 2) := by decide +kernel
theorem dL_handle_14 : decode cL_handle 14 = .ok (.iload_n 0, 1) := by decide +kernel
theorem dL_handle_15 : decode cL_handle 15 = .ok (.imul, 1) := by decide +kernel
theorem dL_handle_16 : decode cL_handle 16 = .ok (.iconst 1, 1) := by decide +kernel
theorem dL_handle_17 : decode cL_handle 17 = .ok (.iadd, 1) := by decide +kernel
theorem dL_handle_18 : decode cL_handle 18 = .ok (.iaload, 1) := by decide +kernel
theorem dL_handle_19 : decode cL_handle 19 = .ok (.imul, 1) := by decide +kernel
theorem dL_handle_20 : decode cL_handle 20 = .ok (.iadd, 1) := by decide +kernel
theorem dL_handle_21 : decode cL_handle 21 = .ok (.ireturn, 1) := by decide +kernel
theorem dL_row_0 : decode cL_row 0 = .ok (.iconst 0, 1) := by decide +kernel
theorem dL_row_1 : decode cL_row 1 = .ok (.istore_n 3, 1) := by decide +kernel
theorem dL_row_2 : decode cL_row 2 = .ok (.iload_n 3, 1) := by decide +kernel
theorem dL_row_3 : decode cL_row 3 = .ok (.aload_n 2, 1) := by decide +kernel
theorem dL_row_4 : decode cL_row 4 = .ok (.iconst 0, 1) := by decide +kernel
theorem dL_row_5 : decode cL_row 5 = .ok (.iaload, 1) := by decide +kernel
theorem dL_row_6 : decode cL_row 6 = .ok (.if_icmp .ge 16, 3) := by decide +kernel
theorem dL_row_9 : decode cL_row 9 = .ok (.aload_n 1, 1) := by decide +kernel
theorem dL_row_10 : decode cL_row 10 = .ok (.iload_n 3, 1) := by decide +kernel
theorem dL_row_11 : decode cL_row 11 = .ok (.iaload, 1) := by decide +kernel
theorem dL_row_12 : decode cL_row 12 = .ok (.iload_n 0, 1) := by decide +kernel
theorem dL_row_13 : decode cL_row 13 = .ok (.if_icmp .eq 9, 3) := by decide +kernel
theorem dL_row_16 : decode cL_row 16 = .ok (.iinc 3 1, 3) := by decide +kernel
theorem dL_row_19 : decode cL_row 19 = .ok (.goto (-17), 3) := by decide +kernel
theorem dL_row_22 : decode cL_row 22 = .ok (.aload_n 1, 1) := by decide +kernel
theorem dL_row_23 : decode cL_row 23 = .ok (.iload_n 3, 1) := by decide +kernel
theorem dL_row_24 : decode cL_row 24 = .ok (.iload_n 0, 1) := by decide +kernel
theorem dL_row_25 : decode cL_row 25 = .ok (.iastore, 1) := by decide +kernel
theorem dL_row_26 : decode cL_row 26 = .ok (.aload_n 2, 1) := by decide +kernel
theorem dL_row_27 : decode cL_row 27 = .ok (.iconst 0, 1) := by decide +kernel
theorem dL_row_28 : decode cL_row 28 = .ok (.iload_n 3, 1) := by decide +kernel
theorem dL_row_29 : decode cL_row 29 = .ok (.aload_n 2, 1) := by decide +kernel
theorem dL_row_30 : decode cL_row 30 = .ok (.iconst 0, 1) := by decide +kernel
theorem dL_row_31 : decode cL_row 31 = .ok (.iaload, 1) := by decide +kernel
theorem dL_row_32 : decode cL_row 32 = .ok (.if_icmp .ne 9, 3) := by decide +kernel
theorem dL_row_35 : decode cL_row 35 = .ok (.iload_n 3, 1) := by decide +kernel
theorem dL_row_36 : decode cL_row 36 = .ok (.iconst 1, 1) := by decide +kernel
theorem dL_row_37 : decode cL_row 37 = .ok (.iadd, 1) := by decide +kernel
theorem dL_row_38 : decode cL_row 38 = .ok (.goto 6, 3) := by decide +kernel
theorem dL_row_41 : decode cL_row 41 = .ok (.aload_n 2, 1) := by decide +kernel
theorem dL_row_42 : decode cL_row 42 = .ok (.iconst 0, 1) := by decide +kernel
theorem dL_row_43 : decode cL_row 43 = .ok (.iaload, 1) := by decide +kernel
theorem dL_row_44 : decode cL_row 44 = .ok (.iastore, 1) := by decide +kernel
theorem dL_row_45 : decode cL_row 45 = .ok (.iload_n 3, 1) := by decide +kernel
theorem dL_row_46 : decode cL_row 46 = .ok (.ireturn, 1) := by decide +kernel
theorem dL_many_0 : decode cL_many 0 = .ok (.iconst 0, 1) := by decide +kernel
theorem dL_many_1 : decode cL_many 1 = .ok (.istore_n 2, 1) := by decide +kernel
theorem dL_many_2 : decode cL_many 2 = .ok (.iconst 0, 1) := by decide +kernel
theorem dL_many_3 : decode cL_many 3 = .ok (.istore_n 3, 1) := by decide +kernel
theorem dL_many_4 : decode cL_many 4 = .ok (.iload_n 3, 1) := by decide +kernel
theorem dL_many_5 : decode cL_many 5 = .ok (.bipush 10, 2) := by decide +kernel
theorem dL_many_7 : decode cL_many 7 = .ok (.if_icmp .ge 39, 3) := by decide +kernel
theorem dL_many_10 : decode cL_many 10 = .ok (.iload_n 2, 1) := by decide +kernel
theorem dL_many_11 : decode cL_many 11 = .ok (.aload_n 1, 1) := by decide +kernel
theorem dL_many_12 : decode cL_many 12 = .ok (.bipush 6, 2) := by decide +kernel
theorem dL_many_14 : decode cL_many 14 = .ok (.iload_n 3, 1) := by decide +kernel
theorem dL_many_15 : decode cL_many 15 = .ok (.imul, 1) := by decide +kernel
theorem dL_many_16 : decode cL_many 16 = .ok (.iaload, 1) := by decide +kernel
theorem dL_many_17 : decode cL_many 17 = .ok (.iconst 1, 1) := by decide +kernel
theorem dL_many_18 : decode cL_many 18 = .ok (.if_icmp .ne 19, 3) := by decide +kernel
theorem dL_many_21 : decode cL_many 21 = .ok (.aload_n 1, 1) := by decide +kernel
theorem dL_many_22 : decode cL_many 22 = .ok (.bipush 6, 2) := by decide +kernel
theorem dL_many_24 : decode cL_many 24 = .ok (.iload_n 3, 1) := by decide +kernel
theorem dL_many_25 : decode cL_many 25 = .ok (.imul, 1) := by decide +kernel
theorem dL_many_26 : decode cL_many 26 = .ok (.iconst 4, 1) := by decide +kernel
theorem dL_many_27 : decode cL_many 27 = .ok (.iadd, 1) := by decide +kernel
theorem dL_many_28 : decode cL_many 28 = .ok (.iaload, 1) := by decide +kernel
theorem dL_many_29 : decode cL_many 29 = .ok (.iload_n 0, 1) := by decide +kernel
theorem dL_many_30 : decode cL_many 30 = .ok (.if_icmp .ne 7, 3) := by decide +kernel
theorem dL_many_33 : decode cL_many 33 = .ok (.iconst 1, 1) := by decide +kernel
theorem dL_many_34 : decode cL_many 34 = .ok (.goto 4, 3) := by decide +kernel
theorem dL_many_37 : decode cL_many 37 = .ok (.iconst 0, 1) := by decide +kernel
theorem dL_many_38 : decode cL_many 38 = .ok (.iadd, 1) := by decide +kernel
theorem dL_many_39 : decode cL_many 39 = .ok (.istore_n 2, 1) := by decide +kernel
theorem dL_many_40 : decode cL_many 40 = .ok (.iinc 3 1, 3) := by decide +kernel
theorem dL_many_43 : decode cL_many 43 = .ok (.goto (-39), 3) := by decide +kernel
theorem dL_many_46 : decode cL_many 46 = .ok (.iload_n 2, 1) := by decide +kernel
theorem dL_many_47 : decode cL_many 47 = .ok (.ireturn, 1) := by decide +kernel
theorem dL_at_0 : decode cL_at 0 = .ok (.iconst 0, 1) := by decide +kernel
theorem dL_at_1 : decode cL_at 1 = .ok (.istore_n 3, 1) := by decide +kernel
theorem dL_at_2 : decode cL_at 2 = .ok (.iload_n 3, 1) := by decide +kernel
theorem dL_at_3 : decode cL_at 3 = .ok (.bipush 10, 2) := by decide +kernel
theorem dL_at_5 : decode cL_at 5 = .ok (.if_icmp .ge 45, 3) := by decide +kernel
theorem dL_at_8 : decode cL_at 8 = .ok (.aload_n 2, 1) := by decide +kernel
theorem dL_at_9 : decode cL_at 9 = .ok (.bipush 6, 2) := by decide +kernel
theorem dL_at_11 : decode cL_at 11 = .ok (.iload_n 3, 1) := by decide +kernel
theorem dL_at_12 : decode cL_at 12 = .ok (.imul, 1) := by decide +kernel
theorem dL_at_13 : decode cL_at 13 = .ok (.iaload, 1) := by decide +kernel
theorem dL_at_14 : decode cL_at 14 = .ok (.iconst 1, 1) := by decide +kernel
theorem dL_at_15 : decode cL_at 15 = .ok (.if_icmp .ne 29, 3) := by decide +kernel
theorem dL_at_18 : decode cL_at 18 = .ok (.aload_n 2, 1) := by decide +kernel
theorem dL_at_19 : decode cL_at 19 = .ok (.bipush 6, 2) := by decide +kernel
theorem dL_at_21 : decode cL_at 21 = .ok (.iload_n 3, 1) := by decide +kernel
theorem dL_at_22 : decode cL_at 22 = .ok (.imul, 1) := by decide +kernel
theorem dL_at_23 : decode cL_at 23 = .ok (.iconst 4, 1) := by decide +kernel
theorem dL_at_24 : decode cL_at 24 = .ok (.iadd, 1) := by decide +kernel
theorem dL_at_25 : decode cL_at 25 = .ok (.iaload, 1) := by decide +kernel
theorem dL_at_26 : decode cL_at 26 = .ok (.iload_n 0, 1) := by decide +kernel
theorem dL_at_27 : decode cL_at 27 = .ok (.if_icmp .ne 17, 3) := by decide +kernel
theorem dL_at_30 : decode cL_at 30 = .ok (.aload_n 2, 1) := by decide +kernel
theorem dL_at_31 : decode cL_at 31 = .ok (.bipush 6, 2) := by decide +kernel
theorem dL_at_33 : decode cL_at 33 = .ok (.iload_n 3, 1) := by decide +kernel
theorem dL_at_34 : decode cL_at 34 = .ok (.imul, 1) := by decide +kernel
theorem dL_at_35 : decode cL_at 35 = .ok (.iconst 5, 1) := by decide +kernel
theorem dL_at_36 : decode cL_at 36 = .ok (.iadd, 1) := by decide +kernel
theorem dL_at_37 : decode cL_at 37 = .ok (.iaload, 1) := by decide +kernel
theorem dL_at_38 : decode cL_at 38 = .ok (.iload_n 1, 1) := by decide +kernel
theorem dL_at_39 : decode cL_at 39 = .ok (.if_icmp .ne 5, 3) := by decide +kernel
theorem dL_at_42 : decode cL_at 42 = .ok (.iload_n 3, 1) := by decide +kernel
theorem dL_at_43 : decode cL_at 43 = .ok (.ireturn, 1) := by decide +kernel
theorem dL_at_44 : decode cL_at 44 = .ok (.iinc 3 1, 3) := by decide +kernel
theorem dL_at_47 : decode cL_at 47 = .ok (.goto (-45), 3) := by decide +kernel
theorem dL_at_50 : decode cL_at 50 = .ok (.iconst (-1), 1) := by decide +kernel
theorem dL_at_51 : decode cL_at 51 = .ok (.ireturn, 1) := by decide +kernel
set_option maxRecDepth 20000 in
theorem ggL_leave_L_many : GoodIn wsL_leave wsL_many := goodIn_r _ [4] (by decide +kernel) (by decide +kernel)
set_option maxRecDepth 20000 in
theorem gL_leave_L_many : GoodIn wsL_leave (va_wsS RL 10 yL_many wsL_many) := goodIn_app (goodIn_of _ (by decide +kernel)) ggL_leave_L_many
set_option maxRecDepth 20000 in
theorem ggL_leave_L_at : GoodIn wsL_leave wsL_at := goodIn_r _ [7] (by decide +kernel) (by decide +kernel)
set_option maxRecDepth 20000 in
theorem gL_leave_L_at : GoodIn wsL_leave (va_wsS RL 16 yL_at wsL_at) := goodIn_app (goodIn_of _ (by decide +kernel)) ggL_leave_L_at
theorem dL_leave_0 : decode cL_leave 0 = .ok (.aload_n 1, 1) := by decide +kernel
theorem dL_leave_1 : decode cL_leave 1 = .ok (.bipush 6, 2) := by decide +kernel
theorem dL_leave_3 : decode cL_leave 3 = .ok (.iload_n 0, 1) := by decide +kernel
theorem dL_leave_4 : decode cL_leave 4 = .ok (.imul, 1) := by decide +kernel
theorem dL_leave_5 : decode cL_leave 5 = .ok (.iconst 4, 1) := by decide +kernel
theorem dL_leave_6 : decode cL_leave 6 = .ok (.iadd, 1) := by decide +kernel
theorem dL_leave_7 : decode cL_leave 7 = .ok (.iaload, 1) := by decide +kernel
theorem dL_leave_8 : decode cL_leave 8 = .ok (.aload_n 1, 1) := by decide +kernel
theorem dL_leave_9 : decode cL_leave 9 = .ok (.bipush 6, 2) := by decide +kernel
theorem dL_leave_11 : decode cL_leave 11 = .ok (.iload_n 0, 1) := by decide +kernel
theorem dL_leave_12 : decode cL_leave 12 = .ok (.imul, 1) := by decide +kernel
theorem dL_leave_13 : decode cL_leave 13 = .ok (.iconst 4, 1) := by decide +kernel
theorem dL_leave_14 : decode cL_leave 14 = .ok (.iadd, 1) := by decide +kernel
theorem dL_leave_15 : decode cL_leave 15 = .ok (.iaload, 1) := by decide +kernel
theorem dL_leave_16 : decode cL_leave 16 = .ok (.aload_n 1, 1) := by decide +kernel
theorem dL_leave_17 : decode cL_leave 17 = .ok (.invokestatic 10, 3) := by decide +kernel
theorem dL_leave_20 : decode cL_leave 20 = .ok (.iconst 1, 1) := by decide +kernel
theorem dL_leave_21 : decode cL_leave 21 = .ok (.isub, 1) := by decide +kernel
theorem dL_leave_22 : decode cL_leave 22 = .ok (.aload_n 1, 1) := by decide +kernel
theorem dL_leave_23 : decode cL_leave 23 = .ok (.invokestatic 16, 3) := by decide +kernel
theorem dL_leave_26 : decode cL_leave 26 = .ok (.istore_n 2, 1) := by decide +kernel
theorem dL_leave_27 : decode cL_leave 27 = .ok (.aload_n 1, 1) := by decide +kernel
theorem dL_leave_28 : decode cL_leave 28 = .ok (.bipush 6, 2) := by decide +kernel
theorem dL_leave_30 : decode cL_leave 30 = .ok (.iload_n 2, 1) := by decide +kernel
theorem dL_leave_31 : decode cL_leave 31 = .ok (.imul, 1) := by decide +kernel
theorem dL_leave_32 : decode cL_leave 32 = .ok (.iconst 5, 1) := by decide +kernel
theorem dL_leave_33 : decode cL_leave 33 = .ok (.iadd, 1) := by decide +kernel
theorem dL_leave_34 : decode cL_leave 34 = .ok (.aload_n 1, 1) := by decide +kernel
theorem dL_leave_35 : decode cL_leave 35 = .ok (.bipush 6, 2) := by decide +kernel
theorem dL_leave_37 : decode cL_leave 37 = .ok (.iload_n 0, 1) := by decide +kernel
theorem dL_leave_38 : decode cL_leave 38 = .ok (.imul, 1) := by decide +kernel
theorem dL_leave_39 : decode cL_leave 39 = .ok (.iconst 5, 1) := by decide +kernel
theorem dL_leave_40 : decode cL_leave 40 = .ok (.iadd, 1) := by decide +kernel
theorem dL_leave_41 : decode cL_leave 41 = .ok (.iaload, 1) := by decide +kernel
theorem dL_leave_42 : decode cL_leave 42 = .ok (.iastore, 1) := by decide +kernel
theorem dL_leave_43 : decode cL_leave 43 = .ok (.aload_n 1, 1) := by decide +kernel
theorem dL_leave_44 : decode cL_leave 44 = .ok (.bipush 6, 2) := by decide +kernel
theorem dL_leave_46 : decode cL_leave 46 = .ok (.iload_n 0, 1) := by decide +kernel
theorem dL_leave_47 : decode cL_leave 47 = .ok (.imul, 1) := by decide +kernel
theorem dL_leave_48 : decode cL_leave 48 = .ok (.iconst 4, 1) := by decide +kernel
theorem dL_leave_49 : decode cL_leave 49 = .ok (.iadd, 1) := by decide +kernel
theorem dL_leave_50 : decode cL_leave 50 = .ok (.iconst (-1), 1) := by decide +kernel
theorem dL_leave_51 : decode cL_leave 51 = .ok (.iastore, 1) := by decide +kernel
theorem dL_leave_52 : decode cL_leave 52 = .ok (.return_, 1) := by decide +kernel
set_option maxRecDepth 20000 in
theorem ggL_enter_L_row : GoodIn wsL_enter wsL_row := goodIn_r _ [4] (by decide +kernel) (by decide +kernel)
set_option maxRecDepth 20000 in
theorem gL_enter_L_row : GoodIn wsL_enter (va_wsS RL 20 yL_row wsL_row) := goodIn_app (goodIn_of _ (by decide +kernel)) ggL_enter_L_row
set_option maxRecDepth 20000 in
theorem ggL_enter_L_many : GoodIn wsL_enter wsL_many := goodIn_r _ [7] (by decide +kernel) (by decide +kernel)
set_option maxRecDepth 20000 in
theorem gL_enter_L_many : GoodIn wsL_enter (va_wsS RL 10 yL_many wsL_many) := goodIn_app (goodIn_of _ (by decide +kernel)) ggL_enter_L_many
theorem dL_enter_0 : decode cL_enter 0 = .ok (.iload_n 1, 1) := by decide +kernel
theorem dL_enter_1 : decode cL_enter 1 = .ok (.aload_n 3, 1) := by decide +kernel
theorem dL_enter_2 : decode cL_enter 2 = .ok (.aload 4, 2) := by decide +kernel
theorem dL_enter_4 : decode cL_enter 4 = .ok (.invokestatic 20, 3) := by decide +kernel
theorem dL_enter_7 : decode cL_enter 7 = .ok (.istore 5, 2) := by decide +kernel
theorem dL_enter_9 : decode cL_enter 9 = .ok (.iload 5, 2) := by decide +kernel
theorem dL_enter_11 : decode cL_enter 11 = .ok (.aload_n 2, 1) := by decide +kernel
theorem dL_enter_12 : decode cL_enter 12 = .ok (.invokestatic 10, 3) := by decide +kernel
theorem dL_enter_15 : decode cL_enter 15 = .ok (.istore 6, 2) := by decide +kernel
theorem dL_enter_17 : decode cL_enter 17 = .ok (.aload_n 2, 1) := by decide +kernel
theorem dL_enter_18 : decode cL_enter 18 = .ok (.bipush 6, 2) := by decide +kernel
theorem dL_enter_20 : decode cL_enter 20 = .ok (.iload_n 0, 1) := by decide +kernel
theorem dL_enter_21 : decode cL_enter 21 = .ok (.imul, 1) := by decide +kernel
theorem dL_enter_22 : decode cL_enter 22 = .ok (.iconst 2, 1) := by decide +kernel
theorem dL_enter_23 : decode cL_enter 23 = .ok (.iadd, 1) := by decide +kernel
theorem dL_enter_24 : decode cL_enter 24 = .ok (.iload_n 1, 1) := by decide +kernel
theorem dL_enter_25 : decode cL_enter 25 = .ok (.iastore, 1) := by decide +kernel
theorem dL_enter_26 : decode cL_enter 26 = .ok (.aload_n 2, 1) := by decide +kernel
theorem dL_enter_27 : decode cL_enter 27 = .ok (.bipush 6, 2) := by decide +kernel
theorem dL_enter_29 : decode cL_enter 29 = .ok (.iload_n 0, 1) := by decide +kernel
theorem dL_enter_30 : decode cL_enter 30 = .ok (.imul, 1) := by decide +kernel
theorem dL_enter_31 : decode cL_enter 31 = .ok (.iconst 4, 1) := by decide +kernel
theorem dL_enter_32 : decode cL_enter 32 = .ok (.iadd, 1) := by decide +kernel
theorem dL_enter_33 : decode cL_enter 33 = .ok (.iload 5, 2) := by decide +kernel
theorem dL_enter_35 : decode cL_enter 35 = .ok (.iastore, 1) := by decide +kernel
theorem dL_enter_36 : decode cL_enter 36 = .ok (.aload_n 2, 1) := by decide +kernel
theorem dL_enter_37 : decode cL_enter 37 = .ok (.bipush 6, 2) := by decide +kernel
theorem dL_enter_39 : decode cL_enter 39 = .ok (.iload_n 0, 1) := by decide +kernel
theorem dL_enter_40 : decode cL_enter 40 = .ok (.imul, 1) := by decide +kernel
theorem dL_enter_41 : decode cL_enter 41 = .ok (.iconst 5, 1) := by decide +kernel
theorem dL_enter_42 : decode cL_enter 42 = .ok (.iadd, 1) := by decide +kernel
theorem dL_enter_43 : decode cL_enter 43 = .ok (.iload 6, 2) := by decide +kernel
theorem dL_enter_45 : decode cL_enter 45 = .ok (.iastore, 1) := by decide +kernel
theorem dL_enter_46 : decode cL_enter 46 = .ok (.return_, 1) := by decide +kernel
set_option maxRecDepth 20000 in
theorem ggL_make_L_enter : GoodIn wsL_make wsL_enter := goodIn_r _ [4, 5, 6, 3, 7, 8, 9, 10] (by decide +kernel) (by decide +kernel)
set_option maxRecDepth 20000 in
theorem gL_make_L_enter : GoodIn wsL_make (va_wsS RL 24 yL_enter wsL_enter) := goodIn_app (goodIn_of _ (by decide +kernel)) ggL_make_L_enter
theorem dL_make_0 : decode cL_make 0 = .ok (.iconst 0, 1) := by decide +kernel
theorem dL_make_1 : decode cL_make 1 = .ok (.istore_n 3, 1) := by decide +kernel
theorem dL_make_2 : decode cL_make 2 = .ok (.aload_n 0, 1) := by decide +kernel
theorem dL_make_3 : decode cL_make 3 = .ok (.bipush 6, 2) := by decide +kernel
theorem dL_make_5 : decode cL_make 5 = .ok (.iload_n 3, 1) := by decide +kernel
theorem dL_make_6 : decode cL_make 6 = .ok (.imul, 1) := by decide +kernel
theorem dL_make_7 : decode cL_make 7 = .ok (.iaload, 1) := by decide +kernel
theorem dL_make_8 : decode cL_make 8 = .ok (.iconst 1, 1) := by decide +kernel
theorem dL_make_9 : decode cL_make 9 = .ok (.if_icmp .ne 9, 3) := by decide +kernel
theorem dL_make_12 : decode cL_make 12 = .ok (.iinc 3 1, 3) := by decide +kernel
theorem dL_make_15 : decode cL_make 15 = .ok (.goto (-13), 3) := by decide +kernel
theorem dL_make_18 : decode cL_make 18 = .ok (.aload_n 0, 1) := by decide +kernel
theorem dL_make_19 : decode cL_make 19 = .ok (.bipush 6, 2) := by decide +kernel
theorem dL_make_21 : decode cL_make 21 = .ok (.iload_n 3, 1) := by decide +kernel
theorem dL_make_22 : decode cL_make 22 = .ok (.imul, 1) := by decide +kernel
theorem dL_make_23 : decode cL_make 23 = .ok (.iconst 1, 1) := by decide +kernel
theorem dL_make_24 : decode cL_make 24 = .ok (.iastore, 1) := by decide +kernel
theorem dL_make_25 : decode cL_make 25 = .ok (.aload_n 0, 1) := by decide +kernel
theorem dL_make_26 : decode cL_make 26 = .ok (.bipush 6, 2) := by decide +kernel
theorem dL_make_28 : decode cL_make 28 = .ok (.iload_n 3, 1) := by decide +kernel
theorem dL_make_29 : decode cL_make 29 = .ok (.imul, 1) := by decide +kernel
theorem dL_make_30 : decode cL_make 30 = .ok (.iconst 3, 1) := by decide +kernel
theorem dL_make_31 : decode cL_make 31 = .ok (.iadd, 1) := by decide +kernel
theorem dL_make_32 : decode cL_make 32 = .ok (.iconst (-1), 1) := by decide +kernel
theorem dL_make_33 : decode cL_make 33 = .ok (.iastore, 1) := by decide +kernel
theorem dL_make_34 : decode cL_make 34 = .ok (.aload_n 0, 1) := by decide +kernel
theorem dL_make_35 : decode cL_make 35 = .ok (.bipush 6, 2) := by decide +kernel
theorem dL_make_37 : decode cL_make 37 = .ok (.iload_n 3, 1) := by decide +kernel
theorem dL_make_38 : decode cL_make 38 = .ok (.imul, 1) := by decide +kernel
theorem dL_make_39 : decode cL_make 39 = .ok (.iconst 4, 1) := by decide +kernel
theorem dL_make_40 : decode cL_make 40 = .ok (.iadd, 1) := by decide +kernel
theorem dL_make_41 : decode cL_make 41 = .ok (.iconst (-1), 1) := by decide +kernel
theorem dL_make_42 : decode cL_make 42 = .ok (.iastore, 1) := by decide +kernel
theorem dL_make_43 : decode cL_make 43 = .ok (.iload_n 3, 1) := by decide +kernel
theorem dL_make_44 : decode cL_make 44 = .ok (.iconst 0, 1) := by decide +kernel
theorem dL_make_45 : decode cL_make 45 = .ok (.aload_n 0, 1) := by decide +kernel
theorem dL_make_46 : decode cL_make 46 = .ok (.aload_n 1, 1) := by decide +kernel
theorem dL_make_47 : decode cL_make 47 = .ok (.aload_n 2, 1) := by decide +kernel
theorem dL_make_48 : decode cL_make 48 = .ok (.invokestatic 24, 3) := by decide +kernel
theorem dL_make_51 : decode cL_make 51 = .ok (.iload_n 3, 1) := by decide +kernel
theorem dL_make_52 : decode cL_make 52 = .ok (.ireturn, 1) := by decide +kernel
set_option maxRecDepth 20000 in
theorem ggL_change_L_leave : GoodIn wsL_change wsL_leave := goodIn_r _ [4, 5, 6, 3, 7, 8, 9, 10] (by decide +kernel) (by decide +kernel)
set_option maxRecDepth 20000 in
theorem gL_change_L_leave : GoodIn wsL_change (va_wsS RL 28 yL_leave wsL_leave) := goodIn_app (goodIn_of _ (by decide +kernel)) ggL_change_L_leave
set_option maxRecDepth 20000 in
theorem ggL_change_L_enter : GoodIn wsL_change wsL_enter := goodIn_r _ [13, 14, 15, 3, 16, 5, 6, 7] (by decide +kernel) (by decide +kernel)
set_option maxRecDepth 20000 in
theorem gL_change_L_enter : GoodIn wsL_change (va_wsS RL 24 yL_enter wsL_enter) := goodIn_app (goodIn_of _ (by decide +kernel)) ggL_change_L_enter
theorem dL_change_0 : decode cL_change 0 = .ok (.iload_n 0, 1) := by decide +kernel
theorem dL_change_1 : decode cL_change 1 = .ok (.aload_n 2, 1) := by decide +kernel
theorem dL_change_2 : decode cL_change 2 = .ok (.invokestatic 28, 3) := by decide +kernel
theorem dL_change_5 : decode cL_change 5 = .ok (.iload_n 0, 1) := by decide +kernel
theorem dL_change_6 : decode cL_change 6 = .ok (.iload_n 1, 1) := by decide +kernel
theorem dL_change_7 : decode cL_change 7 = .ok (.aload_n 2, 1) := by decide +kernel
theorem dL_change_8 : decode cL_change 8 = .ok (.aload_n 3, 1) := by decide +kernel
theorem dL_change_9 : decode cL_change 9 = .ok (.aload 4, 2) := by decide +kernel
theorem dL_change_11 : decode cL_change 11 = .ok (.invokestatic 24, 3) := by decide +kernel
theorem dL_change_14 : decode cL_change 14 = .ok (.return_, 1) := by decide +kernel
set_option maxRecDepth 20000 in
theorem ggL_end_L_leave : GoodIn wsL_end wsL_leave := goodIn_r _ [4, 5, 6, 3, 7, 8, 9, 10] (by decide +kernel) (by decide +kernel)
set_option maxRecDepth 20000 in
theorem gL_end_L_leave : GoodIn wsL_end (va_wsS RL 28 yL_leave wsL_leave) := goodIn_app (goodIn_of _ (by decide +kernel)) ggL_end_L_leave
theorem dL_end_0 : decode cL_end 0 = .ok (.iconst 0, 1) := by decide +kernel
theorem dL_end_1 : decode cL_end 1 = .ok (.istore_n 2, 1) := by decide +kernel
theorem dL_end_2 : decode cL_end 2 = .ok (.iload_n 0, 1) := by decide +kernel
theorem dL_end_3 : decode cL_end 3 = .ok (.istore_n 3, 1) := by decide +kernel
theorem dL_end_4 : decode cL_end 4 = .ok (.iload_n 3, 1) := by decide +kernel
theorem dL_end_5 : decode cL_end 5 = .ok (.ifCond .lt 122, 3) := by decide +kernel
theorem dL_end_8 : decode cL_end 8 = .ok (.aload_n 1, 1) := by decide +kernel
theorem dL_end_9 : decode cL_end 9 = .ok (.bipush 6, 2) := by decide +kernel
theorem dL_end_11 : decode cL_end 11 = .ok (.iload_n 3, 1) := by decide +kernel
theorem dL_end_12 : decode cL_end 12 = .ok (.imul, 1) := by decide +kernel
theorem dL_end_13 : decode cL_end 13 = .ok (.iaload, 1) := by decide +kernel
theorem dL_end_14 : decode cL_end 14 = .ok (.iconst 1, 1) := by decide +kernel
theorem dL_end_15 : decode cL_end 15 = .ok (.if_icmp .ne 30, 3) := by decide +kernel
theorem dL_end_18 : decode cL_end 18 = .ok (.iload_n 3, 1) := by decide +kernel
theorem dL_end_19 : decode cL_end 19 = .ok (.aload_n 1, 1) := by decide +kernel
theorem dL_end_20 : decode cL_end 20 = .ok (.invokestatic 28, 3) := by decide +kernel
theorem dL_end_23 : decode cL_end 23 = .ok (.aload_n 1, 1) := by decide +kernel
theorem dL_end_24 : decode cL_end 24 = .ok (.bipush 6, 2) := by decide +kernel
theorem dL_end_26 : decode cL_end 26 = .ok (.iload_n 3, 1) := by decide +kernel
theorem dL_end_27 : decode cL_end 27 = .ok (.imul, 1) := by decide +kernel
theorem dL_end_28 : decode cL_end 28 = .ok (.iconst 0, 1) := by decide +kernel
theorem dL_end_29 : decode cL_end 29 = .ok (.iastore, 1) := by decide +kernel
theorem dL_end_30 : decode cL_end 30 = .ok (.aload_n 1, 1) := by decide +kernel
theorem dL_end_31 : decode cL_end 31 = .ok (.bipush 6, 2) := by decide +kernel
theorem dL_end_33 : decode cL_end 33 = .ok (.iload_n 3, 1) := by decide +kernel
theorem dL_end_34 : decode cL_end 34 = .ok (.imul, 1) := by decide +kernel
theorem dL_end_35 : decode cL_end 35 = .ok (.iconst 1, 1) := by decide +kernel
theorem dL_end_36 : decode cL_end 36 = .ok (.iadd, 1) := by decide +kernel
theorem dL_end_37 : decode cL_end 37 = .ok (.dup2, 1) := by decide +kernel
theorem dL_end_38 : decode cL_end 38 = .ok (.iaload, 1) := by decide +kernel
theorem dL_end_39 : decode cL_end 39 = .ok (.iconst 1, 1) := by decide +kernel
theorem dL_end_40 : decode cL_end 40 = .ok (.iadd, 1) := by decide +kernel
theorem dL_end_41 : decode cL_end 41 = .ok (.iastore, 1) := by decide +kernel
theorem dL_end_42 : decode cL_end 42 = .ok (.iinc 2 1, 3) := by decide +kernel
theorem dL_end_45 : decode cL_end 45 = .ok (.iconst (-1), 1) := by decide +kernel
theorem dL_end_46 : decode cL_end 46 = .ok (.istore 4, 2) := by decide +kernel
theorem dL_end_48 : decode cL_end 48 = .ok (.bipush 9, 2) := by decide +kernel
theorem dL_end_50 : decode cL_end 50 = .ok (.istore 5, 2) := by decide +kernel
theorem dL_end_52 : decode cL_end 52 = .ok (.iload 5, 2) := by decide +kernel
theorem dL_end_54 : decode cL_end 54 = .ok (.ifCond .lt 42, 3) := by decide +kernel
theorem dL_end_57 : decode cL_end 57 = .ok (.aload_n 1, 1) := by decide +kernel
theorem dL_end_58 : decode cL_end 58 = .ok (.bipush 6, 2) := by decide +kernel
theorem dL_end_60 : decode cL_end 60 = .ok (.iload 5, 2) := by decide +kernel
theorem dL_end_62 : decode cL_end 62 = .ok (.imul, 1) := by decide +kernel
theorem dL_end_63 : decode cL_end 63 = .ok (.iaload, 1) := by decide +kernel
theorem dL_end_64 : decode cL_end 64 = .ok (.iconst 1, 1) := by decide +kernel
theorem dL_end_65 : decode cL_end 65 = .ok (.if_icmp .ne 21, 3) := by decide +kernel
theorem dL_end_68 : decode cL_end 68 = .ok (.aload_n 1, 1) := by decide +kernel
theorem dL_end_69 : decode cL_end 69 = .ok (.bipush 6, 2) := by decide +kernel
theorem dL_end_71 : decode cL_end 71 = .ok (.iload 5, 2) := by decide +kernel
theorem dL_end_73 : decode cL_end 73 = .ok (.imul, 1) := by decide +kernel
theorem dL_end_74 : decode cL_end 74 = .ok (.iconst 3, 1) := by decide +kernel
theorem dL_end_75 : decode cL_end 75 = .ok (.iadd, 1) := by decide +kernel
theorem dL_end_76 : decode cL_end 76 = .ok (.iaload, 1) := by decide +kernel
theorem dL_end_77 : decode cL_end 77 = .ok (.iload_n 3, 1) := by decide +kernel
theorem dL_end_78 : decode cL_end 78 = .ok (.if_icmp .ne 8, 3) := by decide +kernel
theorem dL_end_81 : decode cL_end 81 = .ok (.iload 5, 2) := by decide +kernel
theorem dL_end_83 : decode cL_end 83 = .ok (.goto 5, 3) := by decide +kernel
theorem dL_end_86 : decode cL_end 86 = .ok (.iload 4, 2) := by decide +kernel
theorem dL_end_88 : decode cL_end 88 = .ok (.istore 4, 2) := by decide +kernel
theorem dL_end_90 : decode cL_end 90 = .ok (.iinc 5 (-1), 3) := by decide +kernel
theorem dL_end_93 : decode cL_end 93 = .ok (.goto (-41), 3) := by decide +kernel
theorem dL_end_96 : decode cL_end 96 = .ok (.iload 4, 2) := by decide +kernel
theorem dL_end_98 : decode cL_end 98 = .ok (.ifCond .lt 8, 3) := by decide +kernel
theorem dL_end_101 : decode cL_end 101 = .ok (.iload 4, 2) := by decide +kernel
theorem dL_end_103 : decode cL_end 103 = .ok (.goto 20, 3) := by decide +kernel
theorem dL_end_106 : decode cL_end 106 = .ok (.iload_n 3, 1) := by decide +kernel
theorem dL_end_107 : decode cL_end 107 = .ok (.iload_n 0, 1) := by decide +kernel
theorem dL_end_108 : decode cL_end 108 = .ok (.if_icmp .ne 7, 3) := by decide +kernel
theorem dL_end_111 : decode cL_end 111 = .ok (.iconst (-1), 1) := by decide +kernel
theorem dL_end_112 : decode cL_end 112 = .ok (.goto 11, 3) := by decide +kernel
theorem dL_end_115 : decode cL_end 115 = .ok (.aload_n 1, 1) := by decide +kernel
theorem dL_end_116 : decode cL_end 116 = .ok (.bipush 6, 2) := by decide +kernel
theorem dL_end_118 : decode cL_end 118 = .ok (.iload_n 3, 1) := by decide +kernel
theorem dL_end_119 : decode cL_end 119 = .ok (.imul, 1) := by decide +kernel
theorem dL_end_120 : decode cL_end 120 = .ok (.iconst 3, 1) := by decide +kernel
theorem dL_end_121 : decode cL_end 121 = .ok (.iadd, 1) := by decide +kernel
theorem dL_end_122 : decode cL_end 122 = .ok (.iaload, 1) := by decide +kernel
theorem dL_end_123 : decode cL_end 123 = .ok (.istore_n 3, 1) := by decide +kernel
theorem dL_end_124 : decode cL_end 124 = .ok (.goto (-120), 3) := by decide +kernel
theorem dL_end_127 : decode cL_end 127 = .ok (.iload_n 2, 1) := by decide +kernel
theorem dL_end_128 : decode cL_end 128 = .ok (.ireturn, 1) := by decide +kernel
theorem dL_answers_0 : decode cL_answers 0 = .ok (.aload_n 2, 1) := by decide +kernel
theorem dL_answers_1 : decode cL_answers 1 = .ok (.iconst 3, 1) := by decide +kernel
theorem dL_answers_2 : decode cL_answers 2 = .ok (.iload_n 1, 1) := by decide +kernel
theorem dL_answers_3 : decode cL_answers 3 = .ok (.imul, 1) := by decide +kernel
theorem dL_answers_4 : decode cL_answers 4 = .ok (.iaload, 1) := by decide +kernel
theorem dL_answers_5 : decode cL_answers 5 = .ok (.iload_n 0, 1) := by decide +kernel
theorem dL_answers_6 : decode cL_answers 6 = .ok (.iconst (-1), 1) := by decide +kernel
theorem dL_answers_7 : decode cL_answers 7 = .ok (.ixor, 1) := by decide +kernel
theorem dL_answers_8 : decode cL_answers 8 = .ok (.iand, 1) := by decide +kernel
theorem dL_answers_9 : decode cL_answers 9 = .ok (.ifCond .ne 41, 3) := by decide +kernel
theorem dL_answers_12 : decode cL_answers 12 = .ok (.aload_n 2, 1) := by decide +kernel
theorem dL_answers_13 : decode cL_answers 13 = .ok (.iconst 3, 1) := by decide +kernel
theorem dL_answers_14 : decode cL_answers 14 = .ok (.iload_n 1, 1) := by decide +kernel
theorem dL_answers_15 : decode cL_answers 15 = .ok (.imul, 1) := by decide +kernel
theorem dL_answers_16 : decode cL_answers 16 = .ok (.iconst 1, 1) := by decide +kernel
theorem dL_answers_17 : decode cL_answers 17 = .ok (.iadd, 1) := by decide +kernel
theorem dL_answers_18 : decode cL_answers 18 = .ok (.iaload, 1) := by decide +kernel
theorem dL_answers_19 : decode cL_answers 19 = .ok (.iload_n 0, 1) := by decide +kernel
theorem dL_answers_20 : decode cL_answers 20 = .ok (.iand, 1) := by decide +kernel
theorem dL_answers_21 : decode cL_answers 21 = .ok (.ifCond .ne 29, 3) := by decide +kernel
theorem dL_answers_24 : decode cL_answers 24 = .ok (.aload_n 2, 1) := by decide +kernel
theorem dL_answers_25 : decode cL_answers 25 = .ok (.iconst 3, 1) := by decide +kernel
theorem dL_answers_26 : decode cL_answers 26 = .ok (.iload_n 1, 1) := by decide +kernel
theorem dL_answers_27 : decode cL_answers 27 = .ok (.imul, 1) := by decide +kernel
theorem dL_answers_28 : decode cL_answers 28 = .ok (.iconst 2, 1) := by decide +kernel
theorem dL_answers_29 : decode cL_answers 29 = .ok (.iadd, 1) := by decide +kernel
theorem dL_answers_30 : decode cL_answers 30 = .ok (.iaload, 1) := by decide +kernel
theorem dL_answers_31 : decode cL_answers 31 = .ok (.ifCond .eq 15, 3) := by decide +kernel
theorem dL_answers_34 : decode cL_answers 34 = .ok (.aload_n 2, 1) := by decide +kernel
theorem dL_answers_35 : decode cL_answers 35 = .ok (.iconst 3, 1) := by decide +kernel
theorem dL_answers_36 : decode cL_answers 36 = .ok (.iload_n 1, 1) := by decide +kernel
theorem dL_answers_37 : decode cL_answers 37 = .ok (.imul, 1) := by decide +kernel
theorem dL_answers_38 : decode cL_answers 38 = .ok (.iconst 2, 1) := by decide +kernel
theorem dL_answers_39 : decode cL_answers 39 = .ok (.iadd, 1) := by decide +kernel
theorem dL_answers_40 : decode cL_answers 40 = .ok (.iaload, 1) := by decide +kernel
theorem dL_answers_41 : decode cL_answers 41 = .ok (.iload_n 0, 1) := by decide +kernel
theorem dL_answers_42 : decode cL_answers 42 = .ok (.iand, 1) := by decide +kernel
theorem dL_answers_43 : decode cL_answers 43 = .ok (.ifCond .le 7, 3) := by decide +kernel
theorem dL_answers_46 : decode cL_answers 46 = .ok (.iconst 1, 1) := by decide +kernel
theorem dL_answers_47 : decode cL_answers 47 = .ok (.goto 4, 3) := by decide +kernel
theorem dL_answers_50 : decode cL_answers 50 = .ok (.iconst 0, 1) := by decide +kernel
theorem dL_answers_51 : decode cL_answers 51 = .ok (.ireturn, 1) := by decide +kernel
set_option maxRecDepth 20000 in
theorem ggL_refused_X6_make : GoodIn wsL_refused wsX6_make := goodIn_ca (goodIn_r _ [9, 10, 11, 12, 8, 13, 14, 15, 16, 17, 18, 19, 20, 21, 22, 23, 24, 25, 26, 27, 28, 29, 30, 31, 32, 33, 34, 35, 36, 37, 38, 39, 40, 41, 42, 43, 44, 45, 46, 47, 48, 49, 50, 51, 52, 53, 54, 55, 56, 57, 58, 59, 60, 61, 62, 63, 64, 65, 66, 67, 68, 69, 70, 71, 72, 73, 74, 75, 76, 77, 78, 79, 80, 81, 82, 83, 84, 85, 86, 87, 88, 89, 90, 91, 92, 93, 94, 95, 96, 97, 98, 99, 100, 101, 102, 103, 104, 105, 106, 107, 108, 109, 110, 111, 112, 113, 114, 115, 116, 117, 118, 119, 120, 121, 122, 123, 124, 125, 126, 127, 128, 129, 361, 362, 363, 364, 365, 366, 367, 368, 369, 370, 371, 372, 373, 374, 375, 376, 377] (by decide +kernel) (by decide +kernel)) (goodIn_sub (fun _ h => List.mem_cons_of_mem _ (List.mem_append_left _ (List.mem_append_left _ (List.mem_append_left _ (List.mem_append_right _ h))))) (by decide +kernel))
set_option maxRecDepth 20000 in
theorem gL_refused_X6_make : GoodIn wsL_refused (wsV RL 32 RX6 yX6_make wsX6_make) := goodIn_app (goodIn_of _ (by decide +kernel)) ggL_refused_X6_make
set_option maxRecDepth 20000 in
theorem ggL_refused_X6_end : GoodIn wsL_refused wsX6_end := goodIn_ca (goodIn_ca (goodIn_r _ [133, 134, 135, 136, 137, 8, 138, 139, 140, 141, 142, 143, 144, 21, 145, 146, 147, 148, 149, 150, 151, 10, 11, 12, 13, 14, 15, 16, 152, 153, 154, 155, 156, 61, 34, 157, 65, 66, 67, 53, 68, 69, 70, 71, 72, 73, 74, 75, 76, 77, 58, 59, 78, 79, 80, 81, 82, 83, 36, 84, 85, 86, 87, 88, 89, 90, 91, 92, 93, 94, 95, 96, 97, 98, 99, 100, 101, 102, 103, 104, 105, 106, 107, 108, 109, 110, 111, 112, 113, 114, 115, 116, 117, 118, 119, 120, 121, 122, 123, 124, 125, 126, 127, 128, 129, 31, 32, 33, 35, 37, 38, 39, 40, 41, 42, 43, 44, 45, 46, 47, 48, 49, 50, 51, 52, 158, 159, 160, 161, 162, 163, 164, 165, 166, 22, 23, 24, 25, 26, 27, 28, 29, 30, 54, 55, 56, 57, 60, 62, 63, 64, 167, 168, 169, 170, 171, 172, 173, 174, 175, 176, 177, 178, 179, 180, 181, 182, 183, 184, 185, 186, 187, 188, 189, 190, 191, 361, 362, 363, 364, 365, 366, 369, 370, 371, 372, 373, 374, 375, 376, 377, 367, 368] (by decide +kernel) (by decide +kernel)) (goodIn_sub (fun _ h => List.mem_cons_of_mem _ (List.mem_append_left _ (List.mem_append_left _ (List.mem_append_right _ h)))) (by decide +kernel))) (goodIn_sub (fun _ h => List.mem_cons_of_mem _ (List.mem_append_left _ (List.mem_append_left _ (List.mem_append_left _ (List.mem_append_right _ h))))) (by decide +kernel))
set_option maxRecDepth 20000 in
theorem gL_refused_X6_end : GoodIn wsL_refused (wsV RL 38 RX6 yX6_end wsX6_end) := goodIn_app (goodIn_of _ (by decide +kernel)) ggL_refused_X6_end
set_option maxRecDepth 20000 in
theorem ggL_refused_X6_adopt : GoodIn wsL_refused wsX6_adopt := goodIn_ca (goodIn_ca (goodIn_ca (goodIn_r _ [195, 135, 136, 137, 8, 138, 139, 140, 141, 142, 143, 144, 21, 145, 146, 147, 148, 149, 150, 151, 196, 197, 198, 199, 200, 10, 11, 12, 13, 14, 15, 16, 361, 362, 363, 364, 365, 366, 369, 370, 371, 372, 373, 374] (by decide +kernel) (by decide +kernel)) (goodIn_sub (fun _ h => List.mem_cons_of_mem _ (List.mem_append_left _ (List.mem_append_left _ (List.mem_append_right _ h)))) (by decide +kernel))) (goodIn_sub (fun _ h => List.mem_cons_of_mem _ (List.mem_append_left _ (List.mem_append_right _ h))) (by decide +kernel))) (goodIn_sub (fun _ h => List.mem_cons_of_mem _ (List.mem_append_left _ (List.mem_append_left _ (List.mem_append_left _ (List.mem_append_right _ h))))) (by decide +kernel))
set_option maxRecDepth 20000 in
theorem gL_refused_X6_adopt : GoodIn wsL_refused (wsV RL 42 RX6 yX6_adopt wsX6_adopt) := goodIn_app (goodIn_of _ (by decide +kernel)) ggL_refused_X6_adopt
set_option maxRecDepth 20000 in
theorem ggL_refused_X6_add : GoodIn wsL_refused wsX6_add := goodIn_ca (goodIn_ca (goodIn_ca (goodIn_r _ [204, 14, 15, 205, 135, 136, 137, 8, 138, 139, 140, 141, 142, 143, 144, 21, 145, 146, 147, 148, 149, 150, 151, 206, 207, 208, 199, 200, 209, 210, 211, 212, 191, 10, 11, 12, 13, 16, 213, 214, 215, 216, 22, 23, 24, 25, 26, 27, 28, 29, 30, 31, 32, 33, 34, 35, 36, 37, 38, 39, 40, 41, 42, 43, 44, 45, 46, 47, 48, 49, 50, 51, 52, 53, 54, 55, 56, 57, 58, 59, 60, 61, 62, 63, 64, 65, 66, 67, 68, 69, 70, 71, 72, 73, 74, 75, 76, 77, 78, 79, 80, 81, 82, 83, 84, 85, 86, 87, 88, 89, 90, 91, 92, 93, 94, 95, 96, 97, 98, 99, 100, 101, 102, 103, 104, 105, 106, 107, 108, 109, 110, 111, 112, 113, 114, 115, 116, 117, 118, 119, 120, 121, 122, 123, 124, 125, 126, 127, 128, 129, 167, 168, 169, 170, 171, 172, 173, 174, 175, 176, 177, 178, 179, 180, 181, 182, 183, 184, 185, 162, 217, 218, 219, 220, 221, 222, 361, 362, 363, 364, 365, 366, 369, 370, 371, 372, 373, 374, 367, 368, 375, 376, 377] (by decide +kernel) (by decide +kernel)) (goodIn_sub (fun _ h => List.mem_cons_of_mem _ (List.mem_append_left _ (List.mem_append_left _ (List.mem_append_left _ (List.mem_append_right _ h))))) (by decide +kernel))) (goodIn_sub (fun _ h => List.mem_cons_of_mem _ (List.mem_append_left _ (List.mem_append_left _ (List.mem_append_right _ h)))) (by decide +kernel))) (goodIn_sub (fun _ h => List.mem_cons_of_mem _ (List.mem_append_left _ (List.mem_append_right _ h))) (by decide +kernel))
set_option maxRecDepth 20000 in
theorem gL_refused_X6_add : GoodIn wsL_refused (wsV RL 46 RX6 yX6_add wsX6_add) := goodIn_app (goodIn_of _ (by decide +kernel)) ggL_refused_X6_add
set_option maxRecDepth 20000 in
theorem ggL_refused_X6_take : GoodIn wsL_refused wsX6_take := goodIn_ca (goodIn_ca (goodIn_ca (goodIn_r _ [226, 227, 228, 229, 8, 230, 14, 15, 135, 136, 137, 138, 139, 140, 141, 142, 143, 144, 21, 145, 146, 147, 148, 149, 150, 151, 206, 207, 208, 199, 200, 209, 210, 211, 212, 191, 10, 11, 12, 13, 16, 213, 214, 215, 216, 22, 23, 24, 25, 26, 27, 28, 29, 30, 31, 32, 33, 34, 35, 36, 37, 38, 39, 40, 41, 42, 43, 44, 45, 46, 47, 48, 49, 50, 51, 52, 53, 54, 55, 56, 57, 58, 59, 60, 61, 62, 63, 64, 65, 66, 67, 68, 69, 70, 71, 72, 73, 74, 75, 76, 77, 78, 79, 80, 81, 82, 83, 84, 85, 86, 87, 88, 89, 90, 91, 92, 93, 94, 95, 96, 97, 98, 99, 100, 101, 102, 103, 104, 105, 106, 107, 108, 109, 110, 111, 112, 113, 114, 115, 116, 117, 118, 119, 120, 121, 122, 123, 124, 125, 126, 127, 128, 129, 167, 168, 169, 170, 171, 172, 173, 174, 175, 176, 177, 178, 179, 180, 181, 182, 183, 184, 185, 162, 361, 362, 363, 364, 365, 366, 369, 370, 371, 372, 373, 374, 367, 368, 375, 376, 377] (by decide +kernel) (by decide +kernel)) (goodIn_sub (fun _ h => List.mem_cons_of_mem _ (List.mem_append_left _ (List.mem_append_left _ (List.mem_append_left _ (List.mem_append_right _ h))))) (by decide +kernel))) (goodIn_sub (fun _ h => List.mem_cons_of_mem _ (List.mem_append_left _ (List.mem_append_left _ (List.mem_append_right _ h)))) (by decide +kernel))) (goodIn_sub (fun _ h => List.mem_cons_of_mem _ (List.mem_append_left _ (List.mem_append_right _ h))) (by decide +kernel))
set_option maxRecDepth 20000 in
theorem gL_refused_X6_take : GoodIn wsL_refused (wsV RL 50 RX6 yX6_take wsX6_take) := goodIn_app (goodIn_of _ (by decide +kernel)) ggL_refused_X6_take
set_option maxRecDepth 20000 in
theorem ggL_refused_X6_set : GoodIn wsL_refused wsX6_set := goodIn_ca (goodIn_ca (goodIn_ca (goodIn_r _ [234, 205, 227, 228, 229, 8, 230, 14, 15, 135, 136, 137, 138, 139, 140, 141, 142, 143, 144, 21, 145, 146, 147, 148, 149, 150, 151, 206, 207, 208, 199, 200, 209, 210, 211, 212, 191, 217, 218, 219, 220, 221, 222, 361, 362, 363, 364, 365, 366, 369, 370, 371, 372, 373, 374] (by decide +kernel) (by decide +kernel)) (goodIn_sub (fun _ h => List.mem_cons_of_mem _ (List.mem_append_left _ (List.mem_append_left _ (List.mem_append_left _ (List.mem_append_right _ h))))) (by decide +kernel))) (goodIn_sub (fun _ h => List.mem_cons_of_mem _ (List.mem_append_left _ (List.mem_append_left _ (List.mem_append_right _ h)))) (by decide +kernel))) (goodIn_sub (fun _ h => List.mem_cons_of_mem _ (List.mem_append_left _ (List.mem_append_right _ h))) (by decide +kernel))
set_option maxRecDepth 20000 in
theorem gL_refused_X6_set : GoodIn wsL_refused (wsV RL 53 RX6 yX6_set wsX6_set) := goodIn_app (goodIn_of _ (by decide +kernel)) ggL_refused_X6_set
set_option maxRecDepth 20000 in
theorem ggL_refused_X6_value : GoodIn wsL_refused wsX6_value := goodIn_ca (goodIn_ca (goodIn_ca (goodIn_r _ [238, 227, 228, 229, 8, 230, 14, 15, 135, 136, 137, 138, 139, 140, 141, 142, 143, 144, 21, 145, 146, 147, 148, 149, 150, 151, 206, 207, 208, 199, 200, 209, 210, 211, 212, 191, 361, 362, 363, 364, 365, 366, 369, 370, 371, 372, 373, 374] (by decide +kernel) (by decide +kernel)) (goodIn_sub (fun _ h => List.mem_cons_of_mem _ (List.mem_append_left _ (List.mem_append_left _ (List.mem_append_left _ (List.mem_append_right _ h))))) (by decide +kernel))) (goodIn_sub (fun _ h => List.mem_cons_of_mem _ (List.mem_append_left _ (List.mem_append_left _ (List.mem_append_right _ h)))) (by decide +kernel))) (goodIn_sub (fun _ h => List.mem_cons_of_mem _ (List.mem_append_left _ (List.mem_append_right _ h))) (by decide +kernel))
set_option maxRecDepth 20000 in
theorem gL_refused_X6_value : GoodIn wsL_refused (wsV RL 56 RX6 yX6_value wsX6_value) := goodIn_app (goodIn_of _ (by decide +kernel)) ggL_refused_X6_value
set_option maxRecDepth 20000 in
theorem ggL_refused_X6_entityAt : GoodIn wsL_refused wsX6_entityAt := goodIn_ca (goodIn_r _ [242, 243, 244, 245, 8, 246, 247, 248, 26, 27, 31, 32, 33, 34, 35, 36, 37, 38, 39, 40, 41, 42, 43, 44, 45, 46, 47, 48, 49, 50, 51, 52, 53, 249, 250, 251, 134, 367, 368, 369, 370, 371, 372, 373, 374, 375, 376, 377, 361, 362, 363, 364, 365, 366] (by decide +kernel) (by decide +kernel)) (goodIn_sub (fun _ h => List.mem_cons_of_mem _ (List.mem_append_right _ h)) (by decide +kernel))
set_option maxRecDepth 20000 in
theorem gL_refused_X6_entityAt : GoodIn wsL_refused (wsV RL 59 RX6 yX6_entityAt wsX6_entityAt) := goodIn_app (goodIn_of _ (by decide +kernel)) ggL_refused_X6_entityAt
set_option maxRecDepth 20000 in
theorem ggL_refused_X6_answer : GoodIn wsL_refused wsX6_answer := goodIn_ca (goodIn_r _ [255, 256, 257, 258, 8, 259, 247, 248, 260, 261, 31, 32, 33, 34, 35, 36, 37, 38, 39, 40, 41, 42, 43, 44, 45, 46, 47, 48, 49, 50, 51, 52, 53, 262, 263, 264, 265, 156, 61, 26, 27, 134, 157, 65, 66, 67, 68, 69, 70, 71, 72, 73, 74, 75, 76, 77, 58, 59, 266, 267, 268, 269, 270, 271, 272, 273, 78, 79, 80, 81, 82, 83, 84, 85, 86, 87, 88, 89, 90, 91, 92, 93, 94, 95, 96, 97, 98, 99, 100, 101, 102, 103, 104, 105, 106, 107, 108, 109, 110, 111, 112, 113, 114, 115, 116, 117, 118, 119, 120, 121, 122, 123, 124, 125, 126, 127, 128, 129, 249, 250, 251, 369, 370, 371, 372, 373, 374, 375, 376, 377, 367, 368, 378, 379, 380, 361, 362, 363, 364, 365, 366] (by decide +kernel) (by decide +kernel)) (goodIn_sub (fun _ h => List.mem_cons_of_mem _ (List.mem_append_right _ h)) (by decide +kernel))
set_option maxRecDepth 20000 in
theorem gL_refused_X6_answer : GoodIn wsL_refused (wsV RL 62 RX6 yX6_answer wsX6_answer) := goodIn_app (goodIn_of _ (by decide +kernel)) ggL_refused_X6_answer
set_option maxRecDepth 20000 in
theorem ggL_refused_X6_walk : GoodIn wsL_refused wsX6_walk := goodIn_ca (goodIn_ca (goodIn_r _ [277, 278, 279, 280, 16, 256, 257, 258, 8, 259, 247, 248, 260, 261, 31, 32, 33, 34, 35, 36, 37, 38, 39, 40, 41, 42, 43, 44, 45, 46, 47, 48, 49, 50, 51, 52, 53, 10, 11, 12, 13, 14, 15, 262, 263, 264, 265, 156, 61, 26, 27, 134, 157, 65, 66, 67, 68, 69, 70, 71, 72, 73, 74, 75, 76, 77, 58, 59, 266, 267, 268, 269, 270, 271, 272, 273, 78, 79, 80, 81, 82, 83, 84, 85, 86, 87, 88, 89, 90, 91, 92, 93, 94, 95, 96, 97, 98, 99, 100, 101, 102, 103, 104, 105, 106, 107, 108, 109, 110, 111, 112, 113, 114, 115, 116, 117, 118, 119, 120, 121, 122, 123, 124, 125, 126, 127, 128, 129, 281, 282, 283, 284, 285, 286, 287, 288, 289, 381, 382, 383, 369, 370, 371, 372, 373, 374, 375, 376, 377, 367, 368, 378, 379, 380] (by decide +kernel) (by decide +kernel)) (goodIn_sub (fun _ h => List.mem_cons_of_mem _ (List.mem_append_right _ h)) (by decide +kernel))) (goodIn_sub (fun _ h => List.mem_cons_of_mem _ (List.mem_append_left _ (List.mem_append_left _ (List.mem_append_left _ (List.mem_append_right _ h))))) (by decide +kernel))
set_option maxRecDepth 20000 in
theorem gL_refused_X6_walk : GoodIn wsL_refused (wsV RL 65 RX6 yX6_walk wsX6_walk) := goodIn_app (goodIn_of _ (by decide +kernel)) ggL_refused_X6_walk
set_option maxRecDepth 20000 in
theorem ggL_refused_X6_run : GoodIn wsL_refused wsX6_run := goodIn_ca (goodIn_r _ [293, 205, 10, 11, 12, 8, 13, 14, 15, 16, 294, 295, 296, 297, 298, 299, 300, 97, 98, 99, 31, 32, 33, 34, 35, 36, 37, 38, 39, 40, 41, 42, 43, 44, 45, 46, 47, 48, 49, 50, 51, 52, 53, 301, 302, 303, 304, 305, 306, 307, 308, 26, 27, 134, 309, 310, 311, 312, 313, 314, 315, 316, 317, 318, 319, 320, 218, 219, 148, 220, 221, 222, 369, 370, 371, 372, 373, 374, 384, 385, 386, 375, 376, 377, 367, 368, 361, 362, 363, 364, 365, 366] (by decide +kernel) (by decide +kernel)) (goodIn_sub (fun _ h => List.mem_cons_of_mem _ (List.mem_append_left _ (List.mem_append_left _ (List.mem_append_left _ (List.mem_append_right _ h))))) (by decide +kernel))
set_option maxRecDepth 20000 in
theorem gL_refused_X6_run : GoodIn wsL_refused (wsV RL 68 RX6 yX6_run wsX6_run) := goodIn_app (goodIn_of _ (by decide +kernel)) ggL_refused_X6_run
set_option maxRecDepth 20000 in
theorem ggL_refused_X6_finish : GoodIn wsL_refused wsX6_finish := goodIn_ca (goodIn_ca (goodIn_ca (goodIn_r _ [324, 16, 325, 326, 327, 328, 8, 329, 14, 15, 31, 32, 33, 34, 35, 36, 37, 38, 39, 40, 41, 42, 43, 44, 45, 46, 47, 48, 49, 50, 51, 52, 53, 330, 331, 332, 333, 139, 199, 334, 202, 203, 204, 205, 135, 136, 137, 138, 140, 141, 142, 143, 144, 21, 145, 146, 147, 148, 149, 150, 151, 206, 207, 208, 200, 209, 210, 211, 212, 191, 10, 11, 12, 13, 213, 214, 215, 216, 22, 23, 24, 25, 26, 27, 28, 29, 30, 54, 55, 56, 57, 58, 59, 60, 61, 62, 63, 64, 65, 66, 67, 68, 69, 70, 71, 72, 73, 74, 75, 76, 77, 78, 79, 80, 81, 82, 83, 84, 85, 86, 87, 88, 89, 90, 91, 92, 93, 94, 95, 96, 97, 98, 99, 100, 101, 102, 103, 104, 105, 106, 107, 108, 109, 110, 111, 112, 113, 114, 115, 116, 117, 118, 119, 120, 121, 122, 123, 124, 125, 126, 127, 128, 129, 167, 168, 169, 170, 171, 172, 173, 174, 175, 176, 177, 178, 179, 180, 181, 182, 183, 184, 185, 162, 217, 218, 219, 220, 221, 222, 335, 224, 225, 226, 227, 228, 229, 230, 336, 131, 132, 133, 134, 152, 153, 154, 155, 156, 157, 158, 159, 160, 161, 163, 164, 165, 166, 186, 187, 188, 189, 190, 337, 338, 339, 340, 341, 6, 7, 9, 17, 18, 19, 20, 381, 382, 383, 369, 370, 371, 372, 373, 374, 375, 376, 377, 387, 388, 389, 390, 361, 362, 363, 364, 365, 366, 367, 368] (by decide +kernel) (by decide +kernel)) (goodIn_sub (fun _ h => List.mem_cons_of_mem _ (List.mem_append_left _ (List.mem_append_left _ (List.mem_append_left _ (List.mem_append_right _ h))))) (by decide +kernel))) (goodIn_sub (fun _ h => List.mem_cons_of_mem _ (List.mem_append_left _ (List.mem_append_left _ (List.mem_append_right _ h)))) (by decide +kernel))) (goodIn_sub (fun _ h => List.mem_cons_of_mem _ (List.mem_append_left _ (List.mem_append_right _ h))) (by decide +kernel))
set_option maxRecDepth 20000 in
theorem gL_refused_X6_finish : GoodIn wsL_refused (wsV RL 71 RX6 yX6_finish wsX6_finish) := goodIn_app (goodIn_of _ (by decide +kernel)) ggL_refused_X6_finish
set_option maxRecDepth 20000 in
theorem ggL_refused_X6_next : GoodIn wsL_refused wsX6_next := goodIn_ca (goodIn_r _ [345, 134, 326, 327, 328, 8, 329, 14, 15, 16, 31, 32, 33, 34, 35, 36, 37, 38, 39, 40, 41, 42, 43, 44, 45, 46, 47, 48, 49, 50, 51, 52, 53, 381, 382, 383, 361, 362, 363, 364, 365, 366, 369, 370, 371, 372, 373, 374, 375, 376, 377] (by decide +kernel) (by decide +kernel)) (goodIn_sub (fun _ h => List.mem_cons_of_mem _ (List.mem_append_left _ (List.mem_append_left _ (List.mem_append_left _ (List.mem_append_right _ h))))) (by decide +kernel))
set_option maxRecDepth 20000 in
theorem gL_refused_X6_next : GoodIn wsL_refused (wsV RL 74 RX6 yX6_next wsX6_next) := goodIn_app (goodIn_of _ (by decide +kernel)) ggL_refused_X6_next
set_option maxRecDepth 20000 in
theorem ggL_refused_X6_defer : GoodIn wsL_refused wsX6_defer := goodIn_ca (goodIn_ca (goodIn_r _ [349, 199, 200, 14, 15, 350, 351, 352, 326, 327, 328, 8, 329, 16, 31, 32, 33, 34, 35, 36, 353, 354, 355, 356, 58, 59, 357, 358, 359, 360, 78, 79, 80, 81, 82, 83, 53, 84, 85, 86, 87, 88, 89, 90, 91, 92, 93, 94, 95, 67, 96, 97, 98, 99, 100, 101, 102, 103, 104, 105, 106, 107, 108, 109, 110, 111, 112, 113, 114, 115, 116, 117, 118, 119, 120, 121, 122, 123, 124, 125, 126, 127, 128, 129, 381, 382, 383, 387, 388, 389, 390, 369, 370, 371, 372, 373, 374, 375, 376, 377] (by decide +kernel) (by decide +kernel)) (goodIn_sub (fun _ h => List.mem_cons_of_mem _ (List.mem_append_left _ (List.mem_append_right _ h))) (by decide +kernel))) (goodIn_sub (fun _ h => List.mem_cons_of_mem _ (List.mem_append_left _ (List.mem_append_left _ (List.mem_append_left _ (List.mem_append_right _ h))))) (by decide +kernel))
set_option maxRecDepth 20000 in
theorem gL_refused_X6_defer : GoodIn wsL_refused (wsV RL 77 RX6 yX6_defer wsX6_defer) := goodIn_app (goodIn_of _ (by decide +kernel)) ggL_refused_X6_defer
theorem dL_refused_0 : decode cL_refused 0 = .ok (.iload_n 1, 1) := by decide +kernel
theorem dL_refused_1 : decode cL_refused 1 = .ok (.ifCond .ne 10, 3) := by decide +kernel
theorem dL_refused_4 : decode cL_refused 4 = .ok (.aload_n 0, 1) := by decide +kernel
theorem dL_refused_5 : decode cL_refused 5 = .ok (.invokevirtual 32, 3) := by decide +kernel
theorem dL_refused_8 : decode cL_refused 8 = .ok (.goto 180, 3) := by decide +kernel
theorem dL_refused_11 : decode cL_refused 11 = .ok (.iload_n 1, 1) := by decide +kernel
theorem dL_refused_12 : decode cL_refused 12 = .ok (.iconst 1, 1) := by decide +kernel
theorem dL_refused_13 : decode cL_refused 13 = .ok (.if_icmp .ne 11, 3) := by decide +kernel
theorem dL_refused_16 : decode cL_refused 16 = .ok (.aload_n 0, 1) := by decide +kernel
theorem dL_refused_17 : decode cL_refused 17 = .ok (.iload_n 2, 1) := by decide +kernel
theorem dL_refused_18 : decode cL_refused 18 = .ok (.invokevirtual 38, 3) := by decide +kernel
theorem dL_refused_21 : decode cL_refused 21 = .ok (.goto 167, 3) := by decide +kernel
theorem dL_refused_24 : decode cL_refused 24 = .ok (.iload_n 1, 1) := by decide +kernel
theorem dL_refused_25 : decode cL_refused 25 = .ok (.iconst 2, 1) := by decide +kernel
theorem dL_refused_26 : decode cL_refused 26 = .ok (.if_icmp .ne 12, 3) := by decide +kernel
theorem dL_refused_29 : decode cL_refused 29 = .ok (.aload_n 0, 1) := by decide +kernel
theorem dL_refused_30 : decode cL_refused 30 = .ok (.iload_n 2, 1) := by decide +kernel
theorem dL_refused_31 : decode cL_refused 31 = .ok (.iload_n 3, 1) := by decide +kernel
theorem dL_refused_32 : decode cL_refused 32 = .ok (.invokevirtual 42, 3) := by decide +kernel
theorem dL_refused_35 : decode cL_refused 35 = .ok (.goto 153, 3) := by decide +kernel
theorem dL_refused_38 : decode cL_refused 38 = .ok (.iload_n 1, 1) := by decide +kernel
theorem dL_refused_39 : decode cL_refused 39 = .ok (.iconst 3, 1) := by decide +kernel
theorem dL_refused_40 : decode cL_refused 40 = .ok (.if_icmp .ne 13, 3) := by decide +kernel
theorem dL_refused_43 : decode cL_refused 43 = .ok (.aload_n 0, 1) := by decide +kernel
theorem dL_refused_44 : decode cL_refused 44 = .ok (.iload_n 2, 1) := by decide +kernel
theorem dL_refused_45 : decode cL_refused 45 = .ok (.iload_n 3, 1) := by decide +kernel
theorem dL_refused_46 : decode cL_refused 46 = .ok (.iconst 5, 1) := by decide +kernel
theorem dL_refused_47 : decode cL_refused 47 = .ok (.invokevirtual 46, 3) := by decide +kernel
theorem dL_refused_50 : decode cL_refused 50 = .ok (.goto 138, 3) := by decide +kernel
theorem dL_refused_53 : decode cL_refused 53 = .ok (.iload_n 1, 1) := by decide +kernel
theorem dL_refused_54 : decode cL_refused 54 = .ok (.iconst 4, 1) := by decide +kernel
theorem dL_refused_55 : decode cL_refused 55 = .ok (.if_icmp .ne 12, 3) := by decide +kernel
theorem dL_refused_58 : decode cL_refused 58 = .ok (.aload_n 0, 1) := by decide +kernel
theorem dL_refused_59 : decode cL_refused 59 = .ok (.iload_n 2, 1) := by decide +kernel
theorem dL_refused_60 : decode cL_refused 60 = .ok (.iload_n 3, 1) := by decide +kernel
theorem dL_refused_61 : decode cL_refused 61 = .ok (.invokevirtual 50, 3) := by decide +kernel
theorem dL_refused_64 : decode cL_refused 64 = .ok (.goto 124, 3) := by decide +kernel
theorem dL_refused_67 : decode cL_refused 67 = .ok (.iload_n 1, 1) := by decide +kernel
theorem dL_refused_68 : decode cL_refused 68 = .ok (.iconst 5, 1) := by decide +kernel
theorem dL_refused_69 : decode cL_refused 69 = .ok (.if_icmp .ne 13, 3) := by decide +kernel
theorem dL_refused_72 : decode cL_refused 72 = .ok (.aload_n 0, 1) := by decide +kernel
theorem dL_refused_73 : decode cL_refused 73 = .ok (.iload_n 2, 1) := by decide +kernel
theorem dL_refused_74 : decode cL_refused 74 = .ok (.iload_n 3, 1) := by decide +kernel
theorem dL_refused_75 : decode cL_refused 75 = .ok (.iconst 5, 1) := by decide +kernel
theorem dL_refused_76 : decode cL_refused 76 = .ok (.invokevirtual 53, 3) := by decide +kernel
theorem dL_refused_79 : decode cL_refused 79 = .ok (.goto 109, 3) := by decide +kernel
theorem dL_refused_82 : decode cL_refused 82 = .ok (.iload_n 1, 1) := by decide +kernel
theorem dL_refused_83 : decode cL_refused 83 = .ok (.bipush 6, 2) := by decide +kernel
theorem dL_refused_85 : decode cL_refused 85 = .ok (.if_icmp .ne 12, 3) := by decide +kernel
theorem dL_refused_88 : decode cL_refused 88 = .ok (.aload_n 0, 1) := by decide +kernel
theorem dL_refused_89 : decode cL_refused 89 = .ok (.iload_n 2, 1) := by decide +kernel
theorem dL_refused_90 : decode cL_refused 90 = .ok (.iload_n 3, 1) := by decide +kernel
theorem dL_refused_91 : decode cL_refused 91 = .ok (.invokevirtual 56, 3) := by decide +kernel
theorem dL_refused_94 : decode cL_refused 94 = .ok (.goto 94, 3) := by decide +kernel
theorem dL_refused_97 : decode cL_refused 97 = .ok (.iload_n 1, 1) := by decide +kernel
theorem dL_refused_98 : decode cL_refused 98 = .ok (.bipush 7, 2) := by decide +kernel
theorem dL_refused_100 : decode cL_refused 100 = .ok (.if_icmp .ne 12, 3) := by decide +kernel
theorem dL_refused_103 : decode cL_refused 103 = .ok (.aload_n 0, 1) := by decide +kernel
theorem dL_refused_104 : decode cL_refused 104 = .ok (.iload_n 2, 1) := by decide +kernel
theorem dL_refused_105 : decode cL_refused 105 = .ok (.iload_n 3, 1) := by decide +kernel
theorem dL_refused_106 : decode cL_refused 106 = .ok (.invokevirtual 59, 3) := by decide +kernel
theorem dL_refused_109 : decode cL_refused 109 = .ok (.goto 79, 3) := by decide +kernel
theorem dL_refused_112 : decode cL_refused 112 = .ok (.iload_n 1, 1) := by decide +kernel
theorem dL_refused_113 : decode cL_refused 113 = .ok (.bipush 8, 2) := by decide +kernel
theorem dL_refused_115 : decode cL_refused 115 = .ok (.if_icmp .ne 12, 3) := by decide +kernel
theorem dL_refused_118 : decode cL_refused 118 = .ok (.aload_n 0, 1) := by decide +kernel
theorem dL_refused_119 : decode cL_refused 119 = .ok (.iload_n 2, 1) := by decide +kernel
theorem dL_refused_120 : decode cL_refused 120 = .ok (.iload_n 3, 1) := by decide +kernel
theorem dL_refused_121 : decode cL_refused 121 = .ok (.invokevirtual 62, 3) := by decide +kernel
theorem dL_refused_124 : decode cL_refused 124 = .ok (.goto 64, 3) := by decide +kernel
theorem dL_refused_127 : decode cL_refused 127 = .ok (.iload_n 1, 1) := by decide +kernel
theorem dL_refused_128 : decode cL_refused 128 = .ok (.bipush 9, 2) := by decide +kernel
theorem dL_refused_130 : decode cL_refused 130 = .ok (.if_icmp .ne 11, 3) := by decide +kernel
theorem dL_refused_133 : decode cL_refused 133 = .ok (.aload_n 0, 1) := by decide +kernel
theorem dL_refused_134 : decode cL_refused 134 = .ok (.iload_n 2, 1) := by decide +kernel
theorem dL_refused_135 : decode cL_refused 135 = .ok (.invokevirtual 65, 3) := by decide +kernel
theorem dL_refused_138 : decode cL_refused 138 = .ok (.goto 50, 3) := by decide +kernel
theorem dL_refused_141 : decode cL_refused 141 = .ok (.iload_n 1, 1) := by decide +kernel
theorem dL_refused_142 : decode cL_refused 142 = .ok (.bipush 10, 2) := by decide +kernel
theorem dL_refused_144 : decode cL_refused 144 = .ok (.if_icmp .ne 10, 3) := by decide +kernel
theorem dL_refused_147 : decode cL_refused 147 = .ok (.aload_n 0, 1) := by decide +kernel
theorem dL_refused_148 : decode cL_refused 148 = .ok (.invokevirtual 68, 3) := by decide +kernel
theorem dL_refused_151 : decode cL_refused 151 = .ok (.goto 37, 3) := by decide +kernel
theorem dL_refused_154 : decode cL_refused 154 = .ok (.iload_n 1, 1) := by decide +kernel
theorem dL_refused_155 : decode cL_refused 155 = .ok (.bipush 11, 2) := by decide +kernel
theorem dL_refused_157 : decode cL_refused 157 = .ok (.if_icmp .ne 10, 3) := by decide +kernel
theorem dL_refused_160 : decode cL_refused 160 = .ok (.aload_n 0, 1) := by decide +kernel
theorem dL_refused_161 : decode cL_refused 161 = .ok (.invokevirtual 71, 3) := by decide +kernel
theorem dL_refused_164 : decode cL_refused 164 = .ok (.goto 24, 3) := by decide +kernel
theorem dL_refused_167 : decode cL_refused 167 = .ok (.iload_n 1, 1) := by decide +kernel
theorem dL_refused_168 : decode cL_refused 168 = .ok (.bipush 12, 2) := by decide +kernel
theorem dL_refused_170 : decode cL_refused 170 = .ok (.if_icmp .ne 10, 3) := by decide +kernel
theorem dL_refused_173 : decode cL_refused 173 = .ok (.aload_n 0, 1) := by decide +kernel
theorem dL_refused_174 : decode cL_refused 174 = .ok (.invokevirtual 74, 3) := by decide +kernel
theorem dL_refused_177 : decode cL_refused 177 = .ok (.goto 11, 3) := by decide +kernel
theorem dL_refused_180 : decode cL_refused 180 = .ok (.aload_n 0, 1) := by decide +kernel
theorem dL_refused_181 : decode cL_refused 181 = .ok (.iload_n 2, 1) := by decide +kernel
theorem dL_refused_182 : decode cL_refused 182 = .ok (.iconst 0, 1) := by decide +kernel
theorem dL_refused_183 : decode cL_refused 183 = .ok (.iconst 0, 1) := by decide +kernel
theorem dL_refused_184 : decode cL_refused 184 = .ok (.iconst 0, 1) := by decide +kernel
theorem dL_refused_185 : decode cL_refused 185 = .ok (.invokevirtual 77, 3) := by decide +kernel
theorem dL_refused_188 : decode cL_refused 188 = .ok (.iconst 0, 1) := by decide +kernel
theorem dL_refused_189 : decode cL_refused 189 = .ok (.imul, 1) := by decide +kernel
theorem dL_refused_190 : decode cL_refused 190 = .ok (.ireturn, 1) := by decide +kernel
theorem dL_refused_191 : decode cL_refused 191 = .ok (.astore 4, 2) := by decide +kernel
theorem dL_refused_193 : decode cL_refused 193 = .ok (.iconst 1, 1) := by decide +kernel
theorem dL_refused_194 : decode cL_refused 194 = .ok (.ireturn, 1) := by decide +kernel
theorem dL_refused_195 : decode cL_refused 195 = .ok (.astore 4, 2) := by decide +kernel
theorem dL_refused_197 : decode cL_refused 197 = .ok (.iconst 2, 1) := by decide +kernel
theorem dL_refused_198 : decode cL_refused 198 = .ok (.ireturn, 1) := by decide +kernel
theorem dL_refused_199 : decode cL_refused 199 = .ok (.astore 4, 2) := by decide +kernel
theorem dL_refused_201 : decode cL_refused 201 = .ok (.iconst 3, 1) := by decide +kernel
theorem dL_refused_202 : decode cL_refused 202 = .ok (.ireturn, 1) := by decide +kernel
theorem dL_refused_203 : decode cL_refused 203 = .ok (.astore 4, 2) := by decide +kernel
theorem dL_refused_205 : decode cL_refused 205 = .ok (.iconst 4, 1) := by decide +kernel
theorem dL_refused_206 : decode cL_refused 206 = .ok (.ireturn, 1) := by decide +kernel
set_option maxRecDepth 20000 in
theorem ggL_rows_X6_rows : GoodIn wsL_rows wsX6_rows := goodIn_r _ [5, 6, 7, 8, 9, 10, 11, 12, 410, 411, 412, 413, 414, 415, 416, 417, 418] (by decide +kernel) (by decide +kernel)
set_option maxRecDepth 20000 in
theorem gL_rows_X6_rows : GoodIn wsL_rows (wsV RL 89 RX6 yX6_rows wsX6_rows) := goodIn_app (goodIn_of _ (by decide +kernel)) ggL_rows_X6_rows
set_option maxRecDepth 20000 in
theorem ggL_rows_L_many : GoodIn wsL_rows wsL_many := goodIn_r _ [16] (by decide +kernel) (by decide +kernel)
set_option maxRecDepth 20000 in
theorem gL_rows_L_many : GoodIn wsL_rows (va_wsS RL 10 yL_many wsL_many) := goodIn_app (goodIn_of _ (by decide +kernel)) ggL_rows_L_many
set_option maxRecDepth 20000 in
theorem ggL_rows_X6_setOf : GoodIn wsL_rows wsX6_setOf := goodIn_ca (goodIn_r _ [20, 21, 22, 23, 4, 24, 25, 26, 6, 27, 7, 8, 9, 10, 11, 12, 28, 29, 30, 31, 32, 33, 34, 35, 36, 37, 38, 39, 40, 41, 42, 43, 44, 419, 420, 410, 411, 412, 413, 414, 415, 416, 417, 418] (by decide +kernel) (by decide +kernel)) (goodIn_sub (fun _ h => List.mem_cons_of_mem _ (List.mem_append_left _ (List.mem_append_left _ (List.mem_append_left _ (List.mem_append_right _ h))))) (by decide +kernel))
set_option maxRecDepth 20000 in
theorem gL_rows_X6_setOf : GoodIn wsL_rows (wsV RL 92 RX6 yX6_setOf wsX6_setOf) := goodIn_app (goodIn_of _ (by decide +kernel)) ggL_rows_X6_setOf
set_option maxRecDepth 20000 in
theorem ggL_rows_X6_size : GoodIn wsL_rows wsX6_size := goodIn_ca (goodIn_r _ [48, 21, 22, 23, 4, 24, 25, 26, 6, 27, 7, 8, 9, 10, 11, 12, 28, 29, 30, 31, 32, 33, 34, 35, 36, 37, 38, 39, 40, 41, 42, 43, 44, 419, 420, 410, 411, 412, 413, 414, 415, 416, 417, 418] (by decide +kernel) (by decide +kernel)) (goodIn_sub (fun _ h => List.mem_cons_of_mem _ (List.mem_append_left _ (List.mem_append_left _ (List.mem_append_left _ (List.mem_append_right _ h))))) (by decide +kernel))
set_option maxRecDepth 20000 in
theorem gL_rows_X6_size : GoodIn wsL_rows (wsV RL 95 RX6 yX6_size wsX6_size) := goodIn_app (goodIn_of _ (by decide +kernel)) ggL_rows_X6_size
set_option maxRecDepth 20000 in
theorem ggL_rows_L_refused : GoodIn wsL_rows wsL_refused := goodIn_ca (goodIn_ca (goodIn_ca (goodIn_ca (goodIn_r _ [51, 52, 53, 54, 55, 56, 57, 58, 4, 59, 60, 61, 62, 63, 64, 65, 66, 67, 68, 69, 70, 71, 72, 73, 74, 75, 6, 27, 76, 77, 78, 7, 8, 9, 10, 11, 12, 28, 29, 30, 31, 32, 33, 34, 35, 36, 37, 38, 39, 40, 41, 42, 43, 44, 79, 80, 81, 82, 83, 84, 85, 86, 87, 88, 89, 90, 91, 92, 93, 94, 95, 96, 97, 98, 99, 100, 101, 102, 103, 104, 105, 106, 107, 108, 109, 110, 111, 112, 113, 114, 115, 116, 117, 118, 119, 120, 121, 122, 123, 124, 125, 126, 127, 128, 129, 130, 131, 132, 133, 134, 135, 136, 137, 138, 139, 140, 141, 142, 143, 144, 145, 146, 147, 148, 149, 150, 151, 152, 153, 154, 155, 156, 157, 158, 159, 160, 161, 162, 163, 164, 165, 166, 167, 168, 169, 170, 171, 172, 173, 174, 175, 176, 177, 178, 179, 180, 181, 182, 183, 184, 185, 186, 187, 188, 189, 190, 191, 192, 193, 194, 195, 196, 197, 198, 199, 200, 201, 202, 203, 204, 205, 206, 207, 208, 209, 210, 211, 212, 213, 214, 215, 216, 217, 218, 219, 220, 221, 222, 223, 224, 225, 226, 227, 228, 229, 230, 231, 232, 233, 234, 235, 236, 237, 238, 239, 240, 241, 242, 243, 244, 245, 246, 247, 248, 249, 250, 251, 252, 253, 254, 255, 256, 257, 258, 259, 260, 261, 262, 263, 264, 265, 266, 267, 21, 22, 23, 24, 25, 26, 268, 269, 270, 271, 272, 273, 274, 275, 276, 277, 278, 279, 280, 281, 282, 283, 284, 285, 286, 287, 288, 289, 290, 291, 292, 293, 294, 295, 296, 297, 298, 299, 300, 301, 302, 303, 304, 305, 306, 307, 308, 309, 310, 311, 312, 313, 314, 315, 316, 317, 318, 319, 320, 321, 322, 323, 324, 325, 326, 327, 328, 329, 330, 331, 332, 333, 334, 335, 336, 337, 338, 339, 340, 341, 342, 343, 344, 345, 346, 347, 348, 349, 350, 351, 352, 353, 354, 355, 356, 357, 358, 359, 360, 361, 362, 363, 364, 365, 366, 367, 368, 369, 370, 371, 372, 373, 374, 375, 376, 377, 378, 379, 421, 422, 423, 424, 425, 426, 419, 420, 410, 411, 412, 413, 414, 415, 416, 417, 418, 427, 428, 429, 430, 431, 432, 433, 434, 435, 436, 437, 438, 439] (by decide +kernel) (by decide +kernel)) (goodIn_sub (fun _ h => List.mem_cons_of_mem _ (List.mem_append_left _ (List.mem_append_left _ (List.mem_append_right _ h)))) (by decide +kernel))) (goodIn_sub (fun _ h => List.mem_cons_of_mem _ (List.mem_append_left _ (List.mem_append_right _ h))) (by decide +kernel))) (goodIn_sub (fun _ h => List.mem_cons_of_mem _ (List.mem_append_right _ h)) (by decide +kernel))) (goodIn_sub (fun _ h => List.mem_cons_of_mem _ (List.mem_append_left _ (List.mem_append_left _ (List.mem_append_left _ (List.mem_append_right _ h))))) (by decide +kernel))
set_option maxRecDepth 20000 in
theorem gL_rows_L_refused : GoodIn wsL_rows (va_wsS RL 98 yL_refused wsL_refused) := goodIn_app (goodIn_of _ (by decide +kernel)) ggL_rows_L_refused
set_option maxRecDepth 20000 in
theorem ggL_rows_X6_entityAt : GoodIn wsL_rows wsX6_entityAt := goodIn_ca (goodIn_r _ [267, 21, 22, 23, 4, 24, 25, 26, 6, 27, 7, 8, 9, 10, 11, 12, 28, 29, 30, 31, 32, 33, 34, 35, 36, 37, 38, 39, 40, 41, 42, 43, 44, 268, 269, 270, 159, 419, 420, 410, 411, 412, 413, 414, 415, 416, 417, 418, 421, 422, 423, 424, 425, 426] (by decide +kernel) (by decide +kernel)) (goodIn_sub (fun _ h => List.mem_cons_of_mem _ (List.mem_append_left _ (List.mem_append_left _ (List.mem_append_left _ (List.mem_append_right _ h))))) (by decide +kernel))
set_option maxRecDepth 20000 in
theorem gL_rows_X6_entityAt : GoodIn wsL_rows (wsV RL 59 RX6 yX6_entityAt wsX6_entityAt) := goodIn_app (goodIn_of _ (by decide +kernel)) ggL_rows_X6_entityAt
set_option maxRecDepth 20000 in
theorem ggL_rows_L_at : GoodIn wsL_rows wsL_at := goodIn_r _ [382] (by decide +kernel) (by decide +kernel)
set_option maxRecDepth 20000 in
theorem gL_rows_L_at : GoodIn wsL_rows (va_wsS RL 16 yL_at wsL_at) := goodIn_app (goodIn_of _ (by decide +kernel)) ggL_rows_L_at
set_option maxRecDepth 20000 in
theorem ggL_rows_L_handle : GoodIn wsL_rows wsL_handle := goodIn_r _ [385] (by decide +kernel) (by decide +kernel)
set_option maxRecDepth 20000 in
theorem gL_rows_L_handle : GoodIn wsL_rows (va_wsS RL 102 yL_handle wsL_handle) := goodIn_app (goodIn_of _ (by decide +kernel)) ggL_rows_L_handle
set_option maxRecDepth 20000 in
theorem ggL_rows_L_answers : GoodIn wsL_rows wsL_answers := goodIn_r _ [388] (by decide +kernel) (by decide +kernel)
set_option maxRecDepth 20000 in
theorem gL_rows_L_answers : GoodIn wsL_rows (va_wsS RL 105 yL_answers wsL_answers) := goodIn_app (goodIn_of _ (by decide +kernel)) ggL_rows_L_answers
set_option maxRecDepth 20000 in
theorem ggL_rows_X6_answer : GoodIn wsL_rows wsX6_answer := goodIn_ca (goodIn_r _ [274, 275, 276, 277, 4, 278, 25, 26, 279, 280, 7, 8, 9, 10, 11, 12, 28, 29, 30, 31, 32, 33, 34, 35, 36, 37, 38, 39, 40, 41, 42, 43, 44, 281, 282, 283, 284, 181, 86, 6, 27, 159, 182, 90, 91, 92, 93, 94, 95, 96, 97, 98, 99, 100, 101, 102, 83, 84, 285, 286, 287, 288, 289, 290, 291, 292, 103, 104, 105, 106, 107, 108, 109, 110, 111, 112, 113, 114, 115, 116, 117, 118, 119, 120, 121, 122, 123, 124, 125, 126, 127, 128, 129, 130, 131, 132, 133, 134, 135, 136, 137, 138, 139, 140, 141, 142, 143, 144, 145, 146, 147, 148, 149, 150, 151, 152, 153, 154, 268, 269, 270, 410, 411, 412, 413, 414, 415, 416, 417, 418, 419, 420, 427, 428, 429, 421, 422, 423, 424, 425, 426] (by decide +kernel) (by decide +kernel)) (goodIn_sub (fun _ h => List.mem_cons_of_mem _ (List.mem_append_left _ (List.mem_append_left _ (List.mem_append_left _ (List.mem_append_right _ h))))) (by decide +kernel))
set_option maxRecDepth 20000 in
theorem gL_rows_X6_answer : GoodIn wsL_rows (wsV RL 62 RX6 yX6_answer wsX6_answer) := goodIn_app (goodIn_of _ (by decide +kernel)) ggL_rows_X6_answer
set_option maxRecDepth 20000 in
theorem ggL_rows_X6_answers : GoodIn wsL_rows wsX6_answers := goodIn_ca (goodIn_r _ [392, 6, 27, 275, 276, 277, 4, 278, 25, 26, 279, 280, 7, 8, 9, 10, 11, 12, 28, 29, 30, 31, 32, 33, 34, 35, 36, 37, 38, 39, 40, 41, 42, 43, 44, 285, 286, 287, 288, 289, 290, 291, 292, 410, 411, 412, 413, 414, 415, 419, 420, 416, 417, 418, 427, 428, 429] (by decide +kernel) (by decide +kernel)) (goodIn_sub (fun _ h => List.mem_cons_of_mem _ (List.mem_append_left _ (List.mem_append_left _ (List.mem_append_left _ (List.mem_append_right _ h))))) (by decide +kernel))
set_option maxRecDepth 20000 in
theorem gL_rows_X6_answers : GoodIn wsL_rows (wsV RL 109 RX6 yX6_answers wsX6_answers) := goodIn_app (goodIn_of _ (by decide +kernel)) ggL_rows_X6_answers
set_option maxRecDepth 20000 in
theorem ggL_rows_X6_answersOneByOne : GoodIn wsL_rows wsX6_answersOneByOne := goodIn_ca (goodIn_r _ [396, 71, 275, 276, 277, 4, 278, 25, 26, 279, 280, 7, 8, 9, 10, 11, 12, 28, 29, 30, 31, 32, 33, 34, 35, 36, 37, 38, 39, 40, 41, 42, 43, 44, 285, 286, 287, 288, 289, 290, 291, 292, 410, 411, 412, 413, 414, 415, 421, 422, 423, 424, 425, 426, 416, 417, 418, 427, 428, 429] (by decide +kernel) (by decide +kernel)) (goodIn_sub (fun _ h => List.mem_cons_of_mem _ (List.mem_append_left _ (List.mem_append_left _ (List.mem_append_left _ (List.mem_append_right _ h))))) (by decide +kernel))
set_option maxRecDepth 20000 in
theorem gL_rows_X6_answersOneByOne : GoodIn wsL_rows (wsV RL 111 RX6 yX6_answersOneByOne wsX6_answersOneByOne) := goodIn_app (goodIn_of _ (by decide +kernel)) ggL_rows_X6_answersOneByOne
set_option maxRecDepth 20000 in
theorem ggL_rows_X6_answeringRows : GoodIn wsL_rows wsX6_answeringRows := goodIn_ca (goodIn_r _ [400, 6, 27, 275, 276, 277, 4, 278, 25, 26, 279, 280, 7, 8, 9, 10, 11, 12, 28, 29, 30, 31, 32, 33, 34, 35, 36, 37, 38, 39, 40, 41, 42, 43, 44, 285, 286, 287, 288, 289, 290, 291, 292, 410, 411, 412, 413, 414, 415, 419, 420, 416, 417, 418, 427, 428, 429] (by decide +kernel) (by decide +kernel)) (goodIn_sub (fun _ h => List.mem_cons_of_mem _ (List.mem_append_left _ (List.mem_append_left _ (List.mem_append_left _ (List.mem_append_right _ h))))) (by decide +kernel))
set_option maxRecDepth 20000 in
theorem gL_rows_X6_answeringRows : GoodIn wsL_rows (wsV RL 114 RX6 yX6_answeringRows wsX6_answeringRows) := goodIn_app (goodIn_of _ (by decide +kernel)) ggL_rows_X6_answeringRows
set_option maxRecDepth 20000 in
theorem ggL_rows_X6_changed : GoodIn wsL_rows wsX6_changed := goodIn_ca (goodIn_r _ [404, 159, 275, 276, 277, 4, 278, 25, 26, 279, 280, 7, 8, 9, 10, 11, 12, 28, 29, 30, 31, 32, 33, 34, 35, 36, 37, 38, 39, 40, 41, 42, 43, 44, 281, 282, 283, 284, 181, 86, 6, 27, 182, 90, 91, 92, 93, 94, 95, 96, 97, 98, 99, 100, 101, 102, 83, 84, 285, 286, 287, 288, 289, 290, 291, 292, 103, 104, 105, 106, 107, 108, 109, 110, 111, 112, 113, 114, 115, 116, 117, 118, 119, 120, 121, 122, 123, 124, 125, 126, 127, 128, 129, 130, 131, 132, 133, 134, 135, 136, 137, 138, 139, 140, 141, 142, 143, 144, 145, 146, 147, 148, 149, 150, 151, 152, 153, 154, 405, 406, 407, 173, 408, 247, 409, 235, 236, 237, 216, 410, 411, 412, 413, 414, 415, 416, 417, 418, 419, 420, 427, 428, 429, 421, 422, 423, 424, 425, 426] (by decide +kernel) (by decide +kernel)) (goodIn_sub (fun _ h => List.mem_cons_of_mem _ (List.mem_append_left _ (List.mem_append_left _ (List.mem_append_left _ (List.mem_append_right _ h))))) (by decide +kernel))
set_option maxRecDepth 20000 in
theorem gL_rows_X6_changed : GoodIn wsL_rows (wsV RL 117 RX6 yX6_changed wsX6_changed) := goodIn_app (goodIn_of _ (by decide +kernel)) ggL_rows_X6_changed
theorem dL_rows_0 : decode cL_rows 0 = .ok (.aload_n 0, 1) := by decide +kernel
theorem dL_rows_1 : decode cL_rows 1 = .ok (.invokevirtual 89, 3) := by decide +kernel
theorem dL_rows_4 : decode cL_rows 4 = .ok (.aload_n 3, 1) := by decide +kernel
theorem dL_rows_5 : decode cL_rows 5 = .ok (.iconst 0, 1) := by decide +kernel
theorem dL_rows_6 : decode cL_rows 6 = .ok (.iaload, 1) := by decide +kernel
theorem dL_rows_7 : decode cL_rows 7 = .ok (.if_icmp .eq 5, 3) := by decide +kernel
theorem dL_rows_10 : decode cL_rows 10 = .ok (.iconst 0, 1) := by decide +kernel
theorem dL_rows_11 : decode cL_rows 11 = .ok (.ireturn, 1) := by decide +kernel
theorem dL_rows_12 : decode cL_rows 12 = .ok (.iconst 0, 1) := by decide +kernel
theorem dL_rows_13 : decode cL_rows 13 = .ok (.istore 6, 2) := by decide +kernel
theorem dL_rows_15 : decode cL_rows 15 = .ok (.iload 6, 2) := by decide +kernel
theorem dL_rows_17 : decode cL_rows 17 = .ok (.aload_n 3, 1) := by decide +kernel
theorem dL_rows_18 : decode cL_rows 18 = .ok (.iconst 0, 1) := by decide +kernel
theorem dL_rows_19 : decode cL_rows 19 = .ok (.iaload, 1) := by decide +kernel
theorem dL_rows_20 : decode cL_rows 20 = .ok (.if_icmp .ge 98, 3) := by decide +kernel
theorem dL_rows_23 : decode cL_rows 23 = .ok (.iload 6, 2) := by decide +kernel
theorem dL_rows_25 : decode cL_rows 25 = .ok (.aload_n 1, 1) := by decide +kernel
theorem dL_rows_26 : decode cL_rows 26 = .ok (.invokestatic 10, 3) := by decide +kernel
theorem dL_rows_29 : decode cL_rows 29 = .ok (.istore 7, 2) := by decide +kernel
theorem dL_rows_31 : decode cL_rows 31 = .ok (.aload_n 0, 1) := by decide +kernel
theorem dL_rows_32 : decode cL_rows 32 = .ok (.iload 6, 2) := by decide +kernel
theorem dL_rows_34 : decode cL_rows 34 = .ok (.invokevirtual 92, 3) := by decide +kernel
theorem dL_rows_37 : decode cL_rows 37 = .ok (.aload_n 2, 1) := by decide +kernel
theorem dL_rows_38 : decode cL_rows 38 = .ok (.iload 6, 2) := by decide +kernel
theorem dL_rows_40 : decode cL_rows 40 = .ok (.iaload, 1) := by decide +kernel
theorem dL_rows_41 : decode cL_rows 41 = .ok (.if_icmp .ne 28, 3) := by decide +kernel
theorem dL_rows_44 : decode cL_rows 44 = .ok (.aload_n 0, 1) := by decide +kernel
theorem dL_rows_45 : decode cL_rows 45 = .ok (.iload 6, 2) := by decide +kernel
theorem dL_rows_47 : decode cL_rows 47 = .ok (.invokevirtual 95, 3) := by decide +kernel
