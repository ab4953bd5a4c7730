theorem dX0_init_0 : decode cX0_init 0 = .ok (.aload_n 0, 1) := by decide +kernel
theorem dX0_init_1 : decode cX0_init 1 = .ok (.invokespecial 1, 3) := by decide +kernel
theorem dX0_init_4 : decode cX0_init 4 = .ok (.aload_n 0, 1) := by decide +kernel
theorem dX0_init_5 : decode cX0_init 5 = .ok (.iload_n 1, 1) := by decide +kernel
theorem dX0_init_6 : decode cX0_init 6 = .ok (.putfield 7, 3) := by decide +kernel
theorem dX0_init_9 : decode cX0_init 9 = .ok (.aload_n 0, 1) := by decide +kernel
theorem dX0_init_10 : decode cX0_init 10 = .ok (.iload_n 2, 1) := by decide +kernel
theorem dX0_init_11 : decode cX0_init 11 = .ok (.putfield 13, 3) := by decide +kernel
theorem dX0_init_14 : decode cX0_init 14 = .ok (.aload_n 0, 1) := by decide +kernel
theorem dX0_init_15 : decode cX0_init 15 = .ok (.iload_n 3, 1) := by decide +kernel
theorem dX0_init_16 : decode cX0_init 16 = .ok (.putfield 16, 3) := by decide +kernel
theorem dX0_init_19 : decode cX0_init 19 = .ok (.aload_n 0, 1) := by decide +kernel
theorem dX0_init_20 : decode cX0_init 20 = .ok (.iload 4, 2) := by decide +kernel
theorem dX0_init_22 : decode cX0_init 22 = .ok (.putfield 19, 3) := by decide +kernel
theorem dX0_init_25 : decode cX0_init 25 = .ok (.return_, 1) := by decide +kernel
theorem dX1_init_0 : decode cX1_init 0 = .ok (.aload_n 0, 1) := by decide +kernel
theorem dX1_init_1 : decode cX1_init 1 = .ok (.invokespecial 3, 3) := by decide +kernel
theorem dX1_init_4 : decode cX1_init 4 = .ok (.aload_n 0, 1) := by decide +kernel
theorem dX1_init_5 : decode cX1_init 5 = .ok (.bipush 6, 2) := by decide +kernel
theorem dX1_init_7 : decode cX1_init 7 = .ok (.newarray .int, 2) := by decide +kernel
theorem dX1_init_9 : decode cX1_init 9 = .ok (.putfield 9, 3) := by decide +kernel
theorem dX1_init_12 : decode cX1_init 12 = .ok (.aload_n 0, 1) := by decide +kernel
theorem dX1_init_13 : decode cX1_init 13 = .ok (.bipush 6, 2) := by decide +kernel
theorem dX1_init_15 : decode cX1_init 15 = .ok (.newarray .int, 2) := by decide +kernel
theorem dX1_init_17 : decode cX1_init 17 = .ok (.putfield 15, 3) := by decide +kernel
theorem dX1_init_20 : decode cX1_init 20 = .ok (.aload_n 0, 1) := by decide +kernel
theorem dX1_init_21 : decode cX1_init 21 = .ok (.iconst 0, 1) := by decide +kernel
theorem dX1_init_22 : decode cX1_init 22 = .ok (.putfield 18, 3) := by decide +kernel
theorem dX1_init_25 : decode cX1_init 25 = .ok (.aload_n 0, 1) := by decide +kernel
theorem dX1_init_26 : decode cX1_init 26 = .ok (.aconst_null, 1) := by decide +kernel
theorem dX1_init_27 : decode cX1_init 27 = .ok (.putfield 22, 3) := by decide +kernel
theorem dX1_init_30 : decode cX1_init 30 = .ok (.aload_n 0, 1) := by decide +kernel
theorem dX1_init_31 : decode cX1_init 31 = .ok (.iconst 0, 1) := by decide +kernel
theorem dX1_init_32 : decode cX1_init 32 = .ok (.putfield 26, 3) := by decide +kernel
theorem dX1_init_35 : decode cX1_init 35 = .ok (.aload_n 0, 1) := by decide +kernel
theorem dX1_init_36 : decode cX1_init 36 = .ok (.iload_n 1, 1) := by decide +kernel
theorem dX1_init_37 : decode cX1_init 37 = .ok (.putfield 30, 3) := by decide +kernel
theorem dX1_init_40 : decode cX1_init 40 = .ok (.return_, 1) := by decide +kernel
theorem dX1_isOf_0 : decode cX1_isOf 0 = .ok (.aload_n 0, 1) := by decide +kernel
theorem dX1_isOf_1 : decode cX1_isOf 1 = .ok (.getfield 18, 3) := by decide +kernel
theorem dX1_isOf_4 : decode cX1_isOf 4 = .ok (.ifCond .eq 15, 3) := by decide +kernel
theorem dX1_isOf_7 : decode cX1_isOf 7 = .ok (.aload_n 0, 1) := by decide +kernel
theorem dX1_isOf_8 : decode cX1_isOf 8 = .ok (.getfield 30, 3) := by decide +kernel
theorem dX1_isOf_11 : decode cX1_isOf 11 = .ok (.iload_n 1, 1) := by decide +kernel
theorem dX1_isOf_12 : decode cX1_isOf 12 = .ok (.if_icmp .ne 7, 3) := by decide +kernel
theorem dX1_isOf_15 : decode cX1_isOf 15 = .ok (.iconst 1, 1) := by decide +kernel
theorem dX1_isOf_16 : decode cX1_isOf 16 = .ok (.goto 4, 3) := by decide +kernel
theorem dX1_isOf_19 : decode cX1_isOf 19 = .ok (.iconst 0, 1) := by decide +kernel
theorem dX1_isOf_20 : decode cX1_isOf 20 = .ok (.ireturn, 1) := by decide +kernel
theorem dX1_has_0 : decode cX1_has 0 = .ok (.aload_n 0, 1) := by decide +kernel
theorem dX1_has_1 : decode cX1_has 1 = .ok (.getfield 26, 3) := by decide +kernel
theorem dX1_has_4 : decode cX1_has 4 = .ok (.iconst 1, 1) := by decide +kernel
theorem dX1_has_5 : decode cX1_has 5 = .ok (.iload_n 1, 1) := by decide +kernel
theorem dX1_has_6 : decode cX1_has 6 = .ok (.ishl, 1) := by decide +kernel
theorem dX1_has_7 : decode cX1_has 7 = .ok (.iand, 1) := by decide +kernel
theorem dX1_has_8 : decode cX1_has 8 = .ok (.ifCond .eq 7, 3) := by decide +kernel
theorem dX1_has_11 : decode cX1_has 11 = .ok (.iconst 1, 1) := by decide +kernel
theorem dX1_has_12 : decode cX1_has 12 = .ok (.goto 4, 3) := by decide +kernel
theorem dX1_has_15 : decode cX1_has 15 = .ok (.iconst 0, 1) := by decide +kernel
theorem dX1_has_16 : decode cX1_has 16 = .ok (.ireturn, 1) := by decide +kernel
theorem dX1_put_0 : decode cX1_put 0 = .ok (.aload_n 0, 1) := by decide +kernel
theorem dX1_put_1 : decode cX1_put 1 = .ok (.getfield 9, 3) := by decide +kernel
theorem dX1_put_4 : decode cX1_put 4 = .ok (.iload_n 1, 1) := by decide +kernel
theorem dX1_put_5 : decode cX1_put 5 = .ok (.iload_n 2, 1) := by decide +kernel
theorem dX1_put_6 : decode cX1_put 6 = .ok (.iastore, 1) := by decide +kernel
theorem dX1_put_7 : decode cX1_put 7 = .ok (.aload_n 0, 1) := by decide +kernel
theorem dX1_put_8 : decode cX1_put 8 = .ok (.getfield 15, 3) := by decide +kernel
theorem dX1_put_11 : decode cX1_put 11 = .ok (.iload_n 1, 1) := by decide +kernel
theorem dX1_put_12 : decode cX1_put 12 = .ok (.iload_n 3, 1) := by decide +kernel
theorem dX1_put_13 : decode cX1_put 13 = .ok (.iastore, 1) := by decide +kernel
theorem dX1_put_14 : decode cX1_put 14 = .ok (.return_, 1) := by decide +kernel
set_option maxRecDepth 20000 in
theorem ggX1_isMarkedAfter_X1_has : GoodIn wsX1_isMarkedAfter wsX1_has := goodIn_r _ [6, 7, 8, 9, 10, 11, 12, 13] (by decide +kernel) (by decide +kernel)
set_option maxRecDepth 20000 in
theorem gX1_isMarkedAfter_X1_has : GoodIn wsX1_isMarkedAfter (wsV RX1 33 RX1 yX1_has wsX1_has) := goodIn_app (goodIn_of _ (by decide +kernel)) ggX1_isMarkedAfter_X1_has
theorem dX1_isMarkedAfter_0 : decode cX1_isMarkedAfter 0 = .ok (.iconst 0, 1) := by decide +kernel
theorem dX1_isMarkedAfter_1 : decode cX1_isMarkedAfter 1 = .ok (.istore_n 2, 1) := by decide +kernel
theorem dX1_isMarkedAfter_2 : decode cX1_isMarkedAfter 2 = .ok (.iload_n 2, 1) := by decide +kernel
theorem dX1_isMarkedAfter_3 : decode cX1_isMarkedAfter 3 = .ok (.bipush 6, 2) := by decide +kernel
theorem dX1_isMarkedAfter_5 : decode cX1_isMarkedAfter 5 = .ok (.if_icmp .ge 29, 3) := by decide +kernel
theorem dX1_isMarkedAfter_8 : decode cX1_isMarkedAfter 8 = .ok (.aload_n 0, 1) := by decide +kernel
theorem dX1_isMarkedAfter_9 : decode cX1_isMarkedAfter 9 = .ok (.iload_n 2, 1) := by decide +kernel
theorem dX1_isMarkedAfter_10 : decode cX1_isMarkedAfter 10 = .ok (.invokevirtual 33, 3) := by decide +kernel
theorem dX1_isMarkedAfter_13 : decode cX1_isMarkedAfter 13 = .ok (.ifCond .eq 15, 3) := by decide +kernel
theorem dX1_isMarkedAfter_16 : decode cX1_isMarkedAfter 16 = .ok (.aload_n 0, 1) := by decide +kernel
theorem dX1_isMarkedAfter_17 : decode cX1_isMarkedAfter 17 = .ok (.getfield 15, 3) := by decide +kernel
theorem dX1_isMarkedAfter_20 : decode cX1_isMarkedAfter 20 = .ok (.iload_n 2, 1) := by decide +kernel
theorem dX1_isMarkedAfter_21 : decode cX1_isMarkedAfter 21 = .ok (.iaload, 1) := by decide +kernel
theorem dX1_isMarkedAfter_22 : decode cX1_isMarkedAfter 22 = .ok (.iload_n 1, 1) := by decide +kernel
theorem dX1_isMarkedAfter_23 : decode cX1_isMarkedAfter 23 = .ok (.if_icmp .le 5, 3) := by decide +kernel
theorem dX1_isMarkedAfter_26 : decode cX1_isMarkedAfter 26 = .ok (.iconst 1, 1) := by decide +kernel
theorem dX1_isMarkedAfter_27 : decode cX1_isMarkedAfter 27 = .ok (.ireturn, 1) := by decide +kernel
theorem dX1_isMarkedAfter_28 : decode cX1_isMarkedAfter 28 = .ok (.iinc 2 1, 3) := by decide +kernel
theorem dX1_isMarkedAfter_31 : decode cX1_isMarkedAfter 31 = .ok (.goto (-29), 3) := by decide +kernel
theorem dX1_isMarkedAfter_34 : decode cX1_isMarkedAfter 34 = .ok (.iconst 0, 1) := by decide +kernel
theorem dX1_isMarkedAfter_35 : decode cX1_isMarkedAfter 35 = .ok (.ireturn, 1) := by decide +kernel
theorem dX1_freeSlot_0 : decode cX1_freeSlot 0 = .ok (.aload_n 0, 1) := by decide +kernel
theorem dX1_freeSlot_1 : decode cX1_freeSlot 1 = .ok (.iconst 0, 1) := by decide +kernel
theorem dX1_freeSlot_2 : decode cX1_freeSlot 2 = .ok (.putfield 18, 3) := by decide +kernel
theorem dX1_freeSlot_5 : decode cX1_freeSlot 5 = .ok (.aload_n 0, 1) := by decide +kernel
theorem dX1_freeSlot_6 : decode cX1_freeSlot 6 = .ok (.dup, 1) := by decide +kernel
theorem dX1_freeSlot_7 : decode cX1_freeSlot 7 = .ok (.getfield 30, 3) := by decide +kernel
theorem dX1_freeSlot_10 : decode cX1_freeSlot 10 = .ok (.bipush 32, 2) := by decide +kernel
theorem dX1_freeSlot_12 : decode cX1_freeSlot 12 = .ok (.iadd, 1) := by decide +kernel
theorem dX1_freeSlot_13 : decode cX1_freeSlot 13 = .ok (.putfield 30, 3) := by decide +kernel
theorem dX1_freeSlot_16 : decode cX1_freeSlot 16 = .ok (.aload_n 0, 1) := by decide +kernel
theorem dX1_freeSlot_17 : decode cX1_freeSlot 17 = .ok (.aconst_null, 1) := by decide +kernel
theorem dX1_freeSlot_18 : decode cX1_freeSlot 18 = .ok (.putfield 22, 3) := by decide +kernel
theorem dX1_freeSlot_21 : decode cX1_freeSlot 21 = .ok (.aload_n 0, 1) := by decide +kernel
theorem dX1_freeSlot_22 : decode cX1_freeSlot 22 = .ok (.iconst 0, 1) := by decide +kernel
theorem dX1_freeSlot_23 : decode cX1_freeSlot 23 = .ok (.putfield 26, 3) := by decide +kernel
theorem dX1_freeSlot_26 : decode cX1_freeSlot 26 = .ok (.return_, 1) := by decide +kernel
theorem dX2_init_0 : decode cX2_init 0 = .ok (.aload_n 0, 1) := by decide +kernel
theorem dX2_init_1 : decode cX2_init 1 = .ok (.invokespecial 3, 3) := by decide +kernel
theorem dX2_init_4 : decode cX2_init 4 = .ok (.aload_n 0, 1) := by decide +kernel
theorem dX2_init_5 : decode cX2_init 5 = .ok (.iload_n 1, 1) := by decide +kernel
theorem dX2_init_6 : decode cX2_init 6 = .ok (.putfield 9, 3) := by decide +kernel
theorem dX2_init_9 : decode cX2_init 9 = .ok (.aload_n 0, 1) := by decide +kernel
theorem dX2_init_10 : decode cX2_init 10 = .ok (.iload_n 2, 1) := by decide +kernel
theorem dX2_init_11 : decode cX2_init 11 = .ok (.putfield 15, 3) := by decide +kernel
theorem dX2_init_14 : decode cX2_init 14 = .ok (.aload_n 0, 1) := by decide +kernel
theorem dX2_init_15 : decode cX2_init 15 = .ok (.iload_n 3, 1) := by decide +kernel
theorem dX2_init_16 : decode cX2_init 16 = .ok (.putfield 18, 3) := by decide +kernel
theorem dX2_init_19 : decode cX2_init 19 = .ok (.return_, 1) := by decide +kernel
theorem dX2_isAnsweredBy_0 : decode cX2_isAnsweredBy 0 = .ok (.iload_n 1, 1) := by decide +kernel
theorem dX2_isAnsweredBy_1 : decode cX2_isAnsweredBy 1 = .ok (.aload_n 0, 1) := by decide +kernel
theorem dX2_isAnsweredBy_2 : decode cX2_isAnsweredBy 2 = .ok (.getfield 9, 3) := by decide +kernel
theorem dX2_isAnsweredBy_5 : decode cX2_isAnsweredBy 5 = .ok (.iand, 1) := by decide +kernel
theorem dX2_isAnsweredBy_6 : decode cX2_isAnsweredBy 6 = .ok (.aload_n 0, 1) := by decide +kernel
theorem dX2_isAnsweredBy_7 : decode cX2_isAnsweredBy 7 = .ok (.getfield 9, 3) := by decide +kernel
theorem dX2_isAnsweredBy_10 : decode cX2_isAnsweredBy 10 = .ok (.if_icmp .ne 32, 3) := by decide +kernel
theorem dX2_isAnsweredBy_13 : decode cX2_isAnsweredBy 13 = .ok (.iload_n 1, 1) := by decide +kernel
theorem dX2_isAnsweredBy_14 : decode cX2_isAnsweredBy 14 = .ok (.aload_n 0, 1) := by decide +kernel
theorem dX2_isAnsweredBy_15 : decode cX2_isAnsweredBy 15 = .ok (.getfield 15, 3) := by decide +kernel
theorem dX2_isAnsweredBy_18 : decode cX2_isAnsweredBy 18 = .ok (.iand, 1) := by decide +kernel
theorem dX2_isAnsweredBy_19 : decode cX2_isAnsweredBy 19 = .ok (.ifCond .ne 23, 3) := by decide +kernel
theorem dX2_isAnsweredBy_22 : decode cX2_isAnsweredBy 22 = .ok (.aload_n 0, 1) := by decide +kernel
theorem dX2_isAnsweredBy_23 : decode cX2_isAnsweredBy 23 = .ok (.getfield 18, 3) := by decide +kernel
theorem dX2_isAnsweredBy_26 : decode cX2_isAnsweredBy 26 = .ok (.ifCond .eq 12, 3) := by decide +kernel
theorem dX2_isAnsweredBy_29 : decode cX2_isAnsweredBy 29 = .ok (.iload_n 1, 1) := by decide +kernel
theorem dX2_isAnsweredBy_30 : decode cX2_isAnsweredBy 30 = .ok (.aload_n 0, 1) := by decide +kernel
theorem dX2_isAnsweredBy_31 : decode cX2_isAnsweredBy 31 = .ok (.getfield 18, 3) := by decide +kernel
theorem dX2_isAnsweredBy_34 : decode cX2_isAnsweredBy 34 = .ok (.iand, 1) := by decide +kernel
theorem dX2_isAnsweredBy_35 : decode cX2_isAnsweredBy 35 = .ok (.ifCond .eq 7, 3) := by decide +kernel
theorem dX2_isAnsweredBy_38 : decode cX2_isAnsweredBy 38 = .ok (.iconst 1, 1) := by decide +kernel
theorem dX2_isAnsweredBy_39 : decode cX2_isAnsweredBy 39 = .ok (.goto 4, 3) := by decide +kernel
theorem dX2_isAnsweredBy_42 : decode cX2_isAnsweredBy 42 = .ok (.iconst 0, 1) := by decide +kernel
theorem dX2_isAnsweredBy_43 : decode cX2_isAnsweredBy 43 = .ok (.ireturn, 1) := by decide +kernel
set_option maxRecDepth 20000 in
theorem ggX3_init_Jx4a65c_init_da8c8 : GoodIn wsX3_init wsJx4a65c_init_da8c8 := goodIn_r _ [11, 12, 13, 14, 15, 16, 17, 18, 19, 20, 21, 22, 23, 2, 3, 24, 25, 26] (by decide +kernel) (by decide +kernel)
set_option maxRecDepth 20000 in
theorem gX3_init_Jx4a65c_init_da8c8 : GoodIn wsX3_init (wsJx4a65c_init_da8c8) := ggX3_init_Jx4a65c_init_da8c8
theorem dX3_init_0 : decode cX3_init 0 = .ok (.aload_n 0, 1) := by decide +kernel
theorem dX3_init_1 : decode cX3_init 1 = .ok (.invokespecial 1, 3) := by decide +kernel
theorem dX3_init_4 : decode cX3_init 4 = .ok (.aload_n 0, 1) := by decide +kernel
theorem dX3_init_5 : decode cX3_init 5 = .ok (.new 7, 3) := by decide +kernel
theorem dX3_init_8 : decode cX3_init 8 = .ok (.dup, 1) := by decide +kernel
theorem dX3_init_9 : decode cX3_init 9 = .ok (.invokespecial 9, 3) := by decide +kernel
theorem dX3_init_12 : decode cX3_init 12 = .ok (.putfield 10, 3) := by decide +kernel
theorem dX3_init_15 : decode cX3_init 15 = .ok (.aload_n 0, 1) := by decide +kernel
theorem dX3_init_16 : decode cX3_init 16 = .ok (.iload_n 1, 1) := by decide +kernel
theorem dX3_init_17 : decode cX3_init 17 = .ok (.putfield 16, 3) := by decide +kernel
theorem dX3_init_20 : decode cX3_init 20 = .ok (.return_, 1) := by decide +kernel
set_option maxRecDepth 20000 in
theorem ggX3_putOut_Jx4a65c_size_8abf5 : GoodIn wsX3_putOut wsJx4a65c_size_8abf5 := goodIn_r _ [7, 8, 46, 47, 48] (by decide +kernel) (by decide +kernel)
set_option maxRecDepth 20000 in
theorem gX3_putOut_Jx4a65c_size_8abf5 : GoodIn wsX3_putOut (wsV RX3 20 RJx4a65c yJx4a65c_size_8abf5 wsJx4a65c_size_8abf5) := goodIn_app (goodIn_of _ (by decide +kernel)) ggX3_putOut_Jx4a65c_size_8abf5
set_option maxRecDepth 20000 in
theorem ggX3_putOut_Jx4a65c_get_915e3 : GoodIn wsX3_putOut wsJx4a65c_get_915e3 := goodIn_r _ [12, 8, 13, 14, 15, 16, 17, 18, 19, 20, 21, 22, 23, 6, 24, 25, 46, 47, 48] (by decide +kernel) (by decide +kernel)
set_option maxRecDepth 20000 in
theorem gX3_putOut_Jx4a65c_get_915e3 : GoodIn wsX3_putOut (wsV RX3 24 RJx4a65c yJx4a65c_get_915e3 wsJx4a65c_get_915e3) := goodIn_app (goodIn_of _ (by decide +kernel)) ggX3_putOut_Jx4a65c_get_915e3
set_option maxRecDepth 20000 in
theorem ggX3_putOut_Jx4a65c_set_bcc79 : GoodIn wsX3_putOut wsJx4a65c_set_bcc79 := goodIn_r _ [29, 8, 25, 13, 14, 15, 16, 17, 18, 19, 20, 21, 22, 23, 6, 24, 46, 47, 48] (by decide +kernel) (by decide +kernel)
set_option maxRecDepth 20000 in
theorem gX3_putOut_Jx4a65c_set_bcc79 : GoodIn wsX3_putOut (wsV RX3 30 RJx4a65c yJx4a65c_set_bcc79 wsJx4a65c_set_bcc79) := goodIn_app (goodIn_of _ (by decide +kernel)) ggX3_putOut_Jx4a65c_set_bcc79
set_option maxRecDepth 20000 in
theorem ggX3_putOut_Jx4a65c_remove_915e3 : GoodIn wsX3_putOut wsJx4a65c_remove_915e3 := goodIn_r _ [33, 8, 25, 13, 14, 15, 16, 17, 18, 19, 20, 34, 35, 36, 6, 37, 38, 39, 40, 41, 42, 43, 46, 47, 48] (by decide +kernel) (by decide +kernel)
set_option maxRecDepth 20000 in
theorem gX3_putOut_Jx4a65c_remove_915e3 : GoodIn wsX3_putOut (wsV RX3 34 RJx4a65c yJx4a65c_remove_915e3 wsJx4a65c_remove_915e3) := goodIn_app (goodIn_of _ (by decide +kernel)) ggX3_putOut_Jx4a65c_remove_915e3
theorem dX3_putOut_0 : decode cX3_putOut 0 = .ok (.aload_n 0, 1) := by decide +kernel
theorem dX3_putOut_1 : decode cX3_putOut 1 = .ok (.getfield 10, 3) := by decide +kernel
theorem dX3_putOut_4 : decode cX3_putOut 4 = .ok (.invokevirtual 20, 3) := by decide +kernel
theorem dX3_putOut_7 : decode cX3_putOut 7 = .ok (.iconst 1, 1) := by decide +kernel
theorem dX3_putOut_8 : decode cX3_putOut 8 = .ok (.isub, 1) := by decide +kernel
theorem dX3_putOut_9 : decode cX3_putOut 9 = .ok (.istore_n 2, 1) := by decide +kernel
theorem dX3_putOut_10 : decode cX3_putOut 10 = .ok (.iconst 0, 1) := by decide +kernel
theorem dX3_putOut_11 : decode cX3_putOut 11 = .ok (.istore_n 3, 1) := by decide +kernel
theorem dX3_putOut_12 : decode cX3_putOut 12 = .ok (.iload_n 3, 1) := by decide +kernel
theorem dX3_putOut_13 : decode cX3_putOut 13 = .ok (.iload_n 2, 1) := by decide +kernel
theorem dX3_putOut_14 : decode cX3_putOut 14 = .ok (.if_icmp .gt 51, 3) := by decide +kernel
theorem dX3_putOut_17 : decode cX3_putOut 17 = .ok (.aload_n 0, 1) := by decide +kernel
theorem dX3_putOut_18 : decode cX3_putOut 18 = .ok (.getfield 10, 3) := by decide +kernel
theorem dX3_putOut_21 : decode cX3_putOut 21 = .ok (.iload_n 3, 1) := by decide +kernel
theorem dX3_putOut_22 : decode cX3_putOut 22 = .ok (.invokevirtual 24, 3) := by decide +kernel
theorem dX3_putOut_25 : decode cX3_putOut 25 = .ok (.aload_n 1, 1) := by decide +kernel
theorem dX3_putOut_26 : decode cX3_putOut 26 = .ok (.if_acmp .ne 33, 3) := by decide +kernel
theorem dX3_putOut_29 : decode cX3_putOut 29 = .ok (.aload_n 0, 1) := by decide +kernel
theorem dX3_putOut_30 : decode cX3_putOut 30 = .ok (.getfield 10, 3) := by decide +kernel
theorem dX3_putOut_33 : decode cX3_putOut 33 = .ok (.iload_n 3, 1) := by decide +kernel
theorem dX3_putOut_34 : decode cX3_putOut 34 = .ok (.aload_n 0, 1) := by decide +kernel
theorem dX3_putOut_35 : decode cX3_putOut 35 = .ok (.getfield 10, 3) := by decide +kernel
theorem dX3_putOut_38 : decode cX3_putOut 38 = .ok (.iload_n 2, 1) := by decide +kernel
theorem dX3_putOut_39 : decode cX3_putOut 39 = .ok (.invokevirtual 24, 3) := by decide +kernel
theorem dX3_putOut_42 : decode cX3_putOut 42 = .ok (.checkcast 28, 3) := by decide +kernel
theorem dX3_putOut_45 : decode cX3_putOut 45 = .ok (.invokevirtual 30, 3) := by decide +kernel
theorem dX3_putOut_48 : decode cX3_putOut 48 = .ok (.pop, 1) := by decide +kernel
theorem dX3_putOut_49 : decode cX3_putOut 49 = .ok (.aload_n 0, 1) := by decide +kernel
theorem dX3_putOut_50 : decode cX3_putOut 50 = .ok (.getfield 10, 3) := by decide +kernel
theorem dX3_putOut_53 : decode cX3_putOut 53 = .ok (.iload_n 2, 1) := by decide +kernel
theorem dX3_putOut_54 : decode cX3_putOut 54 = .ok (.invokevirtual 34, 3) := by decide +kernel
theorem dX3_putOut_57 : decode cX3_putOut 57 = .ok (.pop, 1) := by decide +kernel
theorem dX3_putOut_58 : decode cX3_putOut 58 = .ok (.return_, 1) := by decide +kernel
theorem dX3_putOut_59 : decode cX3_putOut 59 = .ok (.iinc 3 1, 3) := by decide +kernel
theorem dX3_putOut_62 : decode cX3_putOut 62 = .ok (.goto (-50), 3) := by decide +kernel
theorem dX3_putOut_65 : decode cX3_putOut 65 = .ok (.return_, 1) := by decide +kernel
theorem dX4_init_0 : decode cX4_init 0 = .ok (.aload_n 0, 1) := by decide +kernel
theorem dX4_init_1 : decode cX4_init 1 = .ok (.invokespecial 3, 3) := by decide +kernel
theorem dX4_init_4 : decode cX4_init 4 = .ok (.aload_n 0, 1) := by decide +kernel
theorem dX4_init_5 : decode cX4_init 5 = .ok (.iload_n 1, 1) := by decide +kernel
theorem dX4_init_6 : decode cX4_init 6 = .ok (.putfield 9, 3) := by decide +kernel
theorem dX4_init_9 : decode cX4_init 9 = .ok (.aload_n 0, 1) := by decide +kernel
theorem dX4_init_10 : decode cX4_init 10 = .ok (.iload_n 2, 1) := by decide +kernel
theorem dX4_init_11 : decode cX4_init 11 = .ok (.putfield 15, 3) := by decide +kernel
theorem dX4_init_14 : decode cX4_init 14 = .ok (.aload_n 0, 1) := by decide +kernel
theorem dX4_init_15 : decode cX4_init 15 = .ok (.iload_n 3, 1) := by decide +kernel
theorem dX4_init_16 : decode cX4_init 16 = .ok (.putfield 18, 3) := by decide +kernel
theorem dX4_init_19 : decode cX4_init 19 = .ok (.return_, 1) := by decide +kernel
theorem dX4_bars_0 : decode cX4_bars 0 = .ok (.aload_n 0, 1) := by decide +kernel
theorem dX4_bars_1 : decode cX4_bars 1 = .ok (.getfield 15, 3) := by decide +kernel
theorem dX4_bars_4 : decode cX4_bars 4 = .ok (.iload_n 1, 1) := by decide +kernel
theorem dX4_bars_5 : decode cX4_bars 5 = .ok (.iload_n 2, 1) := by decide +kernel
theorem dX4_bars_6 : decode cX4_bars 6 = .ok (.ior, 1) := by decide +kernel
theorem dX4_bars_7 : decode cX4_bars 7 = .ok (.iand, 1) := by decide +kernel
theorem dX4_bars_8 : decode cX4_bars 8 = .ok (.ifCond .ne 17, 3) := by decide +kernel
theorem dX4_bars_11 : decode cX4_bars 11 = .ok (.iload_n 2, 1) := by decide +kernel
theorem dX4_bars_12 : decode cX4_bars 12 = .ok (.aload_n 0, 1) := by decide +kernel
theorem dX4_bars_13 : decode cX4_bars 13 = .ok (.getfield 9, 3) := by decide +kernel
theorem dX4_bars_16 : decode cX4_bars 16 = .ok (.aload_n 0, 1) := by decide +kernel
theorem dX4_bars_17 : decode cX4_bars 17 = .ok (.getfield 15, 3) := by decide +kernel
theorem dX4_bars_20 : decode cX4_bars 20 = .ok (.ior, 1) := by decide +kernel
theorem dX4_bars_21 : decode cX4_bars 21 = .ok (.iand, 1) := by decide +kernel
theorem dX4_bars_22 : decode cX4_bars 22 = .ok (.ifCond .eq 7, 3) := by decide +kernel
theorem dX4_bars_25 : decode cX4_bars 25 = .ok (.iconst 1, 1) := by decide +kernel
theorem dX4_bars_26 : decode cX4_bars 26 = .ok (.goto 4, 3) := by decide +kernel
theorem dX4_bars_29 : decode cX4_bars 29 = .ok (.iconst 0, 1) := by decide +kernel
theorem dX4_bars_30 : decode cX4_bars 30 = .ok (.ireturn, 1) := by decide +kernel
theorem dX4_isFor_0 : decode cX4_isFor 0 = .ok (.aload_n 0, 1) := by decide +kernel
theorem dX4_isFor_1 : decode cX4_isFor 1 = .ok (.getfield 9, 3) := by decide +kernel
theorem dX4_isFor_4 : decode cX4_isFor 4 = .ok (.aload_n 0, 1) := by decide +kernel
theorem dX4_isFor_5 : decode cX4_isFor 5 = .ok (.getfield 15, 3) := by decide +kernel
theorem dX4_isFor_8 : decode cX4_isFor 8 = .ok (.ior, 1) := by decide +kernel
theorem dX4_isFor_9 : decode cX4_isFor 9 = .ok (.istore_n 2, 1) := by decide +kernel
theorem dX4_isFor_10 : decode cX4_isFor 10 = .ok (.iload_n 1, 1) := by decide +kernel
theorem dX4_isFor_11 : decode cX4_isFor 11 = .ok (.iload_n 2, 1) := by decide +kernel
theorem dX4_isFor_12 : decode cX4_isFor 12 = .ok (.iand, 1) := by decide +kernel
theorem dX4_isFor_13 : decode cX4_isFor 13 = .ok (.iload_n 2, 1) := by decide +kernel
theorem dX4_isFor_14 : decode cX4_isFor 14 = .ok (.if_icmp .ne 7, 3) := by decide +kernel
theorem dX4_isFor_17 : decode cX4_isFor 17 = .ok (.iconst 1, 1) := by decide +kernel
theorem dX4_isFor_18 : decode cX4_isFor 18 = .ok (.goto 4, 3) := by decide +kernel
theorem dX4_isFor_21 : decode cX4_isFor 21 = .ok (.iconst 0, 1) := by decide +kernel
theorem dX4_isFor_22 : decode cX4_isFor 22 = .ok (.ireturn, 1) := by decide +kernel
set_option maxRecDepth 20000 in
theorem ggX4_workOn_X1_put : GoodIn wsX4_workOn wsX1_put := goodIn_r _ [7, 8, 9, 13, 14, 15, 16, 17, 18] (by decide +kernel) (by decide +kernel)
set_option maxRecDepth 20000 in
theorem gX4_workOn_X1_put : GoodIn wsX4_workOn (wsV RX4 27 RX1 yX1_put wsX1_put) := goodIn_app (goodIn_of _ (by decide +kernel)) ggX4_workOn_X1_put
theorem dX4_workOn_0 : decode cX4_workOn 0 = .ok (.iconst 1, 1) := by decide +kernel
theorem dX4_workOn_1 : decode cX4_workOn 1 = .ok (.istore_n 3, 1) := by decide +kernel
theorem dX4_workOn_2 : decode cX4_workOn 2 = .ok (.iconst 0, 1) := by decide +kernel
theorem dX4_workOn_3 : decode cX4_workOn 3 = .ok (.istore 4, 2) := by decide +kernel
theorem dX4_workOn_5 : decode cX4_workOn 5 = .ok (.iload 4, 2) := by decide +kernel
theorem dX4_workOn_7 : decode cX4_workOn 7 = .ok (.bipush 6, 2) := by decide +kernel
theorem dX4_workOn_9 : decode cX4_workOn 9 = .ok (.if_icmp .ge 31, 3) := by decide +kernel
theorem dX4_workOn_12 : decode cX4_workOn 12 = .ok (.aload_n 0, 1) := by decide +kernel
theorem dX4_workOn_13 : decode cX4_workOn 13 = .ok (.getfield 9, 3) := by decide +kernel
theorem dX4_workOn_16 : decode cX4_workOn 16 = .ok (.iconst 1, 1) := by decide +kernel
theorem dX4_workOn_17 : decode cX4_workOn 17 = .ok (.iload 4, 2) := by decide +kernel
theorem dX4_workOn_19 : decode cX4_workOn 19 = .ok (.ishl, 1) := by decide +kernel
theorem dX4_workOn_20 : decode cX4_workOn 20 = .ok (.iand, 1) := by decide +kernel
theorem dX4_workOn_21 : decode cX4_workOn 21 = .ok (.ifCond .eq 13, 3) := by decide +kernel
theorem dX4_workOn_24 : decode cX4_workOn 24 = .ok (.iload_n 3, 1) := by decide +kernel
theorem dX4_workOn_25 : decode cX4_workOn 25 = .ok (.aload_n 1, 1) := by decide +kernel
theorem dX4_workOn_26 : decode cX4_workOn 26 = .ok (.getfield 21, 3) := by decide +kernel
theorem dX4_workOn_29 : decode cX4_workOn 29 = .ok (.iload 4, 2) := by decide +kernel
theorem dX4_workOn_31 : decode cX4_workOn 31 = .ok (.iaload, 1) := by decide +kernel
theorem dX4_workOn_32 : decode cX4_workOn 32 = .ok (.iadd, 1) := by decide +kernel
theorem dX4_workOn_33 : decode cX4_workOn 33 = .ok (.istore_n 3, 1) := by decide +kernel
theorem dX4_workOn_34 : decode cX4_workOn 34 = .ok (.iinc 4 1, 3) := by decide +kernel
theorem dX4_workOn_37 : decode cX4_workOn 37 = .ok (.goto (-32), 3) := by decide +kernel
theorem dX4_workOn_40 : decode cX4_workOn 40 = .ok (.iconst 0, 1) := by decide +kernel
theorem dX4_workOn_41 : decode cX4_workOn 41 = .ok (.istore 4, 2) := by decide +kernel
theorem dX4_workOn_43 : decode cX4_workOn 43 = .ok (.iconst 0, 1) := by decide +kernel
theorem dX4_workOn_44 : decode cX4_workOn 44 = .ok (.istore 5, 2) := by decide +kernel
theorem dX4_workOn_46 : decode cX4_workOn 46 = .ok (.iload 5, 2) := by decide +kernel
theorem dX4_workOn_48 : decode cX4_workOn 48 = .ok (.bipush 6, 2) := by decide +kernel
theorem dX4_workOn_50 : decode cX4_workOn 50 = .ok (.if_icmp .ge 40, 3) := by decide +kernel
theorem dX4_workOn_53 : decode cX4_workOn 53 = .ok (.aload_n 0, 1) := by decide +kernel
theorem dX4_workOn_54 : decode cX4_workOn 54 = .ok (.getfield 15, 3) := by decide +kernel
theorem dX4_workOn_57 : decode cX4_workOn 57 = .ok (.iconst 1, 1) := by decide +kernel
theorem dX4_workOn_58 : decode cX4_workOn 58 = .ok (.iload 5, 2) := by decide +kernel
theorem dX4_workOn_60 : decode cX4_workOn 60 = .ok (.ishl, 1) := by decide +kernel
theorem dX4_workOn_61 : decode cX4_workOn 61 = .ok (.iand, 1) := by decide +kernel
theorem dX4_workOn_62 : decode cX4_workOn 62 = .ok (.ifCond .eq 22, 3) := by decide +kernel
theorem dX4_workOn_65 : decode cX4_workOn 65 = .ok (.aload_n 1, 1) := by decide +kernel
theorem dX4_workOn_66 : decode cX4_workOn 66 = .ok (.iload 5, 2) := by decide +kernel
theorem dX4_workOn_68 : decode cX4_workOn 68 = .ok (.aload_n 1, 1) := by decide +kernel
theorem dX4_workOn_69 : decode cX4_workOn 69 = .ok (.getfield 21, 3) := by decide +kernel
theorem dX4_workOn_72 : decode cX4_workOn 72 = .ok (.iload 5, 2) := by decide +kernel
theorem dX4_workOn_74 : decode cX4_workOn 74 = .ok (.iaload, 1) := by decide +kernel
theorem dX4_workOn_75 : decode cX4_workOn 75 = .ok (.iload_n 3, 1) := by decide +kernel
theorem dX4_workOn_76 : decode cX4_workOn 76 = .ok (.iadd, 1) := by decide +kernel
theorem dX4_workOn_77 : decode cX4_workOn 77 = .ok (.iload_n 2, 1) := by decide +kernel
theorem dX4_workOn_78 : decode cX4_workOn 78 = .ok (.invokevirtual 27, 3) := by decide +kernel
theorem dX4_workOn_81 : decode cX4_workOn 81 = .ok (.iinc 4 1, 3) := by decide +kernel
theorem dX4_workOn_84 : decode cX4_workOn 84 = .ok (.iinc 5 1, 3) := by decide +kernel
theorem dX4_workOn_87 : decode cX4_workOn 87 = .ok (.goto (-41), 3) := by decide +kernel
theorem dX4_workOn_90 : decode cX4_workOn 90 = .ok (.iload 4, 2) := by decide +kernel
theorem dX4_workOn_92 : decode cX4_workOn 92 = .ok (.ireturn, 1) := by decide +kernel
set_option maxRecDepth 20000 in
theorem ggX5_init_Jx4a65c_init_da8c8 : GoodIn wsX5_init wsJx4a65c_init_da8c8 := goodIn_r _ [12, 13, 14, 15, 16, 17, 18, 19, 20, 21, 22, 23, 24, 2, 3, 25, 26, 27] (by decide +kernel) (by decide +kernel)
set_option maxRecDepth 20000 in
theorem gX5_init_Jx4a65c_init_da8c8 : GoodIn wsX5_init (wsJx4a65c_init_da8c8) := ggX5_init_Jx4a65c_init_da8c8
theorem dX5_init_0 : decode cX5_init 0 = .ok (.aload_n 0, 1) := by decide +kernel
theorem dX5_init_1 : decode cX5_init 1 = .ok (.invokespecial 1, 3) := by decide +kernel
theorem dX5_init_4 : decode cX5_init 4 = .ok (.aload_n 0, 1) := by decide +kernel
theorem dX5_init_5 : decode cX5_init 5 = .ok (.new 7, 3) := by decide +kernel
theorem dX5_init_8 : decode cX5_init 8 = .ok (.dup, 1) := by decide +kernel
theorem dX5_init_9 : decode cX5_init 9 = .ok (.invokespecial 9, 3) := by decide +kernel
theorem dX5_init_12 : decode cX5_init 12 = .ok (.putfield 10, 3) := by decide +kernel
theorem dX5_init_15 : decode cX5_init 15 = .ok (.aload_n 0, 1) := by decide +kernel
theorem dX5_init_16 : decode cX5_init 16 = .ok (.iconst 0, 1) := by decide +kernel
theorem dX5_init_17 : decode cX5_init 17 = .ok (.putfield 16, 3) := by decide +kernel
theorem dX5_init_20 : decode cX5_init 20 = .ok (.aload_n 0, 1) := by decide +kernel
theorem dX5_init_21 : decode cX5_init 21 = .ok (.aload_n 1, 1) := by decide +kernel
theorem dX5_init_22 : decode cX5_init 22 = .ok (.putfield 20, 3) := by decide +kernel
theorem dX5_init_25 : decode cX5_init 25 = .ok (.return_, 1) := by decide +kernel
set_option maxRecDepth 20000 in
theorem ggX6_init_Jx4a65c_init_da8c8 : GoodIn wsX6_init wsJx4a65c_init_da8c8 := goodIn_r _ [18, 19, 20, 21, 22, 23, 24, 25, 26, 27, 28, 29, 30, 2, 3, 48, 49, 50] (by decide +kernel) (by decide +kernel)
set_option maxRecDepth 20000 in
theorem gX6_init_Jx4a65c_init_da8c8 : GoodIn wsX6_init (wsJx4a65c_init_da8c8) := ggX6_init_Jx4a65c_init_da8c8
set_option maxRecDepth 20000 in
theorem ggX6_init_X1_init : GoodIn wsX6_init wsX1_init := goodIn_r _ [33, 34, 2, 3, 35, 36, 37, 38, 39, 40, 41, 51, 52, 53, 54, 55, 56] (by decide +kernel) (by decide +kernel)
set_option maxRecDepth 20000 in
theorem gX6_init_X1_init : GoodIn wsX6_init (wsX1_init) := ggX6_init_X1_init
theorem dX6_init_0 : decode cX6_init 0 = .ok (.aload_n 0, 1) := by decide +kernel
theorem dX6_init_1 : decode cX6_init 1 = .ok (.invokespecial 1, 3) := by decide +kernel
theorem dX6_init_4 : decode cX6_init 4 = .ok (.aload_n 0, 1) := by decide +kernel
theorem dX6_init_5 : decode cX6_init 5 = .ok (.bipush 32, 2) := by decide +kernel
theorem dX6_init_7 : decode cX6_init 7 = .ok (.anewarray 9, 3) := by decide +kernel
theorem dX6_init_10 : decode cX6_init 10 = .ok (.putfield 11, 3) := by decide +kernel
theorem dX6_init_13 : decode cX6_init 13 = .ok (.aload_n 0, 1) := by decide +kernel
theorem dX6_init_14 : decode cX6_init 14 = .ok (.new 15, 3) := by decide +kernel
theorem dX6_init_17 : decode cX6_init 17 = .ok (.dup, 1) := by decide +kernel
theorem dX6_init_18 : decode cX6_init 18 = .ok (.invokespecial 17, 3) := by decide +kernel
theorem dX6_init_21 : decode cX6_init 21 = .ok (.putfield 18, 3) := by decide +kernel
theorem dX6_init_24 : decode cX6_init 24 = .ok (.aload_n 0, 1) := by decide +kernel
theorem dX6_init_25 : decode cX6_init 25 = .ok (.new 15, 3) := by decide +kernel
theorem dX6_init_28 : decode cX6_init 28 = .ok (.dup, 1) := by decide +kernel
theorem dX6_init_29 : decode cX6_init 29 = .ok (.invokespecial 17, 3) := by decide +kernel
theorem dX6_init_32 : decode cX6_init 32 = .ok (.putfield 22, 3) := by decide +kernel
theorem dX6_init_35 : decode cX6_init 35 = .ok (.aload_n 0, 1) := by decide +kernel
theorem dX6_init_36 : decode cX6_init 36 = .ok (.new 15, 3) := by decide +kernel
theorem dX6_init_39 : decode cX6_init 39 = .ok (.dup, 1) := by decide +kernel
theorem dX6_init_40 : decode cX6_init 40 = .ok (.invokespecial 17, 3) := by decide +kernel
theorem dX6_init_43 : decode cX6_init 43 = .ok (.putfield 25, 3) := by decide +kernel
theorem dX6_init_46 : decode cX6_init 46 = .ok (.aload_n 0, 1) := by decide +kernel
theorem dX6_init_47 : decode cX6_init 47 = .ok (.aconst_null, 1) := by decide +kernel
theorem dX6_init_48 : decode cX6_init 48 = .ok (.putfield 28, 3) := by decide +kernel
theorem dX6_init_51 : decode cX6_init 51 = .ok (.aload_n 0, 1) := by decide +kernel
theorem dX6_init_52 : decode cX6_init 52 = .ok (.iconst 0, 1) := by decide +kernel
theorem dX6_init_53 : decode cX6_init 53 = .ok (.putfield 32, 3) := by decide +kernel
theorem dX6_init_56 : decode cX6_init 56 = .ok (.iconst 0, 1) := by decide +kernel
theorem dX6_init_57 : decode cX6_init 57 = .ok (.istore_n 1, 1) := by decide +kernel
theorem dX6_init_58 : decode cX6_init 58 = .ok (.iload_n 1, 1) := by decide +kernel
theorem dX6_init_59 : decode cX6_init 59 = .ok (.bipush 32, 2) := by decide +kernel
theorem dX6_init_61 : decode cX6_init 61 = .ok (.if_icmp .ge 23, 3) := by decide +kernel
theorem dX6_init_64 : decode cX6_init 64 = .ok (.aload_n 0, 1) := by decide +kernel
theorem dX6_init_65 : decode cX6_init 65 = .ok (.getfield 11, 3) := by decide +kernel
theorem dX6_init_68 : decode cX6_init 68 = .ok (.iload_n 1, 1) := by decide +kernel
theorem dX6_init_69 : decode cX6_init 69 = .ok (.new 9, 3) := by decide +kernel
theorem dX6_init_72 : decode cX6_init 72 = .ok (.dup, 1) := by decide +kernel
theorem dX6_init_73 : decode cX6_init 73 = .ok (.iload_n 1, 1) := by decide +kernel
theorem dX6_init_74 : decode cX6_init 74 = .ok (.invokespecial 36, 3) := by decide +kernel
theorem dX6_init_77 : decode cX6_init 77 = .ok (.aastore, 1) := by decide +kernel
theorem dX6_init_78 : decode cX6_init 78 = .ok (.iinc 1 1, 3) := by decide +kernel
theorem dX6_init_81 : decode cX6_init 81 = .ok (.goto (-23), 3) := by decide +kernel
theorem dX6_init_84 : decode cX6_init 84 = .ok (.return_, 1) := by decide +kernel
set_option maxRecDepth 20000 in
theorem ggX6_make_X6_refuseDuringWalk : GoodIn wsX6_make wsX6_refuseDuringWalk := goodIn_ca (goodIn_r _ [5, 6, 7, 8, 130, 131, 132, 133, 134, 135] (by decide +kernel) (by decide +kernel)) (goodIn_sub (fun _ h => List.mem_cons_of_mem _ (List.mem_append_right _ h)) (by decide +kernel))
set_option maxRecDepth 20000 in
theorem gX6_make_X6_refuseDuringWalk : GoodIn wsX6_make (wsV RX6 39 RX6 yX6_refuseDuringWalk wsX6_refuseDuringWalk) := goodIn_app (goodIn_of _ (by decide +kernel)) ggX6_make_X6_refuseDuringWalk
set_option maxRecDepth 20000 in
theorem ggX6_make_X6_lowestFree : GoodIn wsX6_make wsX6_lowestFree := goodIn_ca (goodIn_r _ [12, 6, 7, 13, 130, 131, 132, 133, 134, 135, 122, 123, 124, 125, 126, 127] (by decide +kernel) (by decide +kernel)) (goodIn_sub (fun _ h => List.mem_cons_of_mem _ (List.mem_append_right _ h)) (by decide +kernel))
set_option maxRecDepth 20000 in
theorem gX6_make_X6_lowestFree : GoodIn wsX6_make (wsV RX6 42 RX6 yX6_lowestFree wsX6_lowestFree) := goodIn_app (goodIn_of _ (by decide +kernel)) ggX6_make_X6_lowestFree
set_option maxRecDepth 20000 in
theorem ggX6_make_X6_rowOf : GoodIn wsX6_make wsX6_rowOf := goodIn_r _ [17, 18, 19, 20, 21, 22, 23, 24, 25, 26, 27, 28, 29, 30, 31, 32, 33, 34, 35, 36, 37, 38, 39, 40, 41, 42, 43, 44, 45, 46, 47, 48, 49, 50, 51, 52, 53, 54, 55, 56, 57, 58, 59, 60, 61, 62, 63, 64, 65, 66, 67, 68, 69, 70, 71, 72, 73, 74, 75, 76, 77, 78, 79, 80, 81, 82, 83, 84, 85, 86, 87, 88, 89, 90, 91, 92, 93, 94, 95, 96, 97, 98, 99, 100, 101, 102, 103, 104, 105, 106, 107, 108, 109, 110, 111, 112, 113, 114, 115, 116, 117, 118, 119, 120, 121, 130, 131, 132, 133, 134, 135, 128, 129, 136, 137, 138] (by decide +kernel) (by decide +kernel)
set_option maxRecDepth 20000 in
theorem gX6_make_X6_rowOf : GoodIn wsX6_make (wsV RX6 50 RX6 yX6_rowOf wsX6_rowOf) := goodIn_app (goodIn_of _ (by decide +kernel)) ggX6_make_X6_rowOf
set_option maxRecDepth 20000 in
theorem ggX6_make_Jx4a65c_add_9ea2d : GoodIn wsX6_make wsJx4a65c_add_9ea2d := goodIn_r _ [73, 74, 75, 45, 28, 76, 77, 78, 26, 79, 80, 81, 82, 83, 84, 85, 86, 87, 59, 88, 89, 90, 91, 92, 93, 94, 95, 96, 97, 98, 99, 100, 101, 102, 103, 104, 105, 106, 107, 108, 109, 110, 111, 112, 113, 114, 115, 116, 117, 118, 119, 120, 121, 136, 137, 138] (by decide +kernel) (by decide +kernel)
set_option maxRecDepth 20000 in
theorem gX6_make_Jx4a65c_add_9ea2d : GoodIn wsX6_make (wsV RX6 59 RJx4a65c yJx4a65c_add_9ea2d wsJx4a65c_add_9ea2d) := goodIn_app (goodIn_of _ (by decide +kernel)) ggX6_make_Jx4a65c_add_9ea2d
theorem dX6_make_0 : decode cX6_make 0 = .ok (.aload_n 0, 1) := by decide +kernel
theorem dX6_make_1 : decode cX6_make 1 = .ok (.invokevirtual 39, 3) := by decide +kernel
theorem dX6_make_4 : decode cX6_make 4 = .ok (.aload_n 0, 1) := by decide +kernel
theorem dX6_make_5 : decode cX6_make 5 = .ok (.invokevirtual 42, 3) := by decide +kernel
theorem dX6_make_8 : decode cX6_make 8 = .ok (.astore_n 1, 1) := by decide +kernel
theorem dX6_make_9 : decode cX6_make 9 = .ok (.aload_n 1, 1) := by decide +kernel
theorem dX6_make_10 : decode cX6_make 10 = .ok (.iconst 1, 1) := by decide +kernel
theorem dX6_make_11 : decode cX6_make 11 = .ok (.putfield 46, 3) := by decide +kernel
theorem dX6_make_14 : decode cX6_make 14 = .ok (.aload_n 0, 1) := by decide +kernel
theorem dX6_make_15 : decode cX6_make 15 = .ok (.iconst 0, 1) := by decide +kernel
theorem dX6_make_16 : decode cX6_make 16 = .ok (.invokevirtual 50, 3) := by decide +kernel
theorem dX6_make_19 : decode cX6_make 19 = .ok (.getfield 54, 3) := by decide +kernel
theorem dX6_make_22 : decode cX6_make 22 = .ok (.aload_n 1, 1) := by decide +kernel
theorem dX6_make_23 : decode cX6_make 23 = .ok (.invokevirtual 59, 3) := by decide +kernel
theorem dX6_make_26 : decode cX6_make 26 = .ok (.pop, 1) := by decide +kernel
theorem dX6_make_27 : decode cX6_make 27 = .ok (.aload_n 1, 1) := by decide +kernel
theorem dX6_make_28 : decode cX6_make 28 = .ok (.getfield 63, 3) := by decide +kernel
theorem dX6_make_31 : decode cX6_make 31 = .ok (.ireturn, 1) := by decide +kernel
set_option maxRecDepth 20000 in
theorem ggX6_end_X6_entityOf : GoodIn wsX6_end wsX6_entityOf := goodIn_ca (goodIn_r _ [6, 7, 8, 9, 10, 11, 5, 12, 13, 14, 15, 16, 17, 18, 19, 20, 182, 183, 184, 185, 186, 187, 176, 177, 178, 179, 180, 181] (by decide +kernel) (by decide +kernel)) (goodIn_sub (fun _ h => List.mem_cons_of_mem _ (List.mem_append_left _ (List.mem_append_right _ h))) (by decide +kernel))
set_option maxRecDepth 20000 in
theorem gX6_end_X6_entityOf : GoodIn wsX6_end (wsV RX6 66 RX6 yX6_entityOf wsX6_entityOf) := goodIn_app (goodIn_of _ (by decide +kernel)) ggX6_end_X6_entityOf
set_option maxRecDepth 20000 in
theorem ggX6_end_X6_refuseDuringWalk : GoodIn wsX6_end wsX6_refuseDuringWalk := goodIn_ca (goodIn_r _ [24, 25, 26, 27, 182, 183, 184, 185, 186, 187] (by decide +kernel) (by decide +kernel)) (goodIn_sub (fun _ h => List.mem_cons_of_mem _ (List.mem_append_right _ h)) (by decide +kernel))
set_option maxRecDepth 20000 in
theorem gX6_end_X6_refuseDuringWalk : GoodIn wsX6_end (wsV RX6 39 RX6 yX6_refuseDuringWalk wsX6_refuseDuringWalk) := goodIn_app (goodIn_of _ (by decide +kernel)) ggX6_end_X6_refuseDuringWalk
set_option maxRecDepth 20000 in
theorem ggX6_end_X6_familyOf : GoodIn wsX6_end wsX6_familyOf := goodIn_r _ [31, 32, 33, 34, 1, 13, 35, 36, 37, 38, 39, 40, 41, 42, 43, 44, 45, 46, 47, 48, 49, 50, 51, 52, 53, 54, 55, 56, 57, 58, 59, 60, 61, 62, 63, 64, 65, 66, 67, 68, 69, 70, 71, 72, 73, 74, 75, 76, 77, 78, 79, 80, 81, 82, 83, 84, 85, 86, 87, 88, 89, 90, 91, 92, 93, 94, 95, 96, 97, 98, 99, 100, 101, 102, 103, 104, 105, 106, 107, 108, 109, 110, 111, 112, 113, 114, 115, 116, 117, 118, 119, 120, 121, 122, 123, 124, 125, 126, 127, 128, 129, 130, 131, 132, 133, 188, 189, 190, 182, 183, 184, 185, 186, 187, 176, 177, 178, 179, 180, 181] (by decide +kernel) (by decide +kernel)
set_option maxRecDepth 20000 in
theorem gX6_end_X6_familyOf : GoodIn wsX6_end (wsV RX6 70 RX6 yX6_familyOf wsX6_familyOf) := goodIn_app (goodIn_of _ (by decide +kernel)) ggX6_end_X6_familyOf
set_option maxRecDepth 20000 in
theorem ggX6_end_Jx4a65c_size_8abf5 : GoodIn wsX6_end wsJx4a65c_size_8abf5 := goodIn_r _ [108, 58, 188, 189, 190] (by decide +kernel) (by decide +kernel)
set_option maxRecDepth 20000 in
theorem gX6_end_Jx4a65c_size_8abf5 : GoodIn wsX6_end (wsV RX6 74 RJx4a65c yJx4a65c_size_8abf5 wsJx4a65c_size_8abf5) := goodIn_app (goodIn_of _ (by decide +kernel)) ggX6_end_Jx4a65c_size_8abf5
set_option maxRecDepth 20000 in
theorem ggX6_end_Jx4a65c_get_915e3 : GoodIn wsX6_end wsJx4a65c_get_915e3 := goodIn_r _ [112, 58, 113, 114, 115, 116, 117, 118, 119, 120, 121, 122, 123, 34, 124, 39, 188, 189, 190] (by decide +kernel) (by decide +kernel)
set_option maxRecDepth 20000 in
theorem gX6_end_Jx4a65c_get_915e3 : GoodIn wsX6_end (wsV RX6 78 RJx4a65c yJx4a65c_get_915e3 wsJx4a65c_get_915e3) := goodIn_app (goodIn_of _ (by decide +kernel)) ggX6_end_Jx4a65c_get_915e3
set_option maxRecDepth 20000 in
theorem ggX6_end_X6_rowOf : GoodIn wsX6_end wsX6_rowOf := goodIn_r _ [137, 138, 139, 140, 141, 142, 105, 106, 107, 34, 108, 58, 109, 110, 111, 112, 113, 114, 115, 116, 117, 118, 119, 120, 121, 122, 123, 124, 39, 143, 144, 145, 146, 50, 51, 147, 33, 148, 149, 150, 36, 37, 38, 40, 41, 42, 43, 44, 45, 46, 47, 48, 49, 52, 53, 54, 55, 56, 57, 59, 60, 61, 62, 63, 64, 65, 66, 67, 68, 69, 70, 71, 72, 73, 74, 75, 76, 77, 78, 79, 80, 81, 82, 83, 84, 85, 86, 87, 88, 89, 90, 91, 92, 93, 94, 95, 96, 97, 98, 99, 100, 101, 102, 103, 104, 182, 183, 184, 185, 186, 187, 191, 192, 188, 189, 190] (by decide +kernel) (by decide +kernel)
set_option maxRecDepth 20000 in
theorem gX6_end_X6_rowOf : GoodIn wsX6_end (wsV RX6 50 RX6 yX6_rowOf wsX6_rowOf) := goodIn_app (goodIn_of _ (by decide +kernel)) ggX6_end_X6_rowOf
set_option maxRecDepth 20000 in
theorem ggX6_end_X3_putOut : GoodIn wsX6_end wsX3_putOut := goodIn_r _ [154, 148, 155, 156, 106, 107, 34, 108, 58, 157, 110, 111, 112, 113, 114, 115, 116, 117, 118, 119, 120, 121, 122, 123, 124, 39, 158, 159, 160, 161, 162, 163, 164, 165, 166, 167, 168, 169, 56, 57, 129, 102, 103, 104, 191, 192, 188, 189, 190] (by decide +kernel) (by decide +kernel)
set_option maxRecDepth 20000 in
theorem gX6_end_X3_putOut : GoodIn wsX6_end (wsV RX6 85 RX3 yX3_putOut wsX3_putOut) := goodIn_app (goodIn_of _ (by decide +kernel)) ggX6_end_X3_putOut
set_option maxRecDepth 20000 in
theorem ggX6_end_X1_freeSlot : GoodIn wsX6_end wsX1_freeSlot := goodIn_r _ [173, 19, 20, 174, 175, 176, 177, 178, 179, 180, 181] (by decide +kernel) (by decide +kernel)
set_option maxRecDepth 20000 in
theorem gX6_end_X1_freeSlot : GoodIn wsX6_end (wsV RX6 89 RX1 yX1_freeSlot wsX1_freeSlot) := goodIn_app (goodIn_of _ (by decide +kernel)) ggX6_end_X1_freeSlot
theorem dX6_end_0 : decode cX6_end 0 = .ok (.aload_n 0, 1) := by decide +kernel
theorem dX6_end_1 : decode cX6_end 1 = .ok (.iload_n 1, 1) := by decide +kernel
theorem dX6_end_2 : decode cX6_end 2 = .ok (.invokevirtual 66, 3) := by decide +kernel
theorem dX6_end_5 : decode cX6_end 5 = .ok (.astore_n 2, 1) := by decide +kernel
theorem dX6_end_6 : decode cX6_end 6 = .ok (.aload_n 0, 1) := by decide +kernel
theorem dX6_end_7 : decode cX6_end 7 = .ok (.invokevirtual 39, 3) := by decide +kernel
theorem dX6_end_10 : decode cX6_end 10 = .ok (.aload_n 0, 1) := by decide +kernel
theorem dX6_end_11 : decode cX6_end 11 = .ok (.aload_n 2, 1) := by decide +kernel
theorem dX6_end_12 : decode cX6_end 12 = .ok (.invokevirtual 70, 3) := by decide +kernel
theorem dX6_end_15 : decode cX6_end 15 = .ok (.astore_n 3, 1) := by decide +kernel
theorem dX6_end_16 : decode cX6_end 16 = .ok (.iconst 0, 1) := by decide +kernel
theorem dX6_end_17 : decode cX6_end 17 = .ok (.istore 4, 2) := by decide +kernel
theorem dX6_end_19 : decode cX6_end 19 = .ok (.iload 4, 2) := by decide +kernel
theorem dX6_end_21 : decode cX6_end 21 = .ok (.aload_n 3, 1) := by decide +kernel
theorem dX6_end_22 : decode cX6_end 22 = .ok (.invokevirtual 74, 3) := by decide +kernel
theorem dX6_end_25 : decode cX6_end 25 = .ok (.if_icmp .ge 39, 3) := by decide +kernel
theorem dX6_end_28 : decode cX6_end 28 = .ok (.aload_n 3, 1) := by decide +kernel
theorem dX6_end_29 : decode cX6_end 29 = .ok (.iload 4, 2) := by decide +kernel
theorem dX6_end_31 : decode cX6_end 31 = .ok (.invokevirtual 78, 3) := by decide +kernel
theorem dX6_end_34 : decode cX6_end 34 = .ok (.checkcast 9, 3) := by decide +kernel
theorem dX6_end_37 : decode cX6_end 37 = .ok (.astore 5, 2) := by decide +kernel
theorem dX6_end_39 : decode cX6_end 39 = .ok (.aload_n 0, 1) := by decide +kernel
theorem dX6_end_40 : decode cX6_end 40 = .ok (.aload 5, 2) := by decide +kernel
theorem dX6_end_42 : decode cX6_end 42 = .ok (.getfield 82, 3) := by decide +kernel
theorem dX6_end_45 : decode cX6_end 45 = .ok (.invokevirtual 50, 3) := by decide +kernel
theorem dX6_end_48 : decode cX6_end 48 = .ok (.aload 5, 2) := by decide +kernel
theorem dX6_end_50 : decode cX6_end 50 = .ok (.invokevirtual 85, 3) := by decide +kernel
theorem dX6_end_53 : decode cX6_end 53 = .ok (.aload 5, 2) := by decide +kernel
theorem dX6_end_55 : decode cX6_end 55 = .ok (.invokevirtual 89, 3) := by decide +kernel
theorem dX6_end_58 : decode cX6_end 58 = .ok (.iinc 4 1, 3) := by decide +kernel
theorem dX6_end_61 : decode cX6_end 61 = .ok (.goto (-42), 3) := by decide +kernel
theorem dX6_end_64 : decode cX6_end 64 = .ok (.aload_n 3, 1) := by decide +kernel
theorem dX6_end_65 : decode cX6_end 65 = .ok (.invokevirtual 74, 3) := by decide +kernel
theorem dX6_end_68 : decode cX6_end 68 = .ok (.ireturn, 1) := by decide +kernel
set_option maxRecDepth 20000 in
theorem ggX6_adopt_X6_entityOf : GoodIn wsX6_adopt wsX6_entityOf := goodIn_ca (goodIn_r _ [5, 6, 7, 8, 9, 10, 4, 11, 12, 13, 14, 15, 16, 17, 18, 19, 38, 39, 40, 41, 42, 43, 32, 33, 34, 35, 36, 37] (by decide +kernel) (by decide +kernel)) (goodIn_sub (fun _ h => List.mem_cons_of_mem _ (List.mem_append_left _ (List.mem_append_left _ (List.mem_append_right _ h)))) (by decide +kernel))
set_option maxRecDepth 20000 in
theorem gX6_adopt_X6_entityOf : GoodIn wsX6_adopt (wsV RX6 66 RX6 yX6_entityOf wsX6_entityOf) := goodIn_app (goodIn_of _ (by decide +kernel)) ggX6_adopt_X6_entityOf
set_option maxRecDepth 20000 in
theorem ggX6_adopt_X6_refuseCircle : GoodIn wsX6_adopt wsX6_refuseCircle := goodIn_ca (goodIn_r _ [22, 23, 24, 32, 33, 34, 35, 36, 37] (by decide +kernel) (by decide +kernel)) (goodIn_sub (fun _ h => List.mem_cons_of_mem _ (List.mem_append_left _ (List.mem_append_right _ h))) (by decide +kernel))
set_option maxRecDepth 20000 in
theorem gX6_adopt_X6_refuseCircle : GoodIn wsX6_adopt (va_wsS RX6 92 yX6_refuseCircle wsX6_refuseCircle) := goodIn_app (goodIn_of _ (by decide +kernel)) ggX6_adopt_X6_refuseCircle
set_option maxRecDepth 20000 in
theorem ggX6_adopt_X6_refuseDuringWalk : GoodIn wsX6_adopt wsX6_refuseDuringWalk := goodIn_ca (goodIn_r _ [28, 29, 30, 31, 38, 39, 40, 41, 42, 43] (by decide +kernel) (by decide +kernel)) (goodIn_sub (fun _ h => List.mem_cons_of_mem _ (List.mem_append_right _ h)) (by decide +kernel))
set_option maxRecDepth 20000 in
theorem gX6_adopt_X6_refuseDuringWalk : GoodIn wsX6_adopt (wsV RX6 39 RX6 yX6_refuseDuringWalk wsX6_refuseDuringWalk) := goodIn_app (goodIn_of _ (by decide +kernel)) ggX6_adopt_X6_refuseDuringWalk
theorem dX6_adopt_0 : decode cX6_adopt 0 = .ok (.aload_n 0, 1) := by decide +kernel
theorem dX6_adopt_1 : decode cX6_adopt 1 = .ok (.iload_n 1, 1) := by decide +kernel
theorem dX6_adopt_2 : decode cX6_adopt 2 = .ok (.invokevirtual 66, 3) := by decide +kernel
theorem dX6_adopt_5 : decode cX6_adopt 5 = .ok (.astore_n 3, 1) := by decide +kernel
theorem dX6_adopt_6 : decode cX6_adopt 6 = .ok (.iload_n 2, 1) := by decide +kernel
theorem dX6_adopt_7 : decode cX6_adopt 7 = .ok (.iconst (-1), 1) := by decide +kernel
theorem dX6_adopt_8 : decode cX6_adopt 8 = .ok (.if_icmp .ne 7, 3) := by decide +kernel
theorem dX6_adopt_11 : decode cX6_adopt 11 = .ok (.aconst_null, 1) := by decide +kernel
theorem dX6_adopt_12 : decode cX6_adopt 12 = .ok (.goto 8, 3) := by decide +kernel
theorem dX6_adopt_15 : decode cX6_adopt 15 = .ok (.aload_n 0, 1) := by decide +kernel
theorem dX6_adopt_16 : decode cX6_adopt 16 = .ok (.iload_n 2, 1) := by decide +kernel
theorem dX6_adopt_17 : decode cX6_adopt 17 = .ok (.invokevirtual 66, 3) := by decide +kernel
theorem dX6_adopt_20 : decode cX6_adopt 20 = .ok (.astore 4, 2) := by decide +kernel
theorem dX6_adopt_22 : decode cX6_adopt 22 = .ok (.aload_n 3, 1) := by decide +kernel
theorem dX6_adopt_23 : decode cX6_adopt 23 = .ok (.aload 4, 2) := by decide +kernel
theorem dX6_adopt_25 : decode cX6_adopt 25 = .ok (.invokestatic 92, 3) := by decide +kernel
theorem dX6_adopt_28 : decode cX6_adopt 28 = .ok (.aload_n 0, 1) := by decide +kernel
theorem dX6_adopt_29 : decode cX6_adopt 29 = .ok (.invokevirtual 39, 3) := by decide +kernel
theorem dX6_adopt_32 : decode cX6_adopt 32 = .ok (.aload_n 3, 1) := by decide +kernel
theorem dX6_adopt_33 : decode cX6_adopt 33 = .ok (.getfield 96, 3) := by decide +kernel
theorem dX6_adopt_36 : decode cX6_adopt 36 = .ok (.astore 5, 2) := by decide +kernel
theorem dX6_adopt_38 : decode cX6_adopt 38 = .ok (.aload_n 3, 1) := by decide +kernel
theorem dX6_adopt_39 : decode cX6_adopt 39 = .ok (.aload 4, 2) := by decide +kernel
theorem dX6_adopt_41 : decode cX6_adopt 41 = .ok (.putfield 96, 3) := by decide +kernel
theorem dX6_adopt_44 : decode cX6_adopt 44 = .ok (.aload 5, 2) := by decide +kernel
theorem dX6_adopt_46 : decode cX6_adopt 46 = .ok (.ifnonnull 7, 3) := by decide +kernel
theorem dX6_adopt_49 : decode cX6_adopt 49 = .ok (.iconst (-1), 1) := by decide +kernel
theorem dX6_adopt_50 : decode cX6_adopt 50 = .ok (.goto 8, 3) := by decide +kernel
theorem dX6_adopt_53 : decode cX6_adopt 53 = .ok (.aload 5, 2) := by decide +kernel
theorem dX6_adopt_55 : decode cX6_adopt 55 = .ok (.getfield 63, 3) := by decide +kernel
theorem dX6_adopt_58 : decode cX6_adopt 58 = .ok (.ireturn, 1) := by decide +kernel
theorem dX6_entities_0 : decode cX6_entities 0 = .ok (.iconst 0, 1) := by decide +kernel
theorem dX6_entities_1 : decode cX6_entities 1 = .ok (.istore_n 1, 1) := by decide +kernel
theorem dX6_entities_2 : decode cX6_entities 2 = .ok (.iconst 0, 1) := by decide +kernel
theorem dX6_entities_3 : decode cX6_entities 3 = .ok (.istore_n 2, 1) := by decide +kernel
theorem dX6_entities_4 : decode cX6_entities 4 = .ok (.iload_n 2, 1) := by decide +kernel
theorem dX6_entities_5 : decode cX6_entities 5 = .ok (.bipush 32, 2) := by decide +kernel
theorem dX6_entities_7 : decode cX6_entities 7 = .ok (.if_icmp .ge 24, 3) := by decide +kernel
theorem dX6_entities_10 : decode cX6_entities 10 = .ok (.aload_n 0, 1) := by decide +kernel
theorem dX6_entities_11 : decode cX6_entities 11 = .ok (.getfield 11, 3) := by decide +kernel
theorem dX6_entities_14 : decode cX6_entities 14 = .ok (.iload_n 2, 1) := by decide +kernel
theorem dX6_entities_15 : decode cX6_entities 15 = .ok (.aaload, 1) := by decide +kernel
theorem dX6_entities_16 : decode cX6_entities 16 = .ok (.getfield 46, 3) := by decide +kernel
theorem dX6_entities_19 : decode cX6_entities 19 = .ok (.ifCond .eq 6, 3) := by decide +kernel
theorem dX6_entities_22 : decode cX6_entities 22 = .ok (.iinc 1 1, 3) := by decide +kernel
theorem dX6_entities_25 : decode cX6_entities 25 = .ok (.iinc 2 1, 3) := by decide +kernel
theorem dX6_entities_28 : decode cX6_entities 28 = .ok (.goto (-24), 3) := by decide +kernel
theorem dX6_entities_31 : decode cX6_entities 31 = .ok (.iload_n 1, 1) := by decide +kernel
theorem dX6_entities_32 : decode cX6_entities 32 = .ok (.ireturn, 1) := by decide +kernel
set_option maxRecDepth 20000 in
theorem ggX6_isThere_X6_slotOf : GoodIn wsX6_isThere wsX6_slotOf := goodIn_r _ [5, 6, 14, 15, 16, 17, 18, 19] (by decide +kernel) (by decide +kernel)
set_option maxRecDepth 20000 in
theorem gX6_isThere_X6_slotOf : GoodIn wsX6_isThere (wsV RX6 100 RX6 yX6_slotOf wsX6_slotOf) := goodIn_app (goodIn_of _ (by decide +kernel)) ggX6_isThere_X6_slotOf
set_option maxRecDepth 20000 in
theorem ggX6_isThere_X1_isOf : GoodIn wsX6_isThere wsX1_isOf := goodIn_r _ [11, 12, 13, 20, 21, 22, 23, 24, 25] (by decide +kernel) (by decide +kernel)
set_option maxRecDepth 20000 in
theorem gX6_isThere_X1_isOf : GoodIn wsX6_isThere (wsV RX6 103 RX1 yX1_isOf wsX1_isOf) := goodIn_app (goodIn_of _ (by decide +kernel)) ggX6_isThere_X1_isOf
theorem dX6_isThere_0 : decode cX6_isThere 0 = .ok (.aload_n 0, 1) := by decide +kernel
theorem dX6_isThere_1 : decode cX6_isThere 1 = .ok (.iload_n 1, 1) := by decide +kernel
theorem dX6_isThere_2 : decode cX6_isThere 2 = .ok (.invokevirtual 100, 3) := by decide +kernel
theorem dX6_isThere_5 : decode cX6_isThere 5 = .ok (.iload_n 1, 1) := by decide +kernel
theorem dX6_isThere_6 : decode cX6_isThere 6 = .ok (.invokevirtual 103, 3) := by decide +kernel
theorem dX6_isThere_9 : decode cX6_isThere 9 = .ok (.ireturn, 1) := by decide +kernel
set_option maxRecDepth 20000 in
theorem ggX6_children_X6_entityOf : GoodIn wsX6_children wsX6_entityOf := goodIn_ca (goodIn_r _ [6, 7, 8, 9, 10, 11, 5, 12, 1, 13, 14, 15, 16, 17, 18, 19, 20, 21, 22, 23, 24, 25, 26, 27, 28, 29, 30, 31] (by decide +kernel) (by decide +kernel)) (goodIn_sub (fun _ h => List.mem_cons_of_mem _ (List.mem_append_right _ h)) (by decide +kernel))
set_option maxRecDepth 20000 in
theorem gX6_children_X6_entityOf : GoodIn wsX6_children (wsV RX6 66 RX6 yX6_entityOf wsX6_entityOf) := goodIn_app (goodIn_of _ (by decide +kernel)) ggX6_children_X6_entityOf
theorem dX6_children_0 : decode cX6_children 0 = .ok (.aload_n 0, 1) := by decide +kernel
theorem dX6_children_1 : decode cX6_children 1 = .ok (.iload_n 1, 1) := by decide +kernel
theorem dX6_children_2 : decode cX6_children 2 = .ok (.invokevirtual 66, 3) := by decide +kernel
theorem dX6_children_5 : decode cX6_children 5 = .ok (.astore_n 2, 1) := by decide +kernel
theorem dX6_children_6 : decode cX6_children 6 = .ok (.iconst 0, 1) := by decide +kernel
theorem dX6_children_7 : decode cX6_children 7 = .ok (.istore_n 3, 1) := by decide +kernel
theorem dX6_children_8 : decode cX6_children 8 = .ok (.iconst 0, 1) := by decide +kernel
theorem dX6_children_9 : decode cX6_children 9 = .ok (.istore 4, 2) := by decide +kernel
theorem dX6_children_11 : decode cX6_children 11 = .ok (.iload 4, 2) := by decide +kernel
theorem dX6_children_13 : decode cX6_children 13 = .ok (.bipush 32, 2) := by decide +kernel
theorem dX6_children_15 : decode cX6_children 15 = .ok (.if_icmp .ge 30, 3) := by decide +kernel
theorem dX6_children_18 : decode cX6_children 18 = .ok (.aload_n 0, 1) := by decide +kernel
theorem dX6_children_19 : decode cX6_children 19 = .ok (.getfield 11, 3) := by decide +kernel
theorem dX6_children_22 : decode cX6_children 22 = .ok (.iload 4, 2) := by decide +kernel
theorem dX6_children_24 : decode cX6_children 24 = .ok (.aaload, 1) := by decide +kernel
theorem dX6_children_25 : decode cX6_children 25 = .ok (.getfield 96, 3) := by decide +kernel
theorem dX6_children_28 : decode cX6_children 28 = .ok (.aload_n 2, 1) := by decide +kernel
theorem dX6_children_29 : decode cX6_children 29 = .ok (.if_acmp .ne 10, 3) := by decide +kernel
theorem dX6_children_32 : decode cX6_children 32 = .ok (.iload_n 3, 1) := by decide +kernel
theorem dX6_children_33 : decode cX6_children 33 = .ok (.iconst 1, 1) := by decide +kernel
theorem dX6_children_34 : decode cX6_children 34 = .ok (.iload 4, 2) := by decide +kernel
theorem dX6_children_36 : decode cX6_children 36 = .ok (.ishl, 1) := by decide +kernel
theorem dX6_children_37 : decode cX6_children 37 = .ok (.ior, 1) := by decide +kernel
theorem dX6_children_38 : decode cX6_children 38 = .ok (.istore_n 3, 1) := by decide +kernel
theorem dX6_children_39 : decode cX6_children 39 = .ok (.iinc 4 1, 3) := by decide +kernel
theorem dX6_children_42 : decode cX6_children 42 = .ok (.goto (-31), 3) := by decide +kernel
theorem dX6_children_45 : decode cX6_children 45 = .ok (.iload_n 3, 1) := by decide +kernel
theorem dX6_children_46 : decode cX6_children 46 = .ok (.ireturn, 1) := by decide +kernel
set_option maxRecDepth 20000 in
theorem ggX6_add_X6_entityOf : GoodIn wsX6_add wsX6_entityOf := goodIn_ca (goodIn_r _ [8, 9, 10, 11, 12, 13, 7, 14, 15, 16, 17, 18, 19, 20, 21, 22, 182, 183, 184, 185, 186, 187, 176, 177, 178, 179, 180, 181] (by decide +kernel) (by decide +kernel)) (goodIn_sub (fun _ h => List.mem_cons_of_mem _ (List.mem_append_left _ (List.mem_append_right _ h))) (by decide +kernel))
set_option maxRecDepth 20000 in
theorem gX6_add_X6_entityOf : GoodIn wsX6_add (wsV RX6 66 RX6 yX6_entityOf wsX6_entityOf) := goodIn_app (goodIn_of _ (by decide +kernel)) ggX6_add_X6_entityOf
set_option maxRecDepth 20000 in
theorem ggX6_add_X6_refuseNoKind : GoodIn wsX6_add wsX6_refuseNoKind := goodIn_ca (goodIn_r _ [25, 26, 27] (by decide +kernel) (by decide +kernel)) (goodIn_sub (fun _ h => List.mem_cons_of_mem _ (List.mem_append_right _ h)) (by decide +kernel))
set_option maxRecDepth 20000 in
theorem gX6_add_X6_refuseNoKind : GoodIn wsX6_add (va_wsS RX6 107 yX6_refuseNoKind wsX6_refuseNoKind) := goodIn_app (goodIn_of _ (by decide +kernel)) ggX6_add_X6_refuseNoKind
set_option maxRecDepth 20000 in
theorem ggX6_add_X1_has : GoodIn wsX6_add wsX1_has := goodIn_r _ [31, 32, 176, 177, 178, 179, 180, 181] (by decide +kernel) (by decide +kernel)
set_option maxRecDepth 20000 in
theorem gX6_add_X1_has : GoodIn wsX6_add (wsV RX6 110 RX1 yX1_has wsX1_has) := goodIn_app (goodIn_of _ (by decide +kernel)) ggX6_add_X1_has
set_option maxRecDepth 20000 in
theorem ggX6_add_X6_refuseDuringWalk : GoodIn wsX6_add wsX6_refuseDuringWalk := goodIn_ca (goodIn_r _ [36, 1, 2, 37, 182, 183, 184, 185, 186, 187] (by decide +kernel) (by decide +kernel)) (goodIn_sub (fun _ h => List.mem_cons_of_mem _ (List.mem_append_left _ (List.mem_append_left _ (List.mem_append_right _ h)))) (by decide +kernel))
set_option maxRecDepth 20000 in
theorem gX6_add_X6_refuseDuringWalk : GoodIn wsX6_add (wsV RX6 39 RX6 yX6_refuseDuringWalk wsX6_refuseDuringWalk) := goodIn_app (goodIn_of _ (by decide +kernel)) ggX6_add_X6_refuseDuringWalk
set_option maxRecDepth 20000 in
theorem ggX6_add_X6_moveTo : GoodIn wsX6_add wsX6_moveTo := goodIn_r _ [41, 42, 43, 44, 7, 45, 46, 47, 48, 49, 50, 51, 52, 53, 54, 55, 56, 57, 58, 59, 60, 61, 62, 63, 64, 65, 66, 67, 68, 69, 70, 71, 72, 73, 74, 75, 76, 77, 78, 79, 80, 81, 82, 83, 84, 85, 86, 87, 88, 89, 90, 91, 92, 93, 94, 95, 96, 97, 98, 99, 100, 101, 102, 103, 104, 105, 106, 107, 108, 109, 110, 111, 112, 113, 114, 115, 116, 117, 118, 119, 120, 121, 122, 123, 124, 125, 126, 127, 128, 129, 130, 131, 132, 133, 134, 135, 136, 137, 138, 139, 140, 141, 142, 143, 144, 145, 146, 147, 148, 149, 150, 151, 152, 153, 154, 155, 156, 157, 158, 159, 160, 161, 162, 163, 164, 165, 166, 167, 168, 169, 176, 177, 178, 179, 180, 181, 188, 189, 182, 183, 184, 185, 186, 187, 190, 191, 192] (by decide +kernel) (by decide +kernel)
set_option maxRecDepth 20000 in
theorem gX6_add_X6_moveTo : GoodIn wsX6_add (wsV RX6 120 RX6 yX6_moveTo wsX6_moveTo) := goodIn_app (goodIn_of _ (by decide +kernel)) ggX6_add_X6_moveTo
set_option maxRecDepth 20000 in
theorem ggX6_add_X1_put : GoodIn wsX6_add wsX1_put := goodIn_r _ [173, 174, 175, 176, 177, 178, 179, 180, 181] (by decide +kernel) (by decide +kernel)
set_option maxRecDepth 20000 in
theorem gX6_add_X1_put : GoodIn wsX6_add (wsV RX6 124 RX1 yX1_put wsX1_put) := goodIn_app (goodIn_of _ (by decide +kernel)) ggX6_add_X1_put
theorem dX6_add_0 : decode cX6_add 0 = .ok (.aload_n 0, 1) := by decide +kernel
theorem dX6_add_1 : decode cX6_add 1 = .ok (.iload_n 1, 1) := by decide +kernel
theorem dX6_add_2 : decode cX6_add 2 = .ok (.invokevirtual 66, 3) := by decide +kernel
theorem dX6_add_5 : decode cX6_add 5 = .ok (.astore 4, 2) := by decide +kernel
theorem dX6_add_7 : decode cX6_add 7 = .ok (.iload_n 2, 1) := by decide +kernel
theorem dX6_add_8 : decode cX6_add 8 = .ok (.invokestatic 107, 3) := by decide +kernel
theorem dX6_add_11 : decode cX6_add 11 = .ok (.aload 4, 2) := by decide +kernel
theorem dX6_add_13 : decode cX6_add 13 = .ok (.iload_n 2, 1) := by decide +kernel
theorem dX6_add_14 : decode cX6_add 14 = .ok (.invokevirtual 110, 3) := by decide +kernel
theorem dX6_add_17 : decode cX6_add 17 = .ok (.ifCond .eq 13, 3) := by decide +kernel
theorem dX6_add_20 : decode cX6_add 20 = .ok (.new 113, 3) := by decide +kernel
theorem dX6_add_23 : decode cX6_add 23 = .ok (.dup, 1) := by decide +kernel
theorem dX6_add_24 : decode cX6_add 24 = .ok (.ldc 115, 2) := by decide +kernel
theorem dX6_add_26 : decode cX6_add 26 = .ok (.invokespecial 117, 3) := by decide +kernel
theorem dX6_add_29 : decode cX6_add 29 = .ok (.athrow, 1) := by decide +kernel
theorem dX6_add_30 : decode cX6_add 30 = .ok (.aload_n 0, 1) := by decide +kernel
theorem dX6_add_31 : decode cX6_add 31 = .ok (.invokevirtual 39, 3) := by decide +kernel
theorem dX6_add_34 : decode cX6_add 34 = .ok (.aload_n 0, 1) := by decide +kernel
theorem dX6_add_35 : decode cX6_add 35 = .ok (.aload 4, 2) := by decide +kernel
theorem dX6_add_37 : decode cX6_add 37 = .ok (.aload 4, 2) := by decide +kernel
theorem dX6_add_39 : decode cX6_add 39 = .ok (.getfield 82, 3) := by decide +kernel
theorem dX6_add_42 : decode cX6_add 42 = .ok (.iconst 1, 1) := by decide +kernel
theorem dX6_add_43 : decode cX6_add 43 = .ok (.iload_n 2, 1) := by decide +kernel
theorem dX6_add_44 : decode cX6_add 44 = .ok (.ishl, 1) := by decide +kernel
theorem dX6_add_45 : decode cX6_add 45 = .ok (.ior, 1) := by decide +kernel
theorem dX6_add_46 : decode cX6_add 46 = .ok (.invokevirtual 120, 3) := by decide +kernel
theorem dX6_add_49 : decode cX6_add 49 = .ok (.aload 4, 2) := by decide +kernel
theorem dX6_add_51 : decode cX6_add 51 = .ok (.iload_n 2, 1) := by decide +kernel
theorem dX6_add_52 : decode cX6_add 52 = .ok (.iload_n 3, 1) := by decide +kernel
theorem dX6_add_53 : decode cX6_add 53 = .ok (.aload_n 0, 1) := by decide +kernel
theorem dX6_add_54 : decode cX6_add 54 = .ok (.getfield 32, 3) := by decide +kernel
theorem dX6_add_57 : decode cX6_add 57 = .ok (.invokevirtual 124, 3) := by decide +kernel
theorem dX6_add_60 : decode cX6_add 60 = .ok (.aload 4, 2) := by decide +kernel
theorem dX6_add_62 : decode cX6_add 62 = .ok (.getfield 82, 3) := by decide +kernel
theorem dX6_add_65 : decode cX6_add 65 = .ok (.ireturn, 1) := by decide +kernel
set_option maxRecDepth 20000 in
theorem ggX6_take_X6_ownerOf : GoodIn wsX6_take wsX6_ownerOf := goodIn_ca (goodIn_ca (goodIn_ca (goodIn_r _ [5, 6, 7, 8, 9, 10, 4, 11, 12, 13, 14, 15, 16, 17, 18, 19, 20, 21, 22, 23, 24, 25, 26, 27, 28, 29, 30, 31, 32, 33, 34, 35, 179, 180, 181, 182, 183, 184, 173, 174, 175, 176, 177, 178] (by decide +kernel) (by decide +kernel)) (goodIn_sub (fun _ h => List.mem_cons_of_mem _ (List.mem_append_left _ (List.mem_append_left _ (List.mem_append_right _ h)))) (by decide +kernel))) (goodIn_sub (fun _ h => List.mem_cons_of_mem _ (List.mem_append_left _ (List.mem_append_right _ h))) (by decide +kernel))) (goodIn_sub (fun _ h => List.mem_cons_of_mem _ (List.mem_append_right _ h)) (by decide +kernel))
set_option maxRecDepth 20000 in
theorem gX6_take_X6_ownerOf : GoodIn wsX6_take (wsV RX6 128 RX6 yX6_ownerOf wsX6_ownerOf) := goodIn_app (goodIn_of _ (by decide +kernel)) ggX6_take_X6_ownerOf
set_option maxRecDepth 20000 in
theorem ggX6_take_X6_refuseDuringWalk : GoodIn wsX6_take wsX6_refuseDuringWalk := goodIn_ca (goodIn_r _ [39, 6, 7, 40, 179, 180, 181, 182, 183, 184] (by decide +kernel) (by decide +kernel)) (goodIn_sub (fun _ h => List.mem_cons_of_mem _ (List.mem_append_left _ (List.mem_append_left _ (List.mem_append_right _ h)))) (by decide +kernel))
set_option maxRecDepth 20000 in
theorem gX6_take_X6_refuseDuringWalk : GoodIn wsX6_take (wsV RX6 39 RX6 yX6_refuseDuringWalk wsX6_refuseDuringWalk) := goodIn_app (goodIn_of _ (by decide +kernel)) ggX6_take_X6_refuseDuringWalk
set_option maxRecDepth 20000 in
theorem ggX6_take_X6_moveTo : GoodIn wsX6_take wsX6_moveTo := goodIn_r _ [44, 45, 46, 47, 4, 48, 49, 50, 51, 52, 53, 54, 55, 56, 57, 58, 59, 60, 61, 62, 63, 64, 65, 66, 67, 68, 69, 70, 71, 72, 73, 74, 75, 76, 77, 78, 79, 80, 81, 82, 83, 84, 85, 86, 87, 88, 89, 90, 91, 92, 93, 94, 95, 96, 97, 98, 99, 100, 101, 102, 103, 104, 105, 106, 107, 108, 109, 110, 111, 112, 113, 114, 115, 116, 117, 118, 119, 120, 121, 122, 123, 124, 125, 126, 127, 128, 129, 130, 131, 132, 133, 134, 135, 136, 137, 138, 139, 140, 141, 142, 143, 144, 145, 146, 147, 148, 149, 150, 151, 152, 153, 154, 155, 156, 157, 158, 159, 160, 161, 162, 163, 164, 165, 166, 167, 168, 169, 170, 171, 172, 173, 174, 175, 176, 177, 178, 185, 186, 179, 180, 181, 182, 183, 184, 187, 188, 189] (by decide +kernel) (by decide +kernel)
set_option maxRecDepth 20000 in
theorem gX6_take_X6_moveTo : GoodIn wsX6_take (wsV RX6 120 RX6 yX6_moveTo wsX6_moveTo) := goodIn_app (goodIn_of _ (by decide +kernel)) ggX6_take_X6_moveTo
theorem dX6_take_0 : decode cX6_take 0 = .ok (.aload_n 0, 1) := by decide +kernel
theorem dX6_take_1 : decode cX6_take 1 = .ok (.iload_n 1, 1) := by decide +kernel
theorem dX6_take_2 : decode cX6_take 2 = .ok (.iload_n 2, 1) := by decide +kernel
theorem dX6_take_3 : decode cX6_take 3 = .ok (.invokevirtual 128, 3) := by decide +kernel
theorem dX6_take_6 : decode cX6_take 6 = .ok (.astore_n 3, 1) := by decide +kernel
theorem dX6_take_7 : decode cX6_take 7 = .ok (.aload_n 0, 1) := by decide +kernel
theorem dX6_take_8 : decode cX6_take 8 = .ok (.invokevirtual 39, 3) := by decide +kernel
theorem dX6_take_11 : decode cX6_take 11 = .ok (.aload_n 0, 1) := by decide +kernel
theorem dX6_take_12 : decode cX6_take 12 = .ok (.aload_n 3, 1) := by decide +kernel
theorem dX6_take_13 : decode cX6_take 13 = .ok (.aload_n 3, 1) := by decide +kernel
theorem dX6_take_14 : decode cX6_take 14 = .ok (.getfield 82, 3) := by decide +kernel
theorem dX6_take_17 : decode cX6_take 17 = .ok (.iconst 1, 1) := by decide +kernel
theorem dX6_take_18 : decode cX6_take 18 = .ok (.iload_n 2, 1) := by decide +kernel
theorem dX6_take_19 : decode cX6_take 19 = .ok (.ishl, 1) := by decide +kernel
theorem dX6_take_20 : decode cX6_take 20 = .ok (.iconst (-1), 1) := by decide +kernel
theorem dX6_take_21 : decode cX6_take 21 = .ok (.ixor, 1) := by decide +kernel
theorem dX6_take_22 : decode cX6_take 22 = .ok (.iand, 1) := by decide +kernel
theorem dX6_take_23 : decode cX6_take 23 = .ok (.invokevirtual 120, 3) := by decide +kernel
theorem dX6_take_26 : decode cX6_take 26 = .ok (.aload_n 3, 1) := by decide +kernel
theorem dX6_take_27 : decode cX6_take 27 = .ok (.getfield 132, 3) := by decide +kernel
theorem dX6_take_30 : decode cX6_take 30 = .ok (.iload_n 2, 1) := by decide +kernel
theorem dX6_take_31 : decode cX6_take 31 = .ok (.iaload, 1) := by decide +kernel
theorem dX6_take_32 : decode cX6_take 32 = .ok (.ireturn, 1) := by decide +kernel
set_option maxRecDepth 20000 in
theorem ggX6_set_X6_ownerOf : GoodIn wsX6_set wsX6_ownerOf := goodIn_ca (goodIn_ca (goodIn_ca (goodIn_r _ [6, 7, 8, 9, 10, 11, 5, 12, 13, 14, 15, 16, 17, 18, 19, 20, 21, 22, 23, 24, 25, 26, 27, 28, 29, 30, 31, 32, 33, 34, 35, 36, 49, 50, 51, 52, 53, 54, 43, 44, 45, 46, 47, 48] (by decide +kernel) (by decide +kernel)) (goodIn_sub (fun _ h => List.mem_cons_of_mem _ (List.mem_append_left _ (List.mem_append_left _ (List.mem_append_right _ h)))) (by decide +kernel))) (goodIn_sub (fun _ h => List.mem_cons_of_mem _ (List.mem_append_left _ (List.mem_append_right _ h))) (by decide +kernel))) (goodIn_sub (fun _ h => List.mem_cons_of_mem _ (List.mem_append_right _ h)) (by decide +kernel))
set_option maxRecDepth 20000 in
theorem gX6_set_X6_ownerOf : GoodIn wsX6_set (wsV RX6 128 RX6 yX6_ownerOf wsX6_ownerOf) := goodIn_app (goodIn_of _ (by decide +kernel)) ggX6_set_X6_ownerOf
set_option maxRecDepth 20000 in
theorem ggX6_set_X1_put : GoodIn wsX6_set wsX1_put := goodIn_r _ [40, 41, 42, 43, 44, 45, 46, 47, 48] (by decide +kernel) (by decide +kernel)
set_option maxRecDepth 20000 in
theorem gX6_set_X1_put : GoodIn wsX6_set (wsV RX6 124 RX1 yX1_put wsX1_put) := goodIn_app (goodIn_of _ (by decide +kernel)) ggX6_set_X1_put
theorem dX6_set_0 : decode cX6_set 0 = .ok (.aload_n 0, 1) := by decide +kernel
theorem dX6_set_1 : decode cX6_set 1 = .ok (.iload_n 1, 1) := by decide +kernel
theorem dX6_set_2 : decode cX6_set 2 = .ok (.iload_n 2, 1) := by decide +kernel
theorem dX6_set_3 : decode cX6_set 3 = .ok (.invokevirtual 128, 3) := by decide +kernel
theorem dX6_set_6 : decode cX6_set 6 = .ok (.astore 4, 2) := by decide +kernel
theorem dX6_set_8 : decode cX6_set 8 = .ok (.aload 4, 2) := by decide +kernel
theorem dX6_set_10 : decode cX6_set 10 = .ok (.getfield 132, 3) := by decide +kernel
theorem dX6_set_13 : decode cX6_set 13 = .ok (.iload_n 2, 1) := by decide +kernel
theorem dX6_set_14 : decode cX6_set 14 = .ok (.iaload, 1) := by decide +kernel
theorem dX6_set_15 : decode cX6_set 15 = .ok (.istore 5, 2) := by decide +kernel
theorem dX6_set_17 : decode cX6_set 17 = .ok (.aload 4, 2) := by decide +kernel
theorem dX6_set_19 : decode cX6_set 19 = .ok (.iload_n 2, 1) := by decide +kernel
theorem dX6_set_20 : decode cX6_set 20 = .ok (.iload_n 3, 1) := by decide +kernel
theorem dX6_set_21 : decode cX6_set 21 = .ok (.aload_n 0, 1) := by decide +kernel
theorem dX6_set_22 : decode cX6_set 22 = .ok (.getfield 32, 3) := by decide +kernel
theorem dX6_set_25 : decode cX6_set 25 = .ok (.invokevirtual 124, 3) := by decide +kernel
theorem dX6_set_28 : decode cX6_set 28 = .ok (.iload 5, 2) := by decide +kernel
theorem dX6_set_30 : decode cX6_set 30 = .ok (.ireturn, 1) := by decide +kernel
set_option maxRecDepth 20000 in
theorem ggX6_value_X6_ownerOf : GoodIn wsX6_value wsX6_ownerOf := goodIn_ca (goodIn_ca (goodIn_ca (goodIn_r _ [5, 6, 7, 8, 9, 10, 4, 11, 12, 13, 14, 15, 16, 17, 18, 19, 20, 21, 22, 23, 24, 25, 26, 27, 28, 29, 30, 31, 32, 33, 34, 35, 42, 43, 44, 45, 46, 47, 36, 37, 38, 39, 40, 41] (by decide +kernel) (by decide +kernel)) (goodIn_sub (fun _ h => List.mem_cons_of_mem _ (List.mem_append_left _ (List.mem_append_left _ (List.mem_append_right _ h)))) (by decide +kernel))) (goodIn_sub (fun _ h => List.mem_cons_of_mem _ (List.mem_append_left _ (List.mem_append_right _ h))) (by decide +kernel))) (goodIn_sub (fun _ h => List.mem_cons_of_mem _ (List.mem_append_right _ h)) (by decide +kernel))
set_option maxRecDepth 20000 in
theorem gX6_value_X6_ownerOf : GoodIn wsX6_value (wsV RX6 128 RX6 yX6_ownerOf wsX6_ownerOf) := goodIn_app (goodIn_of _ (by decide +kernel)) ggX6_value_X6_ownerOf
theorem dX6_value_0 : decode cX6_value 0 = .ok (.aload_n 0, 1) := by decide +kernel
theorem dX6_value_1 : decode cX6_value 1 = .ok (.iload_n 1, 1) := by decide +kernel
theorem dX6_value_2 : decode cX6_value 2 = .ok (.iload_n 2, 1) := by decide +kernel
theorem dX6_value_3 : decode cX6_value 3 = .ok (.invokevirtual 128, 3) := by decide +kernel
theorem dX6_value_6 : decode cX6_value 6 = .ok (.getfield 132, 3) := by decide +kernel
theorem dX6_value_9 : decode cX6_value 9 = .ok (.iload_n 2, 1) := by decide +kernel
theorem dX6_value_10 : decode cX6_value 10 = .ok (.iaload, 1) := by decide +kernel
theorem dX6_value_11 : decode cX6_value 11 = .ok (.ireturn, 1) := by decide +kernel
set_option maxRecDepth 20000 in
theorem ggX6_mark_X6_ownerOf : GoodIn wsX6_mark wsX6_ownerOf := goodIn_ca (goodIn_ca (goodIn_ca (goodIn_r _ [5, 6, 7, 8, 9, 10, 4, 11, 12, 13, 14, 15, 16, 17, 18, 19, 20, 21, 22, 23, 24, 25, 26, 27, 28, 29, 30, 31, 32, 33, 34, 35, 42, 43, 44, 45, 46, 47, 36, 37, 38, 39, 40, 41] (by decide +kernel) (by decide +kernel)) (goodIn_sub (fun _ h => List.mem_cons_of_mem _ (List.mem_append_left _ (List.mem_append_left _ (List.mem_append_right _ h)))) (by decide +kernel))) (goodIn_sub (fun _ h => List.mem_cons_of_mem _ (List.mem_append_left _ (List.mem_append_right _ h))) (by decide +kernel))) (goodIn_sub (fun _ h => List.mem_cons_of_mem _ (List.mem_append_right _ h)) (by decide +kernel))
set_option maxRecDepth 20000 in
theorem gX6_mark_X6_ownerOf : GoodIn wsX6_mark (wsV RX6 128 RX6 yX6_ownerOf wsX6_ownerOf) := goodIn_app (goodIn_of _ (by decide +kernel)) ggX6_mark_X6_ownerOf
theorem dX6_mark_0 : decode cX6_mark 0 = .ok (.aload_n 0, 1) := by decide +kernel
theorem dX6_mark_1 : decode cX6_mark 1 = .ok (.iload_n 1, 1) := by decide +kernel
theorem dX6_mark_2 : decode cX6_mark 2 = .ok (.iload_n 2, 1) := by decide +kernel
theorem dX6_mark_3 : decode cX6_mark 3 = .ok (.invokevirtual 128, 3) := by decide +kernel
theorem dX6_mark_6 : decode cX6_mark 6 = .ok (.getfield 136, 3) := by decide +kernel
theorem dX6_mark_9 : decode cX6_mark 9 = .ok (.iload_n 2, 1) := by decide +kernel
theorem dX6_mark_10 : decode cX6_mark 10 = .ok (.iaload, 1) := by decide +kernel
theorem dX6_mark_11 : decode cX6_mark 11 = .ok (.ireturn, 1) := by decide +kernel
set_option maxRecDepth 20000 in
theorem ggX6_kinds_X6_entityOf : GoodIn wsX6_kinds wsX6_entityOf := goodIn_ca (goodIn_r _ [5, 6, 7, 8, 9, 10, 4, 11, 12, 13, 14, 15, 16, 17, 18, 19, 26, 27, 28, 29, 30, 31, 20, 21, 22, 23, 24, 25] (by decide +kernel) (by decide +kernel)) (goodIn_sub (fun _ h => List.mem_cons_of_mem _ (List.mem_append_right _ h)) (by decide +kernel))
set_option maxRecDepth 20000 in
theorem gX6_kinds_X6_entityOf : GoodIn wsX6_kinds (wsV RX6 66 RX6 yX6_entityOf wsX6_entityOf) := goodIn_app (goodIn_of _ (by decide +kernel)) ggX6_kinds_X6_entityOf
theorem dX6_kinds_0 : decode cX6_kinds 0 = .ok (.aload_n 0, 1) := by decide +kernel
theorem dX6_kinds_1 : decode cX6_kinds 1 = .ok (.iload_n 1, 1) := by decide +kernel
theorem dX6_kinds_2 : decode cX6_kinds 2 = .ok (.invokevirtual 66, 3) := by decide +kernel
theorem dX6_kinds_5 : decode cX6_kinds 5 = .ok (.getfield 82, 3) := by decide +kernel
theorem dX6_kinds_8 : decode cX6_kinds 8 = .ok (.ireturn, 1) := by decide +kernel
set_option maxRecDepth 20000 in
theorem ggX6_rows_Jx4a65c_size_8abf5 : GoodIn wsX6_rows wsJx4a65c_size_8abf5 := goodIn_r _ [6, 7, 14, 15, 16] (by decide +kernel) (by decide +kernel)
set_option maxRecDepth 20000 in
theorem gX6_rows_Jx4a65c_size_8abf5 : GoodIn wsX6_rows (wsV RX6 74 RJx4a65c yJx4a65c_size_8abf5 wsJx4a65c_size_8abf5) := goodIn_app (goodIn_of _ (by decide +kernel)) ggX6_rows_Jx4a65c_size_8abf5
theorem dX6_rows_0 : decode cX6_rows 0 = .ok (.aload_n 0, 1) := by decide +kernel
theorem dX6_rows_1 : decode cX6_rows 1 = .ok (.getfield 18, 3) := by decide +kernel
theorem dX6_rows_4 : decode cX6_rows 4 = .ok (.invokevirtual 74, 3) := by decide +kernel
theorem dX6_rows_7 : decode cX6_rows 7 = .ok (.ireturn, 1) := by decide +kernel
set_option maxRecDepth 20000 in
theorem ggX6_setOf_X6_rowNumbered : GoodIn wsX6_setOf wsX6_rowNumbered := goodIn_ca (goodIn_r _ [5, 6, 7, 8, 9, 10, 11, 12, 13, 14, 15, 16, 17, 18, 19, 20, 21, 22, 23, 24, 25, 26, 27, 28, 29, 30, 31, 32, 35, 36, 37, 38, 39, 40, 41, 42, 43] (by decide +kernel) (by decide +kernel)) (goodIn_sub (fun _ h => List.mem_cons_of_mem _ (List.mem_append_right _ h)) (by decide +kernel))
set_option maxRecDepth 20000 in
theorem gX6_setOf_X6_rowNumbered : GoodIn wsX6_setOf (wsV RX6 139 RX6 yX6_rowNumbered wsX6_rowNumbered) := goodIn_app (goodIn_of _ (by decide +kernel)) ggX6_setOf_X6_rowNumbered
theorem dX6_setOf_0 : decode cX6_setOf 0 = .ok (.aload_n 0, 1) := by decide +kernel
theorem dX6_setOf_1 : decode cX6_setOf 1 = .ok (.iload_n 1, 1) := by decide +kernel
theorem dX6_setOf_2 : decode cX6_setOf 2 = .ok (.invokevirtual 139, 3) := by decide +kernel
theorem dX6_setOf_5 : decode cX6_setOf 5 = .ok (.getfield 142, 3) := by decide +kernel
theorem dX6_setOf_8 : decode cX6_setOf 8 = .ok (.ireturn, 1) := by decide +kernel
set_option maxRecDepth 20000 in
theorem ggX6_size_X6_rowNumbered : GoodIn wsX6_size wsX6_rowNumbered := goodIn_ca (goodIn_r _ [5, 6, 7, 8, 9, 10, 11, 12, 13, 14, 15, 16, 17, 18, 19, 20, 21, 22, 23, 24, 25, 26, 27, 28, 29, 30, 31, 32, 35, 36, 37, 38, 39, 40, 41, 42, 43] (by decide +kernel) (by decide +kernel)) (goodIn_sub (fun _ h => List.mem_cons_of_mem _ (List.mem_append_right _ h)) (by decide +kernel))
set_option maxRecDepth 20000 in
theorem gX6_size_X6_rowNumbered : GoodIn wsX6_size (wsV RX6 139 RX6 yX6_rowNumbered wsX6_rowNumbered) := goodIn_app (goodIn_of _ (by decide +kernel)) ggX6_size_X6_rowNumbered
set_option maxRecDepth 20000 in
theorem ggX6_size_Jx4a65c_size_8abf5 : GoodIn wsX6_size wsJx4a65c_size_8abf5 := goodIn_r _ [14, 15, 41, 42, 43] (by decide +kernel) (by decide +kernel)
set_option maxRecDepth 20000 in
theorem gX6_size_Jx4a65c_size_8abf5 : GoodIn wsX6_size (wsV RX6 74 RJx4a65c yJx4a65c_size_8abf5 wsJx4a65c_size_8abf5) := goodIn_app (goodIn_of _ (by decide +kernel)) ggX6_size_Jx4a65c_size_8abf5
theorem dX6_size_0 : decode cX6_size 0 = .ok (.aload_n 0, 1) := by decide +kernel
theorem dX6_size_1 : decode cX6_size 1 = .ok (.iload_n 1, 1) := by decide +kernel
theorem dX6_size_2 : decode cX6_size 2 = .ok (.invokevirtual 139, 3) := by decide +kernel
theorem dX6_size_5 : decode cX6_size 5 = .ok (.getfield 54, 3) := by decide +kernel
theorem dX6_size_8 : decode cX6_size 8 = .ok (.invokevirtual 74, 3) := by decide +kernel
theorem dX6_size_11 : decode cX6_size 11 = .ok (.ireturn, 1) := by decide +kernel
set_option maxRecDepth 20000 in
theorem ggX6_entityAt_X6_rowNumbered : GoodIn wsX6_entityAt wsX6_rowNumbered := goodIn_ca (goodIn_r _ [5, 6, 7, 8, 9, 10, 11, 12, 13, 14, 15, 16, 17, 18, 19, 20, 21, 22, 23, 24, 25, 26, 27, 28, 29, 30, 31, 32, 39, 40, 41, 42, 43, 44, 45, 46, 47] (by decide +kernel) (by decide +kernel)) (goodIn_sub (fun _ h => List.mem_cons_of_mem _ (List.mem_append_right _ h)) (by decide +kernel))
set_option maxRecDepth 20000 in
theorem gX6_entityAt_X6_rowNumbered : GoodIn wsX6_entityAt (wsV RX6 139 RX6 yX6_rowNumbered wsX6_rowNumbered) := goodIn_app (goodIn_of _ (by decide +kernel)) ggX6_entityAt_X6_rowNumbered
set_option maxRecDepth 20000 in
theorem ggX6_entityAt_X6_handleAt : GoodIn wsX6_entityAt wsX6_handleAt := goodIn_ca (goodIn_r _ [35, 6, 7, 36, 10, 11, 12, 13, 14, 15, 16, 17, 18, 19, 20, 21, 22, 23, 24, 25, 26, 27, 28, 29, 30, 31, 32, 48, 49, 50, 51, 52, 53, 45, 46, 47] (by decide +kernel) (by decide +kernel)) (goodIn_sub (fun _ h => List.mem_cons_of_mem _ (List.mem_append_right _ h)) (by decide +kernel))
set_option maxRecDepth 20000 in
theorem gX6_entityAt_X6_handleAt : GoodIn wsX6_entityAt (va_wsS RX6 143 yX6_handleAt wsX6_handleAt) := goodIn_app (goodIn_of _ (by decide +kernel)) ggX6_entityAt_X6_handleAt
theorem dX6_entityAt_0 : decode cX6_entityAt 0 = .ok (.aload_n 0, 1) := by decide +kernel
theorem dX6_entityAt_1 : decode cX6_entityAt 1 = .ok (.iload_n 1, 1) := by decide +kernel
theorem dX6_entityAt_2 : decode cX6_entityAt 2 = .ok (.invokevirtual 139, 3) := by decide +kernel
theorem dX6_entityAt_5 : decode cX6_entityAt 5 = .ok (.getfield 54, 3) := by decide +kernel
theorem dX6_entityAt_8 : decode cX6_entityAt 8 = .ok (.iload_n 2, 1) := by decide +kernel
theorem dX6_entityAt_9 : decode cX6_entityAt 9 = .ok (.invokestatic 143, 3) := by decide +kernel
theorem dX6_entityAt_12 : decode cX6_entityAt 12 = .ok (.ireturn, 1) := by decide +kernel
set_option maxRecDepth 20000 in
theorem ggX6_question_X6_refuseNoSet : GoodIn wsX6_question wsX6_refuseNoSet := goodIn_ca (goodIn_r _ [10, 11, 12] (by decide +kernel) (by decide +kernel)) (goodIn_sub (fun _ h => List.mem_cons_of_mem _ (List.mem_append_right _ h)) (by decide +kernel))
set_option maxRecDepth 20000 in
theorem gX6_question_X6_refuseNoSet : GoodIn wsX6_question (va_wsS RX6 147 yX6_refuseNoSet wsX6_refuseNoSet) := goodIn_app (goodIn_of _ (by decide +kernel)) ggX6_question_X6_refuseNoSet
set_option maxRecDepth 20000 in
theorem ggX6_question_Jx4a65c_size_8abf5 : GoodIn wsX6_question wsJx4a65c_size_8abf5 := goodIn_r _ [17, 18, 91, 92, 93] (by decide +kernel) (by decide +kernel)
set_option maxRecDepth 20000 in
theorem gX6_question_Jx4a65c_size_8abf5 : GoodIn wsX6_question (wsV RX6 74 RJx4a65c yJx4a65c_size_8abf5 wsJx4a65c_size_8abf5) := goodIn_app (goodIn_of _ (by decide +kernel)) ggX6_question_Jx4a65c_size_8abf5
set_option maxRecDepth 20000 in
theorem ggX6_question_X2_init : GoodIn wsX6_question wsX2_init := goodIn_r _ [21, 22, 23, 24, 25, 26, 27, 88, 89, 90] (by decide +kernel) (by decide +kernel)
set_option maxRecDepth 20000 in
theorem gX6_question_X2_init : GoodIn wsX6_question (wsX2_init) := ggX6_question_X2_init
set_option maxRecDepth 20000 in
theorem ggX6_question_Jx4a65c_add_9ea2d : GoodIn wsX6_question wsJx4a65c_add_9ea2d := goodIn_r _ [31, 32, 33, 34, 18, 35, 36, 37, 16, 38, 39, 40, 41, 42, 43, 44, 45, 46, 47, 48, 49, 50, 51, 52, 53, 54, 55, 56, 57, 58, 59, 60, 61, 62, 63, 64, 65, 66, 67, 68, 69, 70, 71, 72, 73, 74, 75, 76, 77, 78, 79, 80, 81, 91, 92, 93] (by decide +kernel) (by decide +kernel)
set_option maxRecDepth 20000 in
theorem gX6_question_Jx4a65c_add_9ea2d : GoodIn wsX6_question (wsV RX6 59 RJx4a65c yJx4a65c_add_9ea2d wsJx4a65c_add_9ea2d) := goodIn_app (goodIn_of _ (by decide +kernel)) ggX6_question_Jx4a65c_add_9ea2d
theorem dX6_question_0 : decode cX6_question 0 = .ok (.iload_n 1, 1) := by decide +kernel
theorem dX6_question_1 : decode cX6_question 1 = .ok (.invokestatic 147, 3) := by decide +kernel
theorem dX6_question_4 : decode cX6_question 4 = .ok (.iload_n 2, 1) := by decide +kernel
theorem dX6_question_5 : decode cX6_question 5 = .ok (.invokestatic 147, 3) := by decide +kernel
theorem dX6_question_8 : decode cX6_question 8 = .ok (.iload_n 3, 1) := by decide +kernel
theorem dX6_question_9 : decode cX6_question 9 = .ok (.invokestatic 147, 3) := by decide +kernel
theorem dX6_question_12 : decode cX6_question 12 = .ok (.aload_n 0, 1) := by decide +kernel
theorem dX6_question_13 : decode cX6_question 13 = .ok (.getfield 22, 3) := by decide +kernel
theorem dX6_question_16 : decode cX6_question 16 = .ok (.invokevirtual 74, 3) := by decide +kernel
theorem dX6_question_19 : decode cX6_question 19 = .ok (.bipush 8, 2) := by decide +kernel
theorem dX6_question_21 : decode cX6_question 21 = .ok (.if_icmp .lt 13, 3) := by decide +kernel
theorem dX6_question_24 : decode cX6_question 24 = .ok (.new 113, 3) := by decide +kernel
theorem dX6_question_27 : decode cX6_question 27 = .ok (.dup, 1) := by decide +kernel
theorem dX6_question_28 : decode cX6_question 28 = .ok (.ldc 150, 2) := by decide +kernel
theorem dX6_question_30 : decode cX6_question 30 = .ok (.invokespecial 117, 3) := by decide +kernel
theorem dX6_question_33 : decode cX6_question 33 = .ok (.athrow, 1) := by decide +kernel
theorem dX6_question_34 : decode cX6_question 34 = .ok (.aload_n 0, 1) := by decide +kernel
theorem dX6_question_35 : decode cX6_question 35 = .ok (.getfield 22, 3) := by decide +kernel
theorem dX6_question_38 : decode cX6_question 38 = .ok (.new 152, 3) := by decide +kernel
theorem dX6_question_41 : decode cX6_question 41 = .ok (.dup, 1) := by decide +kernel
theorem dX6_question_42 : decode cX6_question 42 = .ok (.iload_n 1, 1) := by decide +kernel
theorem dX6_question_43 : decode cX6_question 43 = .ok (.iload_n 2, 1) := by decide +kernel
theorem dX6_question_44 : decode cX6_question 44 = .ok (.iload_n 3, 1) := by decide +kernel
theorem dX6_question_45 : decode cX6_question 45 = .ok (.invokespecial 154, 3) := by decide +kernel
theorem dX6_question_48 : decode cX6_question 48 = .ok (.invokevirtual 59, 3) := by decide +kernel
theorem dX6_question_51 : decode cX6_question 51 = .ok (.pop, 1) := by decide +kernel
theorem dX6_question_52 : decode cX6_question 52 = .ok (.aload_n 0, 1) := by decide +kernel
theorem dX6_question_53 : decode cX6_question 53 = .ok (.getfield 22, 3) := by decide +kernel
theorem dX6_question_56 : decode cX6_question 56 = .ok (.invokevirtual 74, 3) := by decide +kernel
theorem dX6_question_59 : decode cX6_question 59 = .ok (.iconst 1, 1) := by decide +kernel
theorem dX6_question_60 : decode cX6_question 60 = .ok (.isub, 1) := by decide +kernel
theorem dX6_question_61 : decode cX6_question 61 = .ok (.ireturn, 1) := by decide +kernel
set_option maxRecDepth 20000 in
theorem ggX6_answers_X6_questionNumbered : GoodIn wsX6_answers wsX6_questionNumbered := goodIn_ca (goodIn_r _ [7, 8, 9, 10, 11, 12, 13, 14, 15, 16, 17, 18, 19, 20, 21, 22, 23, 24, 25, 26, 27, 28, 29, 30, 31, 32, 33, 34, 43, 44, 45, 46, 47, 48, 51, 52, 53] (by decide +kernel) (by decide +kernel)) (goodIn_sub (fun _ h => List.mem_cons_of_mem _ (List.mem_append_right _ h)) (by decide +kernel))
set_option maxRecDepth 20000 in
theorem gX6_answers_X6_questionNumbered : GoodIn wsX6_answers (wsV RX6 156 RX6 yX6_questionNumbered wsX6_questionNumbered) := goodIn_app (goodIn_of _ (by decide +kernel)) ggX6_answers_X6_questionNumbered
set_option maxRecDepth 20000 in
theorem ggX6_answers_Jx4a65c_size_8abf5 : GoodIn wsX6_answers wsJx4a65c_size_8abf5 := goodIn_r _ [16, 17, 51, 52, 53] (by decide +kernel) (by decide +kernel)
set_option maxRecDepth 20000 in
theorem gX6_answers_Jx4a65c_size_8abf5 : GoodIn wsX6_answers (wsV RX6 74 RJx4a65c yJx4a65c_size_8abf5 wsJx4a65c_size_8abf5) := goodIn_app (goodIn_of _ (by decide +kernel)) ggX6_answers_Jx4a65c_size_8abf5
set_option maxRecDepth 20000 in
theorem ggX6_answers_Jx4a65c_get_915e3 : GoodIn wsX6_answers wsJx4a65c_get_915e3 := goodIn_r _ [21, 17, 22, 23, 24, 25, 26, 27, 28, 29, 30, 31, 32, 15, 33, 34, 51, 52, 53] (by decide +kernel) (by decide +kernel)
set_option maxRecDepth 20000 in
theorem gX6_answers_Jx4a65c_get_915e3 : GoodIn wsX6_answers (wsV RX6 78 RJx4a65c yJx4a65c_get_915e3 wsJx4a65c_get_915e3) := goodIn_app (goodIn_of _ (by decide +kernel)) ggX6_answers_Jx4a65c_get_915e3
set_option maxRecDepth 20000 in
theorem ggX6_answers_X2_isAnsweredBy : GoodIn wsX6_answers wsX2_isAnsweredBy := goodIn_r _ [39, 40, 41, 42, 54, 55, 56] (by decide +kernel) (by decide +kernel)
set_option maxRecDepth 20000 in
theorem gX6_answers_X2_isAnsweredBy : GoodIn wsX6_answers (wsV RX6 160 RX2 yX2_isAnsweredBy wsX2_isAnsweredBy) := goodIn_app (goodIn_of _ (by decide +kernel)) ggX6_answers_X2_isAnsweredBy
theorem dX6_answers_0 : decode cX6_answers 0 = .ok (.aload_n 0, 1) := by decide +kernel
theorem dX6_answers_1 : decode cX6_answers 1 = .ok (.iload_n 1, 1) := by decide +kernel
theorem dX6_answers_2 : decode cX6_answers 2 = .ok (.invokevirtual 156, 3) := by decide +kernel
theorem dX6_answers_5 : decode cX6_answers 5 = .ok (.astore_n 2, 1) := by decide +kernel
theorem dX6_answers_6 : decode cX6_answers 6 = .ok (.iconst 0, 1) := by decide +kernel
theorem dX6_answers_7 : decode cX6_answers 7 = .ok (.istore_n 3, 1) := by decide +kernel
theorem dX6_answers_8 : decode cX6_answers 8 = .ok (.iconst 0, 1) := by decide +kernel
theorem dX6_answers_9 : decode cX6_answers 9 = .ok (.istore 4, 2) := by decide +kernel
theorem dX6_answers_11 : decode cX6_answers 11 = .ok (.iload 4, 2) := by decide +kernel
theorem dX6_answers_13 : decode cX6_answers 13 = .ok (.aload_n 0, 1) := by decide +kernel
theorem dX6_answers_14 : decode cX6_answers 14 = .ok (.getfield 18, 3) := by decide +kernel
theorem dX6_answers_17 : decode cX6_answers 17 = .ok (.invokevirtual 74, 3) := by decide +kernel
theorem dX6_answers_20 : decode cX6_answers 20 = .ok (.if_icmp .ge 46, 3) := by decide +kernel
theorem dX6_answers_23 : decode cX6_answers 23 = .ok (.aload_n 0, 1) := by decide +kernel
theorem dX6_answers_24 : decode cX6_answers 24 = .ok (.getfield 18, 3) := by decide +kernel
theorem dX6_answers_27 : decode cX6_answers 27 = .ok (.iload 4, 2) := by decide +kernel
theorem dX6_answers_29 : decode cX6_answers 29 = .ok (.invokevirtual 78, 3) := by decide +kernel
theorem dX6_answers_32 : decode cX6_answers 32 = .ok (.checkcast 55, 3) := by decide +kernel
theorem dX6_answers_35 : decode cX6_answers 35 = .ok (.astore 5, 2) := by decide +kernel
theorem dX6_answers_37 : decode cX6_answers 37 = .ok (.aload_n 2, 1) := by decide +kernel
theorem dX6_answers_38 : decode cX6_answers 38 = .ok (.aload 5, 2) := by decide +kernel
theorem dX6_answers_40 : decode cX6_answers 40 = .ok (.getfield 142, 3) := by decide +kernel
theorem dX6_answers_43 : decode cX6_answers 43 = .ok (.invokevirtual 160, 3) := by decide +kernel
theorem dX6_answers_46 : decode cX6_answers 46 = .ok (.ifCond .eq 14, 3) := by decide +kernel
theorem dX6_answers_49 : decode cX6_answers 49 = .ok (.iload_n 3, 1) := by decide +kernel
theorem dX6_answers_50 : decode cX6_answers 50 = .ok (.aload 5, 2) := by decide +kernel
theorem dX6_answers_52 : decode cX6_answers 52 = .ok (.getfield 54, 3) := by decide +kernel
theorem dX6_answers_55 : decode cX6_answers 55 = .ok (.invokevirtual 74, 3) := by decide +kernel
theorem dX6_answers_58 : decode cX6_answers 58 = .ok (.iadd, 1) := by decide +kernel
theorem dX6_answers_59 : decode cX6_answers 59 = .ok (.istore_n 3, 1) := by decide +kernel
theorem dX6_answers_60 : decode cX6_answers 60 = .ok (.iinc 4 1, 3) := by decide +kernel
theorem dX6_answers_63 : decode cX6_answers 63 = .ok (.goto (-52), 3) := by decide +kernel
theorem dX6_answers_66 : decode cX6_answers 66 = .ok (.iload_n 3, 1) := by decide +kernel
theorem dX6_answers_67 : decode cX6_answers 67 = .ok (.ireturn, 1) := by decide +kernel
set_option maxRecDepth 20000 in
theorem ggX6_answersOneByOne_X6_questionNumbered : GoodIn wsX6_answersOneByOne wsX6_questionNumbered := goodIn_ca (goodIn_r _ [6, 7, 8, 9, 10, 11, 12, 13, 14, 15, 16, 17, 18, 19, 20, 21, 22, 23, 24, 25, 26, 27, 28, 29, 30, 31, 32, 33, 42, 43, 44, 45, 46, 47, 54, 55, 56] (by decide +kernel) (by decide +kernel)) (goodIn_sub (fun _ h => List.mem_cons_of_mem _ (List.mem_append_right _ h)) (by decide +kernel))
set_option maxRecDepth 20000 in
theorem gX6_answersOneByOne_X6_questionNumbered : GoodIn wsX6_answersOneByOne (wsV RX6 156 RX6 yX6_questionNumbered wsX6_questionNumbered) := goodIn_app (goodIn_of _ (by decide +kernel)) ggX6_answersOneByOne_X6_questionNumbered
set_option maxRecDepth 20000 in
theorem ggX6_answersOneByOne_X2_isAnsweredBy : GoodIn wsX6_answersOneByOne wsX2_isAnsweredBy := goodIn_r _ [38, 39, 40, 41, 57, 58, 59] (by decide +kernel) (by decide +kernel)
set_option maxRecDepth 20000 in
theorem gX6_answersOneByOne_X2_isAnsweredBy : GoodIn wsX6_answersOneByOne (wsV RX6 160 RX2 yX2_isAnsweredBy wsX2_isAnsweredBy) := goodIn_app (goodIn_of _ (by decide +kernel)) ggX6_answersOneByOne_X2_isAnsweredBy
theorem dX6_answersOneByOne_0 : decode cX6_answersOneByOne 0 = .ok (.aload_n 0, 1) := by decide +kernel
theorem dX6_answersOneByOne_1 : decode cX6_answersOneByOne 1 = .ok (.iload_n 1, 1) := by decide +kernel
theorem dX6_answersOneByOne_2 : decode cX6_answersOneByOne 2 = .ok (.invokevirtual 156, 3) := by decide +kernel
theorem dX6_answersOneByOne_5 : decode cX6_answersOneByOne 5 = .ok (.astore_n 2, 1) := by decide +kernel
theorem dX6_answersOneByOne_6 : decode cX6_answersOneByOne 6 = .ok (.iconst 0, 1) := by decide +kernel
theorem dX6_answersOneByOne_7 : decode cX6_answersOneByOne 7 = .ok (.istore_n 3, 1) := by decide +kernel
theorem dX6_answersOneByOne_8 : decode cX6_answersOneByOne 8 = .ok (.iconst 0, 1) := by decide +kernel
theorem dX6_answersOneByOne_9 : decode cX6_answersOneByOne 9 = .ok (.istore 4, 2) := by decide +kernel
theorem dX6_answersOneByOne_11 : decode cX6_answersOneByOne 11 = .ok (.iload 4, 2) := by decide +kernel
theorem dX6_answersOneByOne_13 : decode cX6_answersOneByOne 13 = .ok (.bipush 32, 2) := by decide +kernel
theorem dX6_answersOneByOne_15 : decode cX6_answersOneByOne 15 = .ok (.if_icmp .ge 41, 3) := by decide +kernel
theorem dX6_answersOneByOne_18 : decode cX6_answersOneByOne 18 = .ok (.aload_n 0, 1) := by decide +kernel
theorem dX6_answersOneByOne_19 : decode cX6_answersOneByOne 19 = .ok (.getfield 11, 3) := by decide +kernel
theorem dX6_answersOneByOne_22 : decode cX6_answersOneByOne 22 = .ok (.iload 4, 2) := by decide +kernel
theorem dX6_answersOneByOne_24 : decode cX6_answersOneByOne 24 = .ok (.aaload, 1) := by decide +kernel
theorem dX6_answersOneByOne_25 : decode cX6_answersOneByOne 25 = .ok (.astore 5, 2) := by decide +kernel
theorem dX6_answersOneByOne_27 : decode cX6_answersOneByOne 27 = .ok (.aload 5, 2) := by decide +kernel
theorem dX6_answersOneByOne_29 : decode cX6_answersOneByOne 29 = .ok (.getfield 46, 3) := by decide +kernel
theorem dX6_answersOneByOne_32 : decode cX6_answersOneByOne 32 = .ok (.ifCond .eq 18, 3) := by decide +kernel
theorem dX6_answersOneByOne_35 : decode cX6_answersOneByOne 35 = .ok (.aload_n 2, 1) := by decide +kernel
theorem dX6_answersOneByOne_36 : decode cX6_answersOneByOne 36 = .ok (.aload 5, 2) := by decide +kernel
theorem dX6_answersOneByOne_38 : decode cX6_answersOneByOne 38 = .ok (.getfield 82, 3) := by decide +kernel
theorem dX6_answersOneByOne_41 : decode cX6_answersOneByOne 41 = .ok (.invokevirtual 160, 3) := by decide +kernel
theorem dX6_answersOneByOne_44 : decode cX6_answersOneByOne 44 = .ok (.ifCond .eq 6, 3) := by decide +kernel
theorem dX6_answersOneByOne_47 : decode cX6_answersOneByOne 47 = .ok (.iinc 3 1, 3) := by decide +kernel
theorem dX6_answersOneByOne_50 : decode cX6_answersOneByOne 50 = .ok (.iinc 4 1, 3) := by decide +kernel
theorem dX6_answersOneByOne_53 : decode cX6_answersOneByOne 53 = .ok (.goto (-42), 3) := by decide +kernel
theorem dX6_answersOneByOne_56 : decode cX6_answersOneByOne 56 = .ok (.iload_n 3, 1) := by decide +kernel
theorem dX6_answersOneByOne_57 : decode cX6_answersOneByOne 57 = .ok (.ireturn, 1) := by decide +kernel
set_option maxRecDepth 20000 in
theorem ggX6_answer_X6_questionNumbered : GoodIn wsX6_answer wsX6_questionNumbered := goodIn_ca (goodIn_r _ [5, 6, 7, 8, 9, 10, 11, 12, 13, 14, 15, 16, 17, 18, 19, 20, 21, 22, 23, 24, 25, 26, 27, 28, 29, 30, 31, 32, 121, 122, 123, 124, 125, 126, 127, 128, 129] (by decide +kernel) (by decide +kernel)) (goodIn_sub (fun _ h => List.mem_cons_of_mem _ (List.mem_append_right _ h)) (by decide +kernel))
set_option maxRecDepth 20000 in
theorem gX6_answer_X6_questionNumbered : GoodIn wsX6_answer (wsV RX6 156 RX6 yX6_questionNumbered wsX6_questionNumbered) := goodIn_app (goodIn_of _ (by decide +kernel)) ggX6_answer_X6_questionNumbered
set_option maxRecDepth 20000 in
theorem ggX6_answer_X6_answersOf : GoodIn wsX6_answer wsX6_answersOf := goodIn_r _ [36, 37, 38, 13, 39, 40, 41, 42, 43, 44, 45, 32, 46, 47, 48, 49, 50, 51, 52, 53, 54, 55, 56, 57, 10, 11, 12, 14, 15, 16, 17, 18, 19, 20, 21, 22, 23, 24, 25, 26, 27, 28, 29, 30, 31, 58, 59, 60, 61, 62, 63, 64, 65, 66, 67, 68, 69, 70, 71, 72, 73, 74, 75, 76, 77, 78, 79, 80, 81, 82, 83, 84, 85, 86, 87, 88, 89, 90, 91, 92, 93, 94, 95, 96, 97, 98, 99, 100, 101, 102, 103, 104, 105, 106, 107, 108, 109, 110, 111, 112, 113, 114, 115, 116, 117, 127, 128, 129, 121, 122, 123, 124, 125, 126, 130, 131, 132, 133, 134] (by decide +kernel) (by decide +kernel)
set_option maxRecDepth 20000 in
theorem gX6_answer_X6_answersOf : GoodIn wsX6_answer (wsV RX6 163 RX6 yX6_answersOf wsX6_answersOf) := goodIn_app (goodIn_of _ (by decide +kernel)) ggX6_answer_X6_answersOf
set_option maxRecDepth 20000 in
theorem ggX6_answer_X6_handleAt : GoodIn wsX6_answer wsX6_handleAt := goodIn_ca (goodIn_r _ [120, 6, 7, 41, 10, 11, 12, 13, 14, 15, 16, 17, 18, 19, 20, 21, 22, 23, 24, 25, 26, 27, 28, 29, 30, 31, 32, 135, 136, 137, 138, 139, 140, 127, 128, 129] (by decide +kernel) (by decide +kernel)) (goodIn_sub (fun _ h => List.mem_cons_of_mem _ (List.mem_append_right _ h)) (by decide +kernel))
set_option maxRecDepth 20000 in
theorem gX6_answer_X6_handleAt : GoodIn wsX6_answer (va_wsS RX6 143 yX6_handleAt wsX6_handleAt) := goodIn_app (goodIn_of _ (by decide +kernel)) ggX6_answer_X6_handleAt
theorem dX6_answer_0 : decode cX6_answer 0 = .ok (.aload_n 0, 1) := by decide +kernel
theorem dX6_answer_1 : decode cX6_answer 1 = .ok (.aload_n 0, 1) := by decide +kernel
theorem dX6_answer_2 : decode cX6_answer 2 = .ok (.iload_n 1, 1) := by decide +kernel
theorem dX6_answer_3 : decode cX6_answer 3 = .ok (.invokevirtual 156, 3) := by decide +kernel
theorem dX6_answer_6 : decode cX6_answer 6 = .ok (.invokevirtual 163, 3) := by decide +kernel
theorem dX6_answer_9 : decode cX6_answer 9 = .ok (.iload_n 2, 1) := by decide +kernel
theorem dX6_answer_10 : decode cX6_answer 10 = .ok (.invokestatic 143, 3) := by decide +kernel
theorem dX6_answer_13 : decode cX6_answer 13 = .ok (.ireturn, 1) := by decide +kernel
set_option maxRecDepth 20000 in
theorem ggX6_answeringRows_X6_questionNumbered : GoodIn wsX6_answeringRows wsX6_questionNumbered := goodIn_ca (goodIn_r _ [7, 8, 9, 10, 11, 12, 13, 14, 15, 16, 17, 18, 19, 20, 21, 22, 23, 24, 25, 26, 27, 28, 29, 30, 31, 32, 33, 34, 43, 44, 45, 46, 47, 48, 51, 52, 53] (by decide +kernel) (by decide +kernel)) (goodIn_sub (fun _ h => List.mem_cons_of_mem _ (List.mem_append_right _ h)) (by decide +kernel))
set_option maxRecDepth 20000 in
theorem gX6_answeringRows_X6_questionNumbered : GoodIn wsX6_answeringRows (wsV RX6 156 RX6 yX6_questionNumbered wsX6_questionNumbered) := goodIn_app (goodIn_of _ (by decide +kernel)) ggX6_answeringRows_X6_questionNumbered
set_option maxRecDepth 20000 in
theorem ggX6_answeringRows_Jx4a65c_size_8abf5 : GoodIn wsX6_answeringRows wsJx4a65c_size_8abf5 := goodIn_r _ [16, 17, 51, 52, 53] (by decide +kernel) (by decide +kernel)
set_option maxRecDepth 20000 in
theorem gX6_answeringRows_Jx4a65c_size_8abf5 : GoodIn wsX6_answeringRows (wsV RX6 74 RJx4a65c yJx4a65c_size_8abf5 wsJx4a65c_size_8abf5) := goodIn_app (goodIn_of _ (by decide +kernel)) ggX6_answeringRows_Jx4a65c_size_8abf5
set_option maxRecDepth 20000 in
theorem ggX6_answeringRows_Jx4a65c_get_915e3 : GoodIn wsX6_answeringRows wsJx4a65c_get_915e3 := goodIn_r _ [21, 17, 22, 23, 24, 25, 26, 27, 28, 29, 30, 31, 32, 15, 33, 34, 51, 52, 53] (by decide +kernel) (by decide +kernel)
set_option maxRecDepth 20000 in
theorem gX6_answeringRows_Jx4a65c_get_915e3 : GoodIn wsX6_answeringRows (wsV RX6 78 RJx4a65c yJx4a65c_get_915e3 wsJx4a65c_get_915e3) := goodIn_app (goodIn_of _ (by decide +kernel)) ggX6_answeringRows_Jx4a65c_get_915e3
set_option maxRecDepth 20000 in
theorem ggX6_answeringRows_X2_isAnsweredBy : GoodIn wsX6_answeringRows wsX2_isAnsweredBy := goodIn_r _ [39, 40, 41, 42, 54, 55, 56] (by decide +kernel) (by decide +kernel)
set_option maxRecDepth 20000 in
theorem gX6_answeringRows_X2_isAnsweredBy : GoodIn wsX6_answeringRows (wsV RX6 160 RX2 yX2_isAnsweredBy wsX2_isAnsweredBy) := goodIn_app (goodIn_of _ (by decide +kernel)) ggX6_answeringRows_X2_isAnsweredBy
theorem dX6_answeringRows_0 : decode cX6_answeringRows 0 = .ok (.aload_n 0, 1) := by decide +kernel
theorem dX6_answeringRows_1 : decode cX6_answeringRows 1 = .ok (.iload_n 1, 1) := by decide +kernel
theorem dX6_answeringRows_2 : decode cX6_answeringRows 2 = .ok (.invokevirtual 156, 3) := by decide +kernel
theorem dX6_answeringRows_5 : decode cX6_answeringRows 5 = .ok (.astore_n 2, 1) := by decide +kernel
theorem dX6_answeringRows_6 : decode cX6_answeringRows 6 = .ok (.iconst 0, 1) := by decide +kernel
theorem dX6_answeringRows_7 : decode cX6_answeringRows 7 = .ok (.istore_n 3, 1) := by decide +kernel
theorem dX6_answeringRows_8 : decode cX6_answeringRows 8 = .ok (.iconst 0, 1) := by decide +kernel
theorem dX6_answeringRows_9 : decode cX6_answeringRows 9 = .ok (.istore 4, 2) := by decide +kernel
theorem dX6_answeringRows_11 : decode cX6_answeringRows 11 = .ok (.iload 4, 2) := by decide +kernel
theorem dX6_answeringRows_13 : decode cX6_answeringRows 13 = .ok (.aload_n 0, 1) := by decide +kernel
theorem dX6_answeringRows_14 : decode cX6_answeringRows 14 = .ok (.getfield 18, 3) := by decide +kernel
theorem dX6_answeringRows_17 : decode cX6_answeringRows 17 = .ok (.invokevirtual 74, 3) := by decide +kernel
theorem dX6_answeringRows_20 : decode cX6_answeringRows 20 = .ok (.if_icmp .ge 34, 3) := by decide +kernel
theorem dX6_answeringRows_23 : decode cX6_answeringRows 23 = .ok (.aload_n 2, 1) := by decide +kernel
theorem dX6_answeringRows_24 : decode cX6_answeringRows 24 = .ok (.aload_n 0, 1) := by decide +kernel
theorem dX6_answeringRows_25 : decode cX6_answeringRows 25 = .ok (.getfield 18, 3) := by decide +kernel
theorem dX6_answeringRows_28 : decode cX6_answeringRows 28 = .ok (.iload 4, 2) := by decide +kernel
theorem dX6_answeringRows_30 : decode cX6_answeringRows 30 = .ok (.invokevirtual 78, 3) := by decide +kernel
theorem dX6_answeringRows_33 : decode cX6_answeringRows 33 = .ok (.checkcast 55, 3) := by decide +kernel
theorem dX6_answeringRows_36 : decode cX6_answeringRows 36 = .ok (.getfield 142, 3) := by decide +kernel
theorem dX6_answeringRows_39 : decode cX6_answeringRows 39 = .ok (.invokevirtual 160, 3) := by decide +kernel
theorem dX6_answeringRows_42 : decode cX6_answeringRows 42 = .ok (.ifCond .eq 6, 3) := by decide +kernel
theorem dX6_answeringRows_45 : decode cX6_answeringRows 45 = .ok (.iinc 3 1, 3) := by decide +kernel
theorem dX6_answeringRows_48 : decode cX6_answeringRows 48 = .ok (.iinc 4 1, 3) := by decide +kernel
theorem dX6_answeringRows_51 : decode cX6_answeringRows 51 = .ok (.goto (-40), 3) := by decide +kernel
theorem dX6_answeringRows_54 : decode cX6_answeringRows 54 = .ok (.iload_n 3, 1) := by decide +kernel
theorem dX6_answeringRows_55 : decode cX6_answeringRows 55 = .ok (.ireturn, 1) := by decide +kernel
set_option maxRecDepth 20000 in
theorem ggX6_changed_X6_questionNumbered : GoodIn wsX6_changed wsX6_questionNumbered := goodIn_ca (goodIn_r _ [6, 7, 8, 9, 10, 11, 12, 13, 14, 15, 16, 17, 18, 19, 20, 21, 22, 23, 24, 25, 26, 27, 28, 29, 30, 31, 32, 33, 129, 130, 131, 132, 133, 134, 135, 136, 137] (by decide +kernel) (by decide +kernel)) (goodIn_sub (fun _ h => List.mem_cons_of_mem _ (List.mem_append_right _ h)) (by decide +kernel))
set_option maxRecDepth 20000 in
theorem gX6_changed_X6_questionNumbered : GoodIn wsX6_changed (wsV RX6 156 RX6 yX6_questionNumbered wsX6_questionNumbered) := goodIn_app (goodIn_of _ (by decide +kernel)) ggX6_changed_X6_questionNumbered
set_option maxRecDepth 20000 in
theorem ggX6_changed_X6_answersOf : GoodIn wsX6_changed wsX6_answersOf := goodIn_r _ [37, 38, 39, 14, 40, 41, 1, 42, 43, 44, 45, 33, 46, 47, 48, 49, 50, 51, 52, 53, 54, 55, 56, 57, 11, 12, 13, 15, 16, 17, 18, 19, 20, 21, 22, 23, 24, 25, 26, 27, 28, 29, 30, 31, 32, 58, 59, 60, 61, 62, 63, 64, 65, 66, 67, 68, 69, 70, 71, 72, 73, 74, 75, 76, 77, 78, 79, 80, 81, 82, 83, 84, 85, 86, 87, 88, 89, 90, 91, 92, 93, 94, 95, 96, 97, 98, 99, 100, 101, 102, 103, 104, 105, 106, 107, 108, 109, 110, 111, 112, 113, 114, 115, 116, 117, 135, 136, 137, 129, 130, 131, 132, 133, 134, 138, 139, 140, 141, 142] (by decide +kernel) (by decide +kernel)
set_option maxRecDepth 20000 in
theorem gX6_changed_X6_answersOf : GoodIn wsX6_changed (wsV RX6 163 RX6 yX6_answersOf wsX6_answersOf) := goodIn_app (goodIn_of _ (by decide +kernel)) ggX6_changed_X6_answersOf
set_option maxRecDepth 20000 in
theorem ggX6_changed_Jx4a65c_size_8abf5 : GoodIn wsX6_changed wsJx4a65c_size_8abf5 := goodIn_r _ [15, 16, 135, 136, 137] (by decide +kernel) (by decide +kernel)
set_option maxRecDepth 20000 in
theorem gX6_changed_Jx4a65c_size_8abf5 : GoodIn wsX6_changed (wsV RX6 74 RJx4a65c yJx4a65c_size_8abf5 wsJx4a65c_size_8abf5) := goodIn_app (goodIn_of _ (by decide +kernel)) ggX6_changed_Jx4a65c_size_8abf5
set_option maxRecDepth 20000 in
theorem ggX6_changed_Jx4a65c_get_915e3 : GoodIn wsX6_changed wsJx4a65c_get_915e3 := goodIn_r _ [20, 16, 21, 22, 23, 24, 25, 26, 27, 28, 29, 30, 31, 14, 32, 33, 135, 136, 137] (by decide +kernel) (by decide +kernel)
set_option maxRecDepth 20000 in
theorem gX6_changed_Jx4a65c_get_915e3 : GoodIn wsX6_changed (wsV RX6 78 RJx4a65c yJx4a65c_get_915e3 wsJx4a65c_get_915e3) := goodIn_app (goodIn_of _ (by decide +kernel)) ggX6_changed_Jx4a65c_get_915e3
set_option maxRecDepth 20000 in
theorem ggX6_changed_X1_isMarkedAfter : GoodIn wsX6_changed wsX1_isMarkedAfter := goodIn_r _ [122, 123, 124, 125, 126, 121, 127, 128, 143, 144, 145, 146, 147, 148] (by decide +kernel) (by decide +kernel)
set_option maxRecDepth 20000 in
theorem gX6_changed_X1_isMarkedAfter : GoodIn wsX6_changed (wsV RX6 167 RX1 yX1_isMarkedAfter wsX1_isMarkedAfter) := goodIn_app (goodIn_of _ (by decide +kernel)) ggX6_changed_X1_isMarkedAfter
theorem dX6_changed_0 : decode cX6_changed 0 = .ok (.aload_n 0, 1) := by decide +kernel
theorem dX6_changed_1 : decode cX6_changed 1 = .ok (.aload_n 0, 1) := by decide +kernel
theorem dX6_changed_2 : decode cX6_changed 2 = .ok (.iload_n 1, 1) := by decide +kernel
theorem dX6_changed_3 : decode cX6_changed 3 = .ok (.invokevirtual 156, 3) := by decide +kernel
theorem dX6_changed_6 : decode cX6_changed 6 = .ok (.invokevirtual 163, 3) := by decide +kernel
theorem dX6_changed_9 : decode cX6_changed 9 = .ok (.astore_n 3, 1) := by decide +kernel
theorem dX6_changed_10 : decode cX6_changed 10 = .ok (.iconst 0, 1) := by decide +kernel
theorem dX6_changed_11 : decode cX6_changed 11 = .ok (.istore 4, 2) := by decide +kernel
theorem dX6_changed_13 : decode cX6_changed 13 = .ok (.iconst 0, 1) := by decide +kernel
theorem dX6_changed_14 : decode cX6_changed 14 = .ok (.istore 5, 2) := by decide +kernel
theorem dX6_changed_16 : decode cX6_changed 16 = .ok (.iload 5, 2) := by decide +kernel
theorem dX6_changed_18 : decode cX6_changed 18 = .ok (.aload_n 3, 1) := by decide +kernel
theorem dX6_changed_19 : decode cX6_changed 19 = .ok (.invokevirtual 74, 3) := by decide +kernel
theorem dX6_changed_22 : decode cX6_changed 22 = .ok (.if_icmp .ge 28, 3) := by decide +kernel
theorem dX6_changed_25 : decode cX6_changed 25 = .ok (.aload_n 3, 1) := by decide +kernel
theorem dX6_changed_26 : decode cX6_changed 26 = .ok (.iload 5, 2) := by decide +kernel
theorem dX6_changed_28 : decode cX6_changed 28 = .ok (.invokevirtual 78, 3) := by decide +kernel
theorem dX6_changed_31 : decode cX6_changed 31 = .ok (.checkcast 9, 3) := by decide +kernel
theorem dX6_changed_34 : decode cX6_changed 34 = .ok (.iload_n 2, 1) := by decide +kernel
theorem dX6_changed_35 : decode cX6_changed 35 = .ok (.invokevirtual 167, 3) := by decide +kernel
theorem dX6_changed_38 : decode cX6_changed 38 = .ok (.ifCond .eq 6, 3) := by decide +kernel
theorem dX6_changed_41 : decode cX6_changed 41 = .ok (.iinc 4 1, 3) := by decide +kernel
theorem dX6_changed_44 : decode cX6_changed 44 = .ok (.iinc 5 1, 3) := by decide +kernel
theorem dX6_changed_47 : decode cX6_changed 47 = .ok (.goto (-31), 3) := by decide +kernel
theorem dX6_changed_50 : decode cX6_changed 50 = .ok (.iload 4, 2) := by decide +kernel
theorem dX6_changed_52 : decode cX6_changed 52 = .ok (.ireturn, 1) := by decide +kernel
set_option maxRecDepth 20000 in
theorem ggX6_walk_X6_questionNumbered : GoodIn wsX6_walk wsX6_questionNumbered := goodIn_ca (goodIn_r _ [9, 10, 11, 12, 13, 14, 15, 16, 17, 18, 19, 20, 21, 22, 23, 24, 25, 26, 27, 28, 29, 30, 31, 32, 33, 34, 35, 36, 140, 141, 142, 143, 144, 145, 146, 147, 148] (by decide +kernel) (by decide +kernel)) (goodIn_sub (fun _ h => List.mem_cons_of_mem _ (List.mem_append_left _ (List.mem_append_right _ h))) (by decide +kernel))
set_option maxRecDepth 20000 in
theorem gX6_walk_X6_questionNumbered : GoodIn wsX6_walk (wsV RX6 156 RX6 yX6_questionNumbered wsX6_questionNumbered) := goodIn_app (goodIn_of _ (by decide +kernel)) ggX6_walk_X6_questionNumbered
set_option maxRecDepth 20000 in
theorem ggX6_walk_X6_refuseDuringWalk : GoodIn wsX6_walk wsX6_refuseDuringWalk := goodIn_ca (goodIn_r _ [40, 41, 42, 4, 140, 141, 142, 143, 144, 145] (by decide +kernel) (by decide +kernel)) (goodIn_sub (fun _ h => List.mem_cons_of_mem _ (List.mem_append_right _ h)) (by decide +kernel))
set_option maxRecDepth 20000 in
theorem gX6_walk_X6_refuseDuringWalk : GoodIn wsX6_walk (wsV RX6 39 RX6 yX6_refuseDuringWalk wsX6_refuseDuringWalk) := goodIn_app (goodIn_of _ (by decide +kernel)) ggX6_walk_X6_refuseDuringWalk
set_option maxRecDepth 20000 in
theorem ggX6_walk_X6_answersOf : GoodIn wsX6_walk wsX6_answersOf := goodIn_r _ [46, 47, 48, 17, 49, 50, 51, 52, 53, 54, 55, 36, 56, 57, 58, 59, 60, 61, 62, 63, 64, 65, 66, 67, 14, 15, 16, 18, 19, 20, 21, 22, 23, 24, 25, 26, 27, 28, 29, 30, 31, 32, 33, 34, 35, 68, 69, 70, 71, 72, 73, 74, 75, 76, 77, 78, 79, 80, 81, 82, 83, 84, 85, 86, 87, 88, 89, 90, 91, 92, 93, 94, 95, 96, 97, 98, 99, 100, 101, 102, 103, 104, 105, 106, 107, 108, 109, 110, 111, 112, 113, 114, 115, 116, 117, 118, 119, 120, 121, 122, 123, 124, 125, 126, 127, 146, 147, 148, 140, 141, 142, 143, 144, 145, 149, 150, 151, 152, 153] (by decide +kernel) (by decide +kernel)
set_option maxRecDepth 20000 in
theorem gX6_walk_X6_answersOf : GoodIn wsX6_walk (wsV RX6 163 RX6 yX6_answersOf wsX6_answersOf) := goodIn_app (goodIn_of _ (by decide +kernel)) ggX6_walk_X6_answersOf
set_option maxRecDepth 20000 in
theorem ggX6_walk_X5_init : GoodIn wsX6_walk wsX5_init := goodIn_r _ [130, 131, 66, 67, 132, 48, 17, 133, 134, 135, 136, 53, 54, 55, 36, 56, 57, 58, 59, 60, 61, 62, 63, 64, 65, 146, 147, 148, 137, 138, 139] (by decide +kernel) (by decide +kernel)
set_option maxRecDepth 20000 in
theorem gX6_walk_X5_init : GoodIn wsX6_walk (wsX5_init) := ggX6_walk_X5_init
set_option maxRecDepth 20000 in
theorem ggX6_walk_Jx4a65c_size_8abf5 : GoodIn wsX6_walk wsJx4a65c_size_8abf5 := goodIn_r _ [18, 19, 146, 147, 148] (by decide +kernel) (by decide +kernel)
set_option maxRecDepth 20000 in
theorem gX6_walk_Jx4a65c_size_8abf5 : GoodIn wsX6_walk (wsV RX6 74 RJx4a65c yJx4a65c_size_8abf5 wsJx4a65c_size_8abf5) := goodIn_app (goodIn_of _ (by decide +kernel)) ggX6_walk_Jx4a65c_size_8abf5
theorem dX6_walk_0 : decode cX6_walk 0 = .ok (.aload_n 0, 1) := by decide +kernel
theorem dX6_walk_1 : decode cX6_walk 1 = .ok (.iload_n 1, 1) := by decide +kernel
theorem dX6_walk_2 : decode cX6_walk 2 = .ok (.invokevirtual 156, 3) := by decide +kernel
theorem dX6_walk_5 : decode cX6_walk 5 = .ok (.astore_n 2, 1) := by decide +kernel
theorem dX6_walk_6 : decode cX6_walk 6 = .ok (.aload_n 0, 1) := by decide +kernel
theorem dX6_walk_7 : decode cX6_walk 7 = .ok (.invokevirtual 39, 3) := by decide +kernel
theorem dX6_walk_10 : decode cX6_walk 10 = .ok (.aload_n 0, 1) := by decide +kernel
theorem dX6_walk_11 : decode cX6_walk 11 = .ok (.aload_n 2, 1) := by decide +kernel
theorem dX6_walk_12 : decode cX6_walk 12 = .ok (.invokevirtual 163, 3) := by decide +kernel
theorem dX6_walk_15 : decode cX6_walk 15 = .ok (.astore_n 3, 1) := by decide +kernel
theorem dX6_walk_16 : decode cX6_walk 16 = .ok (.aload_n 0, 1) := by decide +kernel
theorem dX6_walk_17 : decode cX6_walk 17 = .ok (.new 170, 3) := by decide +kernel
theorem dX6_walk_20 : decode cX6_walk 20 = .ok (.dup, 1) := by decide +kernel
theorem dX6_walk_21 : decode cX6_walk 21 = .ok (.aload_n 3, 1) := by decide +kernel
theorem dX6_walk_22 : decode cX6_walk 22 = .ok (.invokespecial 172, 3) := by decide +kernel
theorem dX6_walk_25 : decode cX6_walk 25 = .ok (.putfield 28, 3) := by decide +kernel
theorem dX6_walk_28 : decode cX6_walk 28 = .ok (.aload_n 3, 1) := by decide +kernel
theorem dX6_walk_29 : decode cX6_walk 29 = .ok (.invokevirtual 74, 3) := by decide +kernel
theorem dX6_walk_32 : decode cX6_walk 32 = .ok (.ireturn, 1) := by decide +kernel
set_option maxRecDepth 20000 in
theorem ggX6_next_X6_walkThatGoesOn : GoodIn wsX6_next wsX6_walkThatGoesOn := goodIn_ca (goodIn_r _ [6, 7, 8, 9, 42, 43, 44, 45, 46, 47] (by decide +kernel) (by decide +kernel)) (goodIn_sub (fun _ h => List.mem_cons_of_mem _ (List.mem_append_right _ h)) (by decide +kernel))
set_option maxRecDepth 20000 in
theorem gX6_next_X6_walkThatGoesOn : GoodIn wsX6_next (wsV RX6 175 RX6 yX6_walkThatGoesOn wsX6_walkThatGoesOn) := goodIn_app (goodIn_of _ (by decide +kernel)) ggX6_next_X6_walkThatGoesOn
set_option maxRecDepth 20000 in
theorem ggX6_next_Jx4a65c_size_8abf5 : GoodIn wsX6_next wsJx4a65c_size_8abf5 := goodIn_r _ [14, 15, 48, 49, 50] (by decide +kernel) (by decide +kernel)
set_option maxRecDepth 20000 in
theorem gX6_next_Jx4a65c_size_8abf5 : GoodIn wsX6_next (wsV RX6 74 RJx4a65c yJx4a65c_size_8abf5 wsJx4a65c_size_8abf5) := goodIn_app (goodIn_of _ (by decide +kernel)) ggX6_next_Jx4a65c_size_8abf5
set_option maxRecDepth 20000 in
theorem ggX6_next_Jx4a65c_get_915e3 : GoodIn wsX6_next wsJx4a65c_get_915e3 := goodIn_r _ [19, 15, 20, 21, 22, 23, 24, 25, 26, 27, 28, 29, 30, 13, 31, 32, 48, 49, 50] (by decide +kernel) (by decide +kernel)
set_option maxRecDepth 20000 in
theorem gX6_next_Jx4a65c_get_915e3 : GoodIn wsX6_next (wsV RX6 78 RJx4a65c yJx4a65c_get_915e3 wsJx4a65c_get_915e3) := goodIn_app (goodIn_of _ (by decide +kernel)) ggX6_next_Jx4a65c_get_915e3
theorem dX6_next_0 : decode cX6_next 0 = .ok (.aload_n 0, 1) := by decide +kernel
theorem dX6_next_1 : decode cX6_next 1 = .ok (.invokevirtual 175, 3) := by decide +kernel
theorem dX6_next_4 : decode cX6_next 4 = .ok (.astore_n 1, 1) := by decide +kernel
theorem dX6_next_5 : decode cX6_next 5 = .ok (.aload_n 1, 1) := by decide +kernel
theorem dX6_next_6 : decode cX6_next 6 = .ok (.getfield 179, 3) := by decide +kernel
theorem dX6_next_9 : decode cX6_next 9 = .ok (.aload_n 1, 1) := by decide +kernel
theorem dX6_next_10 : decode cX6_next 10 = .ok (.getfield 182, 3) := by decide +kernel
theorem dX6_next_13 : decode cX6_next 13 = .ok (.invokevirtual 74, 3) := by decide +kernel
theorem dX6_next_16 : decode cX6_next 16 = .ok (.if_icmp .lt 5, 3) := by decide +kernel
theorem dX6_next_19 : decode cX6_next 19 = .ok (.iconst (-1), 1) := by decide +kernel
theorem dX6_next_20 : decode cX6_next 20 = .ok (.ireturn, 1) := by decide +kernel
theorem dX6_next_21 : decode cX6_next 21 = .ok (.aload_n 1, 1) := by decide +kernel
theorem dX6_next_22 : decode cX6_next 22 = .ok (.getfield 182, 3) := by decide +kernel
theorem dX6_next_25 : decode cX6_next 25 = .ok (.aload_n 1, 1) := by decide +kernel
theorem dX6_next_26 : decode cX6_next 26 = .ok (.getfield 179, 3) := by decide +kernel
theorem dX6_next_29 : decode cX6_next 29 = .ok (.invokevirtual 78, 3) := by decide +kernel
theorem dX6_next_32 : decode cX6_next 32 = .ok (.checkcast 9, 3) := by decide +kernel
theorem dX6_next_35 : decode cX6_next 35 = .ok (.getfield 63, 3) := by decide +kernel
theorem dX6_next_38 : decode cX6_next 38 = .ok (.istore_n 2, 1) := by decide +kernel
theorem dX6_next_39 : decode cX6_next 39 = .ok (.aload_n 1, 1) := by decide +kernel
theorem dX6_next_40 : decode cX6_next 40 = .ok (.dup, 1) := by decide +kernel
theorem dX6_next_41 : decode cX6_next 41 = .ok (.getfield 179, 3) := by decide +kernel
theorem dX6_next_44 : decode cX6_next 44 = .ok (.iconst 1, 1) := by decide +kernel
theorem dX6_next_45 : decode cX6_next 45 = .ok (.iadd, 1) := by decide +kernel
theorem dX6_next_46 : decode cX6_next 46 = .ok (.putfield 179, 3) := by decide +kernel
theorem dX6_next_49 : decode cX6_next 49 = .ok (.iload_n 2, 1) := by decide +kernel
theorem dX6_next_50 : decode cX6_next 50 = .ok (.ireturn, 1) := by decide +kernel
set_option maxRecDepth 20000 in
theorem ggX6_defer_X6_walkThatGoesOn : GoodIn wsX6_defer wsX6_walkThatGoesOn := goodIn_ca (goodIn_r _ [12, 3, 4, 13, 91, 92, 93, 94, 95, 96] (by decide +kernel) (by decide +kernel)) (goodIn_sub (fun _ h => List.mem_cons_of_mem _ (List.mem_append_right _ h)) (by decide +kernel))
set_option maxRecDepth 20000 in
theorem gX6_defer_X6_walkThatGoesOn : GoodIn wsX6_defer (wsV RX6 175 RX6 yX6_walkThatGoesOn wsX6_walkThatGoesOn) := goodIn_app (goodIn_of _ (by decide +kernel)) ggX6_defer_X6_walkThatGoesOn
set_option maxRecDepth 20000 in
theorem ggX6_defer_Jx4a65c_size_8abf5 : GoodIn wsX6_defer wsJx4a65c_size_8abf5 := goodIn_r _ [18, 19, 97, 98, 99] (by decide +kernel) (by decide +kernel)
set_option maxRecDepth 20000 in
theorem gX6_defer_Jx4a65c_size_8abf5 : GoodIn wsX6_defer (wsV RX6 74 RJx4a65c yJx4a65c_size_8abf5 wsJx4a65c_size_8abf5) := goodIn_app (goodIn_of _ (by decide +kernel)) ggX6_defer_Jx4a65c_size_8abf5
set_option maxRecDepth 20000 in
theorem ggX6_defer_X0_init : GoodIn wsX6_defer wsX0_init := goodIn_r _ [22, 23, 24, 25, 26, 27, 28, 29, 87, 88, 89, 90] (by decide +kernel) (by decide +kernel)
set_option maxRecDepth 20000 in
theorem gX6_defer_X0_init : GoodIn wsX6_defer (wsX0_init) := ggX6_defer_X0_init
set_option maxRecDepth 20000 in
theorem ggX6_defer_Jx4a65c_add_9ea2d : GoodIn wsX6_defer wsJx4a65c_add_9ea2d := goodIn_r _ [33, 34, 35, 36, 19, 37, 38, 39, 17, 40, 41, 42, 43, 44, 45, 46, 47, 48, 49, 50, 51, 52, 53, 54, 55, 56, 57, 58, 59, 60, 61, 62, 63, 64, 65, 66, 67, 68, 69, 70, 71, 72, 73, 74, 75, 76, 77, 78, 79, 80, 81, 82, 83, 97, 98, 99] (by decide +kernel) (by decide +kernel)
set_option maxRecDepth 20000 in
theorem gX6_defer_Jx4a65c_add_9ea2d : GoodIn wsX6_defer (wsV RX6 59 RJx4a65c yJx4a65c_add_9ea2d wsJx4a65c_add_9ea2d) := goodIn_app (goodIn_of _ (by decide +kernel)) ggX6_defer_Jx4a65c_add_9ea2d
theorem dX6_defer_0 : decode cX6_defer 0 = .ok (.iload_n 1, 1) := by decide +kernel
theorem dX6_defer_1 : decode cX6_defer 1 = .ok (.ifCond .eq 28, 3) := by decide +kernel
theorem dX6_defer_4 : decode cX6_defer 4 = .ok (.iload_n 1, 1) := by decide +kernel
theorem dX6_defer_5 : decode cX6_defer 5 = .ok (.iconst 1, 1) := by decide +kernel
theorem dX6_defer_6 : decode cX6_defer 6 = .ok (.if_icmp .eq 23, 3) := by decide +kernel
theorem dX6_defer_9 : decode cX6_defer 9 = .ok (.iload_n 1, 1) := by decide +kernel
theorem dX6_defer_10 : decode cX6_defer 10 = .ok (.iconst 2, 1) := by decide +kernel
theorem dX6_defer_11 : decode cX6_defer 11 = .ok (.if_icmp .eq 18, 3) := by decide +kernel
theorem dX6_defer_14 : decode cX6_defer 14 = .ok (.iload_n 1, 1) := by decide +kernel
theorem dX6_defer_15 : decode cX6_defer 15 = .ok (.iconst 3, 1) := by decide +kernel
theorem dX6_defer_16 : decode cX6_defer 16 = .ok (.if_icmp .eq 13, 3) := by decide +kernel
theorem dX6_defer_19 : decode cX6_defer 19 = .ok (.new 185, 3) := by decide +kernel
theorem dX6_defer_22 : decode cX6_defer 22 = .ok (.dup, 1) := by decide +kernel
theorem dX6_defer_23 : decode cX6_defer 23 = .ok (.ldc 187, 2) := by decide +kernel
theorem dX6_defer_25 : decode cX6_defer 25 = .ok (.invokespecial 189, 3) := by decide +kernel
theorem dX6_defer_28 : decode cX6_defer 28 = .ok (.athrow, 1) := by decide +kernel
theorem dX6_defer_29 : decode cX6_defer 29 = .ok (.aload_n 0, 1) := by decide +kernel
theorem dX6_defer_30 : decode cX6_defer 30 = .ok (.invokevirtual 175, 3) := by decide +kernel
theorem dX6_defer_33 : decode cX6_defer 33 = .ok (.astore 5, 2) := by decide +kernel
theorem dX6_defer_35 : decode cX6_defer 35 = .ok (.aload 5, 2) := by decide +kernel
theorem dX6_defer_37 : decode cX6_defer 37 = .ok (.getfield 190, 3) := by decide +kernel
theorem dX6_defer_40 : decode cX6_defer 40 = .ok (.invokevirtual 74, 3) := by decide +kernel
theorem dX6_defer_43 : decode cX6_defer 43 = .ok (.bipush 20, 2) := by decide +kernel
theorem dX6_defer_45 : decode cX6_defer 45 = .ok (.if_icmp .lt 13, 3) := by decide +kernel
theorem dX6_defer_48 : decode cX6_defer 48 = .ok (.new 113, 3) := by decide +kernel
theorem dX6_defer_51 : decode cX6_defer 51 = .ok (.dup, 1) := by decide +kernel
theorem dX6_defer_52 : decode cX6_defer 52 = .ok (.ldc 193, 2) := by decide +kernel
theorem dX6_defer_54 : decode cX6_defer 54 = .ok (.invokespecial 117, 3) := by decide +kernel
theorem dX6_defer_57 : decode cX6_defer 57 = .ok (.athrow, 1) := by decide +kernel
theorem dX6_defer_58 : decode cX6_defer 58 = .ok (.aload 5, 2) := by decide +kernel
theorem dX6_defer_60 : decode cX6_defer 60 = .ok (.getfield 190, 3) := by decide +kernel
theorem dX6_defer_63 : decode cX6_defer 63 = .ok (.new 195, 3) := by decide +kernel
theorem dX6_defer_66 : decode cX6_defer 66 = .ok (.dup, 1) := by decide +kernel
theorem dX6_defer_67 : decode cX6_defer 67 = .ok (.iload_n 1, 1) := by decide +kernel
theorem dX6_defer_68 : decode cX6_defer 68 = .ok (.iload_n 2, 1) := by decide +kernel
theorem dX6_defer_69 : decode cX6_defer 69 = .ok (.iload_n 3, 1) := by decide +kernel
theorem dX6_defer_70 : decode cX6_defer 70 = .ok (.iload 4, 2) := by decide +kernel
theorem dX6_defer_72 : decode cX6_defer 72 = .ok (.invokespecial 197, 3) := by decide +kernel
theorem dX6_defer_75 : decode cX6_defer 75 = .ok (.invokevirtual 59, 3) := by decide +kernel
theorem dX6_defer_78 : decode cX6_defer 78 = .ok (.pop, 1) := by decide +kernel
theorem dX6_defer_79 : decode cX6_defer 79 = .ok (.aload 5, 2) := by decide +kernel
theorem dX6_defer_81 : decode cX6_defer 81 = .ok (.getfield 190, 3) := by decide +kernel
theorem dX6_defer_84 : decode cX6_defer 84 = .ok (.invokevirtual 74, 3) := by decide +kernel
theorem dX6_defer_87 : decode cX6_defer 87 = .ok (.ireturn, 1) := by decide +kernel
set_option maxRecDepth 20000 in
theorem ggX6_finish_X6_walkThatGoesOn : GoodIn wsX6_finish wsX6_walkThatGoesOn := goodIn_ca (goodIn_r _ [7, 8, 9, 1, 236, 237, 238, 239, 240, 241] (by decide +kernel) (by decide +kernel)) (goodIn_sub (fun _ h => List.mem_cons_of_mem _ (List.mem_append_left _ (List.mem_append_left _ (List.mem_append_right _ h)))) (by decide +kernel))
set_option maxRecDepth 20000 in
theorem gX6_finish_X6_walkThatGoesOn : GoodIn wsX6_finish (wsV RX6 175 RX6 yX6_walkThatGoesOn wsX6_walkThatGoesOn) := goodIn_app (goodIn_of _ (by decide +kernel)) ggX6_finish_X6_walkThatGoesOn
set_option maxRecDepth 20000 in
theorem ggX6_finish_Jx4a65c_size_8abf5 : GoodIn wsX6_finish wsJx4a65c_size_8abf5 := goodIn_r _ [14, 15, 242, 243, 244] (by decide +kernel) (by decide +kernel)
set_option maxRecDepth 20000 in
theorem gX6_finish_Jx4a65c_size_8abf5 : GoodIn wsX6_finish (wsV RX6 74 RJx4a65c yJx4a65c_size_8abf5 wsJx4a65c_size_8abf5) := goodIn_app (goodIn_of _ (by decide +kernel)) ggX6_finish_Jx4a65c_size_8abf5
set_option maxRecDepth 20000 in
theorem ggX6_finish_Jx4a65c_get_915e3 : GoodIn wsX6_finish wsJx4a65c_get_915e3 := goodIn_r _ [19, 15, 20, 21, 22, 23, 24, 25, 26, 27, 28, 29, 30, 13, 31, 32, 242, 243, 244] (by decide +kernel) (by decide +kernel)
set_option maxRecDepth 20000 in
theorem gX6_finish_Jx4a65c_get_915e3 : GoodIn wsX6_finish (wsV RX6 78 RJx4a65c yJx4a65c_get_915e3 wsJx4a65c_get_915e3) := goodIn_app (goodIn_of _ (by decide +kernel)) ggX6_finish_Jx4a65c_get_915e3
set_option maxRecDepth 20000 in
theorem ggX6_finish_X6_couldDo : GoodIn wsX6_finish wsX6_couldDo := goodIn_ca (goodIn_ca (goodIn_ca (goodIn_r _ [36, 37, 38, 8, 39, 40, 41, 6, 42, 9, 43, 44, 45, 46, 47, 48, 49, 50, 51, 52, 53, 54, 55, 56, 57, 58, 59, 60, 61, 62, 63, 64, 65, 66, 67, 68, 69, 70, 71, 72, 73, 1, 74, 75, 76, 77, 78, 79, 80, 81, 82, 83, 84, 85, 86, 10, 11, 12, 13, 14, 15, 16, 17, 18, 19, 20, 21, 22, 23, 24, 25, 26, 27, 28, 29, 30, 31, 32, 87, 88, 89, 90, 91, 92, 93, 94, 95, 96, 97, 98, 99, 100, 101, 102, 103, 104, 105, 106, 107, 108, 109, 110, 111, 112, 113, 114, 115, 116, 117, 118, 119, 120, 121, 122, 123, 124, 125, 126, 127, 128, 129, 130, 131, 132, 133, 134, 135, 136, 137, 138, 139, 140, 141, 142, 143, 144, 145, 146, 147, 148, 149, 150, 151, 152, 153, 154, 155, 156, 157, 158, 159, 160, 161, 162, 163, 164, 165, 166, 167, 168, 169, 170, 171, 172, 173, 174, 175, 176, 177, 178, 179, 180, 181, 182, 183, 184, 185, 186, 187, 188, 189, 190, 191, 192, 193, 194, 195, 196, 197, 198, 199, 200, 201, 202, 203, 204, 205, 206, 207, 208, 209, 210, 211, 212, 213, 214, 215, 216, 217, 218, 219, 220, 221, 222, 223, 224, 225, 226, 227, 228, 229, 230, 231, 232, 245, 246, 247, 248, 249, 250, 251, 252, 253, 254, 236, 237, 238, 239, 240, 241, 255, 256, 242, 243, 244] (by decide +kernel) (by decide +kernel)) (goodIn_sub (fun _ h => List.mem_cons_of_mem _ (List.mem_append_left _ (List.mem_append_left _ (List.mem_append_right _ h)))) (by decide +kernel))) (goodIn_sub (fun _ h => List.mem_cons_of_mem _ (List.mem_append_left _ (List.mem_append_right _ h))) (by decide +kernel))) (goodIn_sub (fun _ h => List.mem_cons_of_mem _ (List.mem_append_right _ h)) (by decide +kernel))
set_option maxRecDepth 20000 in
theorem gX6_finish_X6_couldDo : GoodIn wsX6_finish (wsV RX6 200 RX6 yX6_couldDo wsX6_couldDo) := goodIn_app (goodIn_of _ (by decide +kernel)) ggX6_finish_X6_couldDo
theorem dX6_finish_0 : decode cX6_finish 0 = .ok (.aload_n 0, 1) := by decide +kernel
theorem dX6_finish_1 : decode cX6_finish 1 = .ok (.invokevirtual 175, 3) := by decide +kernel
theorem dX6_finish_4 : decode cX6_finish 4 = .ok (.getfield 190, 3) := by decide +kernel
theorem dX6_finish_7 : decode cX6_finish 7 = .ok (.astore_n 1, 1) := by decide +kernel
theorem dX6_finish_8 : decode cX6_finish 8 = .ok (.aload_n 0, 1) := by decide +kernel
theorem dX6_finish_9 : decode cX6_finish 9 = .ok (.aconst_null, 1) := by decide +kernel
theorem dX6_finish_10 : decode cX6_finish 10 = .ok (.putfield 28, 3) := by decide +kernel
theorem dX6_finish_13 : decode cX6_finish 13 = .ok (.iconst 0, 1) := by decide +kernel
theorem dX6_finish_14 : decode cX6_finish 14 = .ok (.istore_n 2, 1) := by decide +kernel
theorem dX6_finish_15 : decode cX6_finish 15 = .ok (.iconst 0, 1) := by decide +kernel
theorem dX6_finish_16 : decode cX6_finish 16 = .ok (.istore_n 3, 1) := by decide +kernel
theorem dX6_finish_17 : decode cX6_finish 17 = .ok (.iload_n 3, 1) := by decide +kernel
theorem dX6_finish_18 : decode cX6_finish 18 = .ok (.aload_n 1, 1) := by decide +kernel
theorem dX6_finish_19 : decode cX6_finish 19 = .ok (.invokevirtual 74, 3) := by decide +kernel
theorem dX6_finish_22 : decode cX6_finish 22 = .ok (.if_icmp .ge 27, 3) := by decide +kernel
theorem dX6_finish_25 : decode cX6_finish 25 = .ok (.aload_n 0, 1) := by decide +kernel
theorem dX6_finish_26 : decode cX6_finish 26 = .ok (.aload_n 1, 1) := by decide +kernel
theorem dX6_finish_27 : decode cX6_finish 27 = .ok (.iload_n 3, 1) := by decide +kernel
theorem dX6_finish_28 : decode cX6_finish 28 = .ok (.invokevirtual 78, 3) := by decide +kernel
theorem dX6_finish_31 : decode cX6_finish 31 = .ok (.checkcast 195, 3) := by decide +kernel
theorem dX6_finish_34 : decode cX6_finish 34 = .ok (.invokevirtual 200, 3) := by decide +kernel
theorem dX6_finish_37 : decode cX6_finish 37 = .ok (.ifCond .eq 6, 3) := by decide +kernel
theorem dX6_finish_40 : decode cX6_finish 40 = .ok (.iinc 2 1, 3) := by decide +kernel
theorem dX6_finish_43 : decode cX6_finish 43 = .ok (.iinc 3 1, 3) := by decide +kernel
theorem dX6_finish_46 : decode cX6_finish 46 = .ok (.goto (-29), 3) := by decide +kernel
theorem dX6_finish_49 : decode cX6_finish 49 = .ok (.iload_n 2, 1) := by decide +kernel
theorem dX6_finish_50 : decode cX6_finish 50 = .ok (.ireturn, 1) := by decide +kernel
set_option maxRecDepth 20000 in
theorem ggX6_system_X6_refuseNoSet : GoodIn wsX6_system wsX6_refuseNoSet := goodIn_ca (goodIn_r _ [10, 11, 12] (by decide +kernel) (by decide +kernel)) (goodIn_sub (fun _ h => List.mem_cons_of_mem _ (List.mem_append_right _ h)) (by decide +kernel))
set_option maxRecDepth 20000 in
theorem gX6_system_X6_refuseNoSet : GoodIn wsX6_system (va_wsS RX6 147 yX6_refuseNoSet wsX6_refuseNoSet) := goodIn_app (goodIn_of _ (by decide +kernel)) ggX6_system_X6_refuseNoSet
set_option maxRecDepth 20000 in
theorem ggX6_system_Jx4a65c_size_8abf5 : GoodIn wsX6_system wsJx4a65c_size_8abf5 := goodIn_r _ [17, 18, 117, 118, 119] (by decide +kernel) (by decide +kernel)
set_option maxRecDepth 20000 in
theorem gX6_system_Jx4a65c_size_8abf5 : GoodIn wsX6_system (wsV RX6 74 RJx4a65c yJx4a65c_size_8abf5 wsJx4a65c_size_8abf5) := goodIn_app (goodIn_of _ (by decide +kernel)) ggX6_system_Jx4a65c_size_8abf5
set_option maxRecDepth 20000 in
theorem ggX6_system_X6_stageFor : GoodIn wsX6_system wsX6_stageFor := goodIn_r _ [22, 3, 23, 24, 25, 26, 27, 13, 14, 15, 16, 17, 18, 28, 29, 30, 31, 32, 33, 34, 35, 36, 37, 38, 39, 40, 41, 42, 43, 44, 45, 46, 47, 6, 48, 49, 50, 108, 109, 110, 111, 112, 113, 114, 115, 116, 117, 118, 119] (by decide +kernel) (by decide +kernel)
set_option maxRecDepth 20000 in
theorem gX6_system_X6_stageFor : GoodIn wsX6_system (wsV RX6 206 RX6 yX6_stageFor wsX6_stageFor) := goodIn_app (goodIn_of _ (by decide +kernel)) ggX6_system_X6_stageFor
set_option maxRecDepth 20000 in
theorem ggX6_system_X4_init : GoodIn wsX6_system wsX4_init := goodIn_r _ [53, 54, 55, 56, 50, 49, 57, 114, 115, 116] (by decide +kernel) (by decide +kernel)
set_option maxRecDepth 20000 in
theorem gX6_system_X4_init : GoodIn wsX6_system (wsX4_init) := ggX6_system_X4_init
set_option maxRecDepth 20000 in
theorem ggX6_system_Jx4a65c_add_9ea2d : GoodIn wsX6_system wsJx4a65c_add_9ea2d := goodIn_r _ [61, 62, 63, 44, 18, 64, 65, 66, 16, 67, 68, 69, 70, 71, 72, 73, 74, 75, 76, 77, 25, 26, 27, 78, 79, 80, 81, 82, 83, 84, 85, 86, 87, 88, 89, 90, 91, 92, 93, 94, 95, 96, 97, 98, 99, 100, 101, 102, 103, 104, 105, 106, 107, 117, 118, 119] (by decide +kernel) (by decide +kernel)
set_option maxRecDepth 20000 in
theorem gX6_system_Jx4a65c_add_9ea2d : GoodIn wsX6_system (wsV RX6 59 RJx4a65c yJx4a65c_add_9ea2d wsJx4a65c_add_9ea2d) := goodIn_app (goodIn_of _ (by decide +kernel)) ggX6_system_Jx4a65c_add_9ea2d
theorem dX6_system_0 : decode cX6_system 0 = .ok (.iload_n 1, 1) := by decide +kernel
theorem dX6_system_1 : decode cX6_system 1 = .ok (.invokestatic 147, 3) := by decide +kernel
theorem dX6_system_4 : decode cX6_system 4 = .ok (.iload_n 2, 1) := by decide +kernel
theorem dX6_system_5 : decode cX6_system 5 = .ok (.invokestatic 147, 3) := by decide +kernel
theorem dX6_system_8 : decode cX6_system 8 = .ok (.aload_n 0, 1) := by decide +kernel
theorem dX6_system_9 : decode cX6_system 9 = .ok (.getfield 25, 3) := by decide +kernel
theorem dX6_system_12 : decode cX6_system 12 = .ok (.invokevirtual 74, 3) := by decide +kernel
theorem dX6_system_15 : decode cX6_system 15 = .ok (.bipush 8, 2) := by decide +kernel
theorem dX6_system_17 : decode cX6_system 17 = .ok (.if_icmp .lt 13, 3) := by decide +kernel
theorem dX6_system_20 : decode cX6_system 20 = .ok (.new 113, 3) := by decide +kernel
theorem dX6_system_23 : decode cX6_system 23 = .ok (.dup, 1) := by decide +kernel
theorem dX6_system_24 : decode cX6_system 24 = .ok (.ldc 204, 2) := by decide +kernel
theorem dX6_system_26 : decode cX6_system 26 = .ok (.invokespecial 117, 3) := by decide +kernel
theorem dX6_system_29 : decode cX6_system 29 = .ok (.athrow, 1) := by decide +kernel
theorem dX6_system_30 : decode cX6_system 30 = .ok (.aload_n 0, 1) := by decide +kernel
theorem dX6_system_31 : decode cX6_system 31 = .ok (.iload_n 1, 1) := by decide +kernel
theorem dX6_system_32 : decode cX6_system 32 = .ok (.iload_n 2, 1) := by decide +kernel
theorem dX6_system_33 : decode cX6_system 33 = .ok (.invokevirtual 206, 3) := by decide +kernel
theorem dX6_system_36 : decode cX6_system 36 = .ok (.istore_n 3, 1) := by decide +kernel
theorem dX6_system_37 : decode cX6_system 37 = .ok (.aload_n 0, 1) := by decide +kernel
theorem dX6_system_38 : decode cX6_system 38 = .ok (.getfield 25, 3) := by decide +kernel
theorem dX6_system_41 : decode cX6_system 41 = .ok (.new 210, 3) := by decide +kernel
theorem dX6_system_44 : decode cX6_system 44 = .ok (.dup, 1) := by decide +kernel
theorem dX6_system_45 : decode cX6_system 45 = .ok (.iload_n 1, 1) := by decide +kernel
theorem dX6_system_46 : decode cX6_system 46 = .ok (.iload_n 2, 1) := by decide +kernel
theorem dX6_system_47 : decode cX6_system 47 = .ok (.iload_n 3, 1) := by decide +kernel
theorem dX6_system_48 : decode cX6_system 48 = .ok (.invokespecial 212, 3) := by decide +kernel
theorem dX6_system_51 : decode cX6_system 51 = .ok (.invokevirtual 59, 3) := by decide +kernel
theorem dX6_system_54 : decode cX6_system 54 = .ok (.pop, 1) := by decide +kernel
theorem dX6_system_55 : decode cX6_system 55 = .ok (.iload_n 3, 1) := by decide +kernel
theorem dX6_system_56 : decode cX6_system 56 = .ok (.ireturn, 1) := by decide +kernel
set_option maxRecDepth 20000 in
theorem ggX6_stage_Jx4a65c_size_8abf5 : GoodIn wsX6_stage wsJx4a65c_size_8abf5 := goodIn_r _ [9, 10, 37, 38, 39] (by decide +kernel) (by decide +kernel)
set_option maxRecDepth 20000 in
theorem gX6_stage_Jx4a65c_size_8abf5 : GoodIn wsX6_stage (wsV RX6 74 RJx4a65c yJx4a65c_size_8abf5 wsJx4a65c_size_8abf5) := goodIn_app (goodIn_of _ (by decide +kernel)) ggX6_stage_Jx4a65c_size_8abf5
set_option maxRecDepth 20000 in
theorem ggX6_stage_Jx4a65c_get_915e3 : GoodIn wsX6_stage wsJx4a65c_get_915e3 := goodIn_r _ [14, 10, 15, 16, 17, 18, 19, 20, 21, 22, 23, 24, 25, 8, 26, 27, 37, 38, 39] (by decide +kernel) (by decide +kernel)
set_option maxRecDepth 20000 in
theorem gX6_stage_Jx4a65c_get_915e3 : GoodIn wsX6_stage (wsV RX6 78 RJx4a65c yJx4a65c_get_915e3 wsJx4a65c_get_915e3) := goodIn_app (goodIn_of _ (by decide +kernel)) ggX6_stage_Jx4a65c_get_915e3
theorem dX6_stage_0 : decode cX6_stage 0 = .ok (.iload_n 1, 1) := by decide +kernel
theorem dX6_stage_1 : decode cX6_stage 1 = .ok (.ifCond .lt 14, 3) := by decide +kernel
theorem dX6_stage_4 : decode cX6_stage 4 = .ok (.iload_n 1, 1) := by decide +kernel
theorem dX6_stage_5 : decode cX6_stage 5 = .ok (.aload_n 0, 1) := by decide +kernel
theorem dX6_stage_6 : decode cX6_stage 6 = .ok (.getfield 25, 3) := by decide +kernel
theorem dX6_stage_9 : decode cX6_stage 9 = .ok (.invokevirtual 74, 3) := by decide +kernel
theorem dX6_stage_12 : decode cX6_stage 12 = .ok (.if_icmp .lt 13, 3) := by decide +kernel
theorem dX6_stage_15 : decode cX6_stage 15 = .ok (.new 213, 3) := by decide +kernel
theorem dX6_stage_18 : decode cX6_stage 18 = .ok (.dup, 1) := by decide +kernel
theorem dX6_stage_19 : decode cX6_stage 19 = .ok (.ldc 215, 2) := by decide +kernel
theorem dX6_stage_21 : decode cX6_stage 21 = .ok (.invokespecial 217, 3) := by decide +kernel
theorem dX6_stage_24 : decode cX6_stage 24 = .ok (.athrow, 1) := by decide +kernel
theorem dX6_stage_25 : decode cX6_stage 25 = .ok (.aload_n 0, 1) := by decide +kernel
theorem dX6_stage_26 : decode cX6_stage 26 = .ok (.getfield 25, 3) := by decide +kernel
theorem dX6_stage_29 : decode cX6_stage 29 = .ok (.iload_n 1, 1) := by decide +kernel
theorem dX6_stage_30 : decode cX6_stage 30 = .ok (.invokevirtual 78, 3) := by decide +kernel
theorem dX6_stage_33 : decode cX6_stage 33 = .ok (.checkcast 210, 3) := by decide +kernel
theorem dX6_stage_36 : decode cX6_stage 36 = .ok (.getfield 218, 3) := by decide +kernel
theorem dX6_stage_39 : decode cX6_stage 39 = .ok (.ireturn, 1) := by decide +kernel
set_option maxRecDepth 20000 in
theorem ggX6_stages_Jx4a65c_size_8abf5 : GoodIn wsX6_stages wsJx4a65c_size_8abf5 := goodIn_r _ [11, 12, 39, 40, 41] (by decide +kernel) (by decide +kernel)
set_option maxRecDepth 20000 in
theorem gX6_stages_Jx4a65c_size_8abf5 : GoodIn wsX6_stages (wsV RX6 74 RJx4a65c yJx4a65c_size_8abf5 wsJx4a65c_size_8abf5) := goodIn_app (goodIn_of _ (by decide +kernel)) ggX6_stages_Jx4a65c_size_8abf5
set_option maxRecDepth 20000 in
theorem ggX6_stages_Jx4a65c_get_915e3 : GoodIn wsX6_stages wsJx4a65c_get_915e3 := goodIn_r _ [16, 12, 17, 18, 19, 20, 21, 22, 23, 24, 25, 26, 27, 10, 28, 29, 39, 40, 41] (by decide +kernel) (by decide +kernel)
set_option maxRecDepth 20000 in
theorem gX6_stages_Jx4a65c_get_915e3 : GoodIn wsX6_stages (wsV RX6 78 RJx4a65c yJx4a65c_get_915e3 wsJx4a65c_get_915e3) := goodIn_app (goodIn_of _ (by decide +kernel)) ggX6_stages_Jx4a65c_get_915e3
theorem dX6_stages_0 : decode cX6_stages 0 = .ok (.iconst 0, 1) := by decide +kernel
theorem dX6_stages_1 : decode cX6_stages 1 = .ok (.istore_n 1, 1) := by decide +kernel
theorem dX6_stages_2 : decode cX6_stages 2 = .ok (.iconst 0, 1) := by decide +kernel
theorem dX6_stages_3 : decode cX6_stages 3 = .ok (.istore_n 2, 1) := by decide +kernel
theorem dX6_stages_4 : decode cX6_stages 4 = .ok (.iload_n 2, 1) := by decide +kernel
theorem dX6_stages_5 : decode cX6_stages 5 = .ok (.aload_n 0, 1) := by decide +kernel
theorem dX6_stages_6 : decode cX6_stages 6 = .ok (.getfield 25, 3) := by decide +kernel
theorem dX6_stages_9 : decode cX6_stages 9 = .ok (.invokevirtual 74, 3) := by decide +kernel
theorem dX6_stages_12 : decode cX6_stages 12 = .ok (.if_icmp .ge 30, 3) := by decide +kernel
theorem dX6_stages_15 : decode cX6_stages 15 = .ok (.iload_n 1, 1) := by decide +kernel
theorem dX6_stages_16 : decode cX6_stages 16 = .ok (.aload_n 0, 1) := by decide +kernel
theorem dX6_stages_17 : decode cX6_stages 17 = .ok (.getfield 25, 3) := by decide +kernel
theorem dX6_stages_20 : decode cX6_stages 20 = .ok (.iload_n 2, 1) := by decide +kernel
theorem dX6_stages_21 : decode cX6_stages 21 = .ok (.invokevirtual 78, 3) := by decide +kernel
theorem dX6_stages_24 : decode cX6_stages 24 = .ok (.checkcast 210, 3) := by decide +kernel
theorem dX6_stages_27 : decode cX6_stages 27 = .ok (.getfield 218, 3) := by decide +kernel
theorem dX6_stages_30 : decode cX6_stages 30 = .ok (.iconst 1, 1) := by decide +kernel
theorem dX6_stages_31 : decode cX6_stages 31 = .ok (.iadd, 1) := by decide +kernel
theorem dX6_stages_32 : decode cX6_stages 32 = .ok (.invokestatic 221, 3) := by decide +kernel
theorem dX6_stages_35 : decode cX6_stages 35 = .ok (.istore_n 1, 1) := by decide +kernel
theorem dX6_stages_36 : decode cX6_stages 36 = .ok (.iinc 2 1, 3) := by decide +kernel
theorem dX6_stages_39 : decode cX6_stages 39 = .ok (.goto (-35), 3) := by decide +kernel
theorem dX6_stages_42 : decode cX6_stages 42 = .ok (.iload_n 1, 1) := by decide +kernel
theorem dX6_stages_43 : decode cX6_stages 43 = .ok (.ireturn, 1) := by decide +kernel
set_option maxRecDepth 20000 in
theorem ggX6_run_X6_refuseDuringWalk : GoodIn wsX6_run wsX6_refuseDuringWalk := goodIn_ca (goodIn_r _ [6, 7, 8, 9, 72, 73, 74, 75, 76, 77] (by decide +kernel) (by decide +kernel)) (goodIn_sub (fun _ h => List.mem_cons_of_mem _ (List.mem_append_right _ h)) (by decide +kernel))
set_option maxRecDepth 20000 in
theorem gX6_run_X6_refuseDuringWalk : GoodIn wsX6_run (wsV RX6 39 RX6 yX6_refuseDuringWalk wsX6_refuseDuringWalk) := goodIn_app (goodIn_of _ (by decide +kernel)) ggX6_run_X6_refuseDuringWalk
set_option maxRecDepth 20000 in
theorem ggX6_run_X6_stages : GoodIn wsX6_run wsX6_stages := goodIn_r _ [13, 14, 15, 16, 17, 18, 19, 20, 21, 22, 23, 24, 25, 26, 27, 28, 29, 30, 31, 32, 33, 34, 35, 36, 37, 38, 39, 40, 41, 42, 72, 73, 74, 75, 76, 77, 78, 79, 80, 81, 82, 83] (by decide +kernel) (by decide +kernel)
set_option maxRecDepth 20000 in
theorem gX6_run_X6_stages : GoodIn wsX6_run (wsV RX6 226 RX6 yX6_stages wsX6_stages) := goodIn_app (goodIn_of _ (by decide +kernel)) ggX6_run_X6_stages
set_option maxRecDepth 20000 in
theorem ggX6_run_X6_runStage : GoodIn wsX6_run wsX6_runStage := goodIn_r _ [46, 14, 15, 20, 21, 22, 23, 24, 25, 26, 27, 28, 29, 30, 31, 32, 33, 34, 35, 36, 37, 38, 39, 40, 41, 42, 47, 48, 49, 5, 50, 51, 52, 53, 1, 54, 55, 56, 57, 58, 59, 60, 61, 62, 63, 64, 65, 66, 67, 68, 69, 70, 71, 72, 73, 74, 75, 76, 77, 78, 79, 80, 81, 82, 83, 84, 85, 86, 87, 88, 89, 90, 91] (by decide +kernel) (by decide +kernel)
set_option maxRecDepth 20000 in
theorem gX6_run_X6_runStage : GoodIn wsX6_run (wsV RX6 229 RX6 yX6_runStage wsX6_runStage) := goodIn_app (goodIn_of _ (by decide +kernel)) ggX6_run_X6_runStage
theorem dX6_run_0 : decode cX6_run 0 = .ok (.aload_n 0, 1) := by decide +kernel
theorem dX6_run_1 : decode cX6_run 1 = .ok (.invokevirtual 39, 3) := by decide +kernel
theorem dX6_run_4 : decode cX6_run 4 = .ok (.aload_n 0, 1) := by decide +kernel
theorem dX6_run_5 : decode cX6_run 5 = .ok (.dup, 1) := by decide +kernel
theorem dX6_run_6 : decode cX6_run 6 = .ok (.getfield 32, 3) := by decide +kernel
theorem dX6_run_9 : decode cX6_run 9 = .ok (.iconst 1, 1) := by decide +kernel
theorem dX6_run_10 : decode cX6_run 10 = .ok (.iadd, 1) := by decide +kernel
theorem dX6_run_11 : decode cX6_run 11 = .ok (.putfield 32, 3) := by decide +kernel
theorem dX6_run_14 : decode cX6_run 14 = .ok (.aload_n 0, 1) := by decide +kernel
theorem dX6_run_15 : decode cX6_run 15 = .ok (.invokevirtual 226, 3) := by decide +kernel
theorem dX6_run_18 : decode cX6_run 18 = .ok (.istore_n 1, 1) := by decide +kernel
theorem dX6_run_19 : decode cX6_run 19 = .ok (.iconst 0, 1) := by decide +kernel
theorem dX6_run_20 : decode cX6_run 20 = .ok (.istore_n 2, 1) := by decide +kernel
theorem dX6_run_21 : decode cX6_run 21 = .ok (.iconst 0, 1) := by decide +kernel
theorem dX6_run_22 : decode cX6_run 22 = .ok (.istore_n 3, 1) := by decide +kernel
theorem dX6_run_23 : decode cX6_run 23 = .ok (.iload_n 3, 1) := by decide +kernel
theorem dX6_run_24 : decode cX6_run 24 = .ok (.iload_n 1, 1) := by decide +kernel
theorem dX6_run_25 : decode cX6_run 25 = .ok (.if_icmp .ge 17, 3) := by decide +kernel
theorem dX6_run_28 : decode cX6_run 28 = .ok (.iload_n 2, 1) := by decide +kernel
theorem dX6_run_29 : decode cX6_run 29 = .ok (.aload_n 0, 1) := by decide +kernel
theorem dX6_run_30 : decode cX6_run 30 = .ok (.iload_n 3, 1) := by decide +kernel
theorem dX6_run_31 : decode cX6_run 31 = .ok (.invokevirtual 229, 3) := by decide +kernel
theorem dX6_run_34 : decode cX6_run 34 = .ok (.iadd, 1) := by decide +kernel
theorem dX6_run_35 : decode cX6_run 35 = .ok (.istore_n 2, 1) := by decide +kernel
theorem dX6_run_36 : decode cX6_run 36 = .ok (.iinc 3 1, 3) := by decide +kernel
theorem dX6_run_39 : decode cX6_run 39 = .ok (.goto (-16), 3) := by decide +kernel
theorem dX6_run_42 : decode cX6_run 42 = .ok (.iload_n 2, 1) := by decide +kernel
theorem dX6_run_43 : decode cX6_run 43 = .ok (.ireturn, 1) := by decide +kernel
theorem dX6_tick_0 : decode cX6_tick 0 = .ok (.aload_n 0, 1) := by decide +kernel
theorem dX6_tick_1 : decode cX6_tick 1 = .ok (.getfield 32, 3) := by decide +kernel
theorem dX6_tick_4 : decode cX6_tick 4 = .ok (.ireturn, 1) := by decide +kernel
theorem dX6_refuseDuringWalk_0 : decode cX6_refuseDuringWalk 0 = .ok (.aload_n 0, 1) := by decide +kernel
theorem dX6_refuseDuringWalk_1 : decode cX6_refuseDuringWalk 1 = .ok (.getfield 28, 3) := by decide +kernel
theorem dX6_refuseDuringWalk_4 : decode cX6_refuseDuringWalk 4 = .ok (.ifnull 13, 3) := by decide +kernel
theorem dX6_refuseDuringWalk_7 : decode cX6_refuseDuringWalk 7 = .ok (.new 113, 3) := by decide +kernel
theorem dX6_refuseDuringWalk_10 : decode cX6_refuseDuringWalk 10 = .ok (.dup, 1) := by decide +kernel
theorem dX6_refuseDuringWalk_11 : decode cX6_refuseDuringWalk 11 = .ok (.ldc 233, 2) := by decide +kernel
theorem dX6_refuseDuringWalk_13 : decode cX6_refuseDuringWalk 13 = .ok (.invokespecial 117, 3) := by decide +kernel
theorem dX6_refuseDuringWalk_16 : decode cX6_refuseDuringWalk 16 = .ok (.athrow, 1) := by decide +kernel
theorem dX6_refuseDuringWalk_17 : decode cX6_refuseDuringWalk 17 = .ok (.return_, 1) := by decide +kernel
theorem dX6_walkThatGoesOn_0 : decode cX6_walkThatGoesOn 0 = .ok (.aload_n 0, 1) := by decide +kernel
theorem dX6_walkThatGoesOn_1 : decode cX6_walkThatGoesOn 1 = .ok (.getfield 28, 3) := by decide +kernel
theorem dX6_walkThatGoesOn_4 : decode cX6_walkThatGoesOn 4 = .ok (.astore_n 1, 1) := by decide +kernel
theorem dX6_walkThatGoesOn_5 : decode cX6_walkThatGoesOn 5 = .ok (.aload_n 1, 1) := by decide +kernel
theorem dX6_walkThatGoesOn_6 : decode cX6_walkThatGoesOn 6 = .ok (.ifnonnull 13, 3) := by decide +kernel
theorem dX6_walkThatGoesOn_9 : decode cX6_walkThatGoesOn 9 = .ok (.new 113, 3) := by decide +kernel
theorem dX6_walkThatGoesOn_12 : decode cX6_walkThatGoesOn 12 = .ok (.dup, 1) := by decide +kernel
theorem dX6_walkThatGoesOn_13 : decode cX6_walkThatGoesOn 13 = .ok (.ldc 235, 2) := by decide +kernel
theorem dX6_walkThatGoesOn_15 : decode cX6_walkThatGoesOn 15 = .ok (.invokespecial 117, 3) := by decide +kernel
theorem dX6_walkThatGoesOn_18 : decode cX6_walkThatGoesOn 18 = .ok (.athrow, 1) := by decide +kernel
theorem dX6_walkThatGoesOn_19 : decode cX6_walkThatGoesOn 19 = .ok (.aload_n 1, 1) := by decide +kernel
theorem dX6_walkThatGoesOn_20 : decode cX6_walkThatGoesOn 20 = .ok (.areturn, 1) := by decide +kernel
theorem dX6_refuseNoKind_0 : decode cX6_refuseNoKind 0 = .ok (.iload_n 0, 1) := by decide +kernel
theorem dX6_refuseNoKind_1 : decode cX6_refuseNoKind 1 = .ok (.ifCond .lt 9, 3) := by decide +kernel
theorem dX6_refuseNoKind_4 : decode cX6_refuseNoKind 4 = .ok (.iload_n 0, 1) := by decide +kernel
theorem dX6_refuseNoKind_5 : decode cX6_refuseNoKind 5 = .ok (.bipush 6, 2) := by decide +kernel
theorem dX6_refuseNoKind_7 : decode cX6_refuseNoKind 7 = .ok (.if_icmp .lt 13, 3) := by decide +kernel
theorem dX6_refuseNoKind_10 : decode cX6_refuseNoKind 10 = .ok (.new 185, 3) := by decide +kernel
theorem dX6_refuseNoKind_13 : decode cX6_refuseNoKind 13 = .ok (.dup, 1) := by decide +kernel
theorem dX6_refuseNoKind_14 : decode cX6_refuseNoKind 14 = .ok (.ldc 237, 2) := by decide +kernel
theorem dX6_refuseNoKind_16 : decode cX6_refuseNoKind 16 = .ok (.invokespecial 189, 3) := by decide +kernel
theorem dX6_refuseNoKind_19 : decode cX6_refuseNoKind 19 = .ok (.athrow, 1) := by decide +kernel
theorem dX6_refuseNoKind_20 : decode cX6_refuseNoKind 20 = .ok (.return_, 1) := by decide +kernel
theorem dX6_refuseNoSet_0 : decode cX6_refuseNoSet 0 = .ok (.iload_n 0, 1) := by decide +kernel
theorem dX6_refuseNoSet_1 : decode cX6_refuseNoSet 1 = .ok (.ifCond .lt 9, 3) := by decide +kernel
theorem dX6_refuseNoSet_4 : decode cX6_refuseNoSet 4 = .ok (.iload_n 0, 1) := by decide +kernel
theorem dX6_refuseNoSet_5 : decode cX6_refuseNoSet 5 = .ok (.bipush 63, 2) := by decide +kernel
theorem dX6_refuseNoSet_7 : decode cX6_refuseNoSet 7 = .ok (.if_icmp .le 13, 3) := by decide +kernel
theorem dX6_refuseNoSet_10 : decode cX6_refuseNoSet 10 = .ok (.new 185, 3) := by decide +kernel
theorem dX6_refuseNoSet_13 : decode cX6_refuseNoSet 13 = .ok (.dup, 1) := by decide +kernel
theorem dX6_refuseNoSet_14 : decode cX6_refuseNoSet 14 = .ok (.ldc 239, 2) := by decide +kernel
theorem dX6_refuseNoSet_16 : decode cX6_refuseNoSet 16 = .ok (.invokespecial 189, 3) := by decide +kernel
theorem dX6_refuseNoSet_19 : decode cX6_refuseNoSet 19 = .ok (.athrow, 1) := by decide +kernel
theorem dX6_refuseNoSet_20 : decode cX6_refuseNoSet 20 = .ok (.return_, 1) := by decide +kernel
theorem dX6_refuseCircle_0 : decode cX6_refuseCircle 0 = .ok (.aload_n 1, 1) := by decide +kernel
theorem dX6_refuseCircle_1 : decode cX6_refuseCircle 1 = .ok (.astore_n 2, 1) := by decide +kernel
theorem dX6_refuseCircle_2 : decode cX6_refuseCircle 2 = .ok (.aload_n 2, 1) := by decide +kernel
theorem dX6_refuseCircle_3 : decode cX6_refuseCircle 3 = .ok (.ifnull 26, 3) := by decide +kernel
theorem dX6_refuseCircle_6 : decode cX6_refuseCircle 6 = .ok (.aload_n 2, 1) := by decide +kernel
theorem dX6_refuseCircle_7 : decode cX6_refuseCircle 7 = .ok (.aload_n 0, 1) := by decide +kernel
theorem dX6_refuseCircle_8 : decode cX6_refuseCircle 8 = .ok (.if_acmp .ne 13, 3) := by decide +kernel
theorem dX6_refuseCircle_11 : decode cX6_refuseCircle 11 = .ok (.new 185, 3) := by decide +kernel
theorem dX6_refuseCircle_14 : decode cX6_refuseCircle 14 = .ok (.dup, 1) := by decide +kernel
theorem dX6_refuseCircle_15 : decode cX6_refuseCircle 15 = .ok (.ldc 241, 2) := by decide +kernel
theorem dX6_refuseCircle_17 : decode cX6_refuseCircle 17 = .ok (.invokespecial 189, 3) := by decide +kernel
theorem dX6_refuseCircle_20 : decode cX6_refuseCircle 20 = .ok (.athrow, 1) := by decide +kernel
theorem dX6_refuseCircle_21 : decode cX6_refuseCircle 21 = .ok (.aload_n 2, 1) := by decide +kernel
theorem dX6_refuseCircle_22 : decode cX6_refuseCircle 22 = .ok (.getfield 96, 3) := by decide +kernel
theorem dX6_refuseCircle_25 : decode cX6_refuseCircle 25 = .ok (.astore_n 2, 1) := by decide +kernel
theorem dX6_refuseCircle_26 : decode cX6_refuseCircle 26 = .ok (.goto (-24), 3) := by decide +kernel
theorem dX6_refuseCircle_29 : decode cX6_refuseCircle 29 = .ok (.return_, 1) := by decide +kernel
theorem dX6_slotOf_0 : decode cX6_slotOf 0 = .ok (.aload_n 0, 1) := by decide +kernel
theorem dX6_slotOf_1 : decode cX6_slotOf 1 = .ok (.getfield 11, 3) := by decide +kernel
theorem dX6_slotOf_4 : decode cX6_slotOf 4 = .ok (.iload_n 1, 1) := by decide +kernel
theorem dX6_slotOf_5 : decode cX6_slotOf 5 = .ok (.bipush 31, 2) := by decide +kernel
theorem dX6_slotOf_7 : decode cX6_slotOf 7 = .ok (.iand, 1) := by decide +kernel
theorem dX6_slotOf_8 : decode cX6_slotOf 8 = .ok (.aaload, 1) := by decide +kernel
theorem dX6_slotOf_9 : decode cX6_slotOf 9 = .ok (.areturn, 1) := by decide +kernel
set_option maxRecDepth 20000 in
theorem ggX6_entityOf_X6_slotOf : GoodIn wsX6_entityOf wsX6_slotOf := goodIn_r _ [7, 8, 16, 17, 18, 19, 20, 21] (by decide +kernel) (by decide +kernel)
set_option maxRecDepth 20000 in
theorem gX6_entityOf_X6_slotOf : GoodIn wsX6_entityOf (wsV RX6 100 RX6 yX6_slotOf wsX6_slotOf) := goodIn_app (goodIn_of _ (by decide +kernel)) ggX6_entityOf_X6_slotOf
set_option maxRecDepth 20000 in
theorem ggX6_entityOf_X1_isOf : GoodIn wsX6_entityOf wsX1_isOf := goodIn_r _ [13, 14, 15, 22, 23, 24, 25, 26, 27] (by decide +kernel) (by decide +kernel)
set_option maxRecDepth 20000 in
theorem gX6_entityOf_X1_isOf : GoodIn wsX6_entityOf (wsV RX6 103 RX1 yX1_isOf wsX1_isOf) := goodIn_app (goodIn_of _ (by decide +kernel)) ggX6_entityOf_X1_isOf
theorem dX6_entityOf_0 : decode cX6_entityOf 0 = .ok (.aload_n 0, 1) := by decide +kernel
theorem dX6_entityOf_1 : decode cX6_entityOf 1 = .ok (.iload_n 1, 1) := by decide +kernel
theorem dX6_entityOf_2 : decode cX6_entityOf 2 = .ok (.invokevirtual 100, 3) := by decide +kernel
theorem dX6_entityOf_5 : decode cX6_entityOf 5 = .ok (.astore_n 2, 1) := by decide +kernel
theorem dX6_entityOf_6 : decode cX6_entityOf 6 = .ok (.aload_n 2, 1) := by decide +kernel
theorem dX6_entityOf_7 : decode cX6_entityOf 7 = .ok (.iload_n 1, 1) := by decide +kernel
theorem dX6_entityOf_8 : decode cX6_entityOf 8 = .ok (.invokevirtual 103, 3) := by decide +kernel
theorem dX6_entityOf_11 : decode cX6_entityOf 11 = .ok (.ifCond .ne 13, 3) := by decide +kernel
theorem dX6_entityOf_14 : decode cX6_entityOf 14 = .ok (.new 243, 3) := by decide +kernel
theorem dX6_entityOf_17 : decode cX6_entityOf 17 = .ok (.dup, 1) := by decide +kernel
theorem dX6_entityOf_18 : decode cX6_entityOf 18 = .ok (.ldc 245, 2) := by decide +kernel
theorem dX6_entityOf_20 : decode cX6_entityOf 20 = .ok (.invokespecial 247, 3) := by decide +kernel
theorem dX6_entityOf_23 : decode cX6_entityOf 23 = .ok (.athrow, 1) := by decide +kernel
theorem dX6_entityOf_24 : decode cX6_entityOf 24 = .ok (.aload_n 2, 1) := by decide +kernel
theorem dX6_entityOf_25 : decode cX6_entityOf 25 = .ok (.areturn, 1) := by decide +kernel
set_option maxRecDepth 20000 in
theorem ggX6_ownerOf_X6_entityOf : GoodIn wsX6_ownerOf wsX6_entityOf := goodIn_ca (goodIn_r _ [7, 8, 9, 10, 11, 12, 6, 13, 14, 15, 16, 17, 18, 19, 20, 21, 32, 33, 34, 35, 36, 37, 38, 39, 40, 41, 42, 43] (by decide +kernel) (by decide +kernel)) (goodIn_sub (fun _ h => List.mem_cons_of_mem _ (List.mem_append_left _ (List.mem_append_right _ h))) (by decide +kernel))
set_option maxRecDepth 20000 in
theorem gX6_ownerOf_X6_entityOf : GoodIn wsX6_ownerOf (wsV RX6 66 RX6 yX6_entityOf wsX6_entityOf) := goodIn_app (goodIn_of _ (by decide +kernel)) ggX6_ownerOf_X6_entityOf
set_option maxRecDepth 20000 in
theorem ggX6_ownerOf_X6_refuseNoKind : GoodIn wsX6_ownerOf wsX6_refuseNoKind := goodIn_ca (goodIn_r _ [24, 25, 26] (by decide +kernel) (by decide +kernel)) (goodIn_sub (fun _ h => List.mem_cons_of_mem _ (List.mem_append_right _ h)) (by decide +kernel))
set_option maxRecDepth 20000 in
theorem gX6_ownerOf_X6_refuseNoKind : GoodIn wsX6_ownerOf (va_wsS RX6 107 yX6_refuseNoKind wsX6_refuseNoKind) := goodIn_app (goodIn_of _ (by decide +kernel)) ggX6_ownerOf_X6_refuseNoKind
set_option maxRecDepth 20000 in
theorem ggX6_ownerOf_X1_has : GoodIn wsX6_ownerOf wsX1_has := goodIn_r _ [30, 31, 38, 39, 40, 41, 42, 43] (by decide +kernel) (by decide +kernel)
set_option maxRecDepth 20000 in
theorem gX6_ownerOf_X1_has : GoodIn wsX6_ownerOf (wsV RX6 110 RX1 yX1_has wsX1_has) := goodIn_app (goodIn_of _ (by decide +kernel)) ggX6_ownerOf_X1_has
theorem dX6_ownerOf_0 : decode cX6_ownerOf 0 = .ok (.aload_n 0, 1) := by decide +kernel
theorem dX6_ownerOf_1 : decode cX6_ownerOf 1 = .ok (.iload_n 1, 1) := by decide +kernel
theorem dX6_ownerOf_2 : decode cX6_ownerOf 2 = .ok (.invokevirtual 66, 3) := by decide +kernel
theorem dX6_ownerOf_5 : decode cX6_ownerOf 5 = .ok (.astore_n 3, 1) := by decide +kernel
theorem dX6_ownerOf_6 : decode cX6_ownerOf 6 = .ok (.iload_n 2, 1) := by decide +kernel
theorem dX6_ownerOf_7 : decode cX6_ownerOf 7 = .ok (.invokestatic 107, 3) := by decide +kernel
theorem dX6_ownerOf_10 : decode cX6_ownerOf 10 = .ok (.aload_n 3, 1) := by decide +kernel
theorem dX6_ownerOf_11 : decode cX6_ownerOf 11 = .ok (.iload_n 2, 1) := by decide +kernel
theorem dX6_ownerOf_12 : decode cX6_ownerOf 12 = .ok (.invokevirtual 110, 3) := by decide +kernel
theorem dX6_ownerOf_15 : decode cX6_ownerOf 15 = .ok (.ifCond .ne 13, 3) := by decide +kernel
theorem dX6_ownerOf_18 : decode cX6_ownerOf 18 = .ok (.new 113, 3) := by decide +kernel
theorem dX6_ownerOf_21 : decode cX6_ownerOf 21 = .ok (.dup, 1) := by decide +kernel
theorem dX6_ownerOf_22 : decode cX6_ownerOf 22 = .ok (.ldc 248, 2) := by decide +kernel
theorem dX6_ownerOf_24 : decode cX6_ownerOf 24 = .ok (.invokespecial 117, 3) := by decide +kernel
theorem dX6_ownerOf_27 : decode cX6_ownerOf 27 = .ok (.athrow, 1) := by decide +kernel
theorem dX6_ownerOf_28 : decode cX6_ownerOf 28 = .ok (.aload_n 3, 1) := by decide +kernel
theorem dX6_ownerOf_29 : decode cX6_ownerOf 29 = .ok (.areturn, 1) := by decide +kernel
theorem dX6_lowestFree_0 : decode cX6_lowestFree 0 = .ok (.iconst 0, 1) := by decide +kernel
theorem dX6_lowestFree_1 : decode cX6_lowestFree 1 = .ok (.istore_n 1, 1) := by decide +kernel
theorem dX6_lowestFree_2 : decode cX6_lowestFree 2 = .ok (.iload_n 1, 1) := by decide +kernel
theorem dX6_lowestFree_3 : decode cX6_lowestFree 3 = .ok (.bipush 32, 2) := by decide +kernel
theorem dX6_lowestFree_5 : decode cX6_lowestFree 5 = .ok (.if_icmp .ge 28, 3) := by decide +kernel
theorem dX6_lowestFree_8 : decode cX6_lowestFree 8 = .ok (.aload_n 0, 1) := by decide +kernel
theorem dX6_lowestFree_9 : decode cX6_lowestFree 9 = .ok (.getfield 11, 3) := by decide +kernel
theorem dX6_lowestFree_12 : decode cX6_lowestFree 12 = .ok (.iload_n 1, 1) := by decide +kernel
theorem dX6_lowestFree_13 : decode cX6_lowestFree 13 = .ok (.aaload, 1) := by decide +kernel
theorem dX6_lowestFree_14 : decode cX6_lowestFree 14 = .ok (.getfield 46, 3) := by decide +kernel
theorem dX6_lowestFree_17 : decode cX6_lowestFree 17 = .ok (.ifCond .ne 10, 3) := by decide +kernel
theorem dX6_lowestFree_20 : decode cX6_lowestFree 20 = .ok (.aload_n 0, 1) := by decide +kernel
theorem dX6_lowestFree_21 : decode cX6_lowestFree 21 = .ok (.getfield 11, 3) := by decide +kernel
theorem dX6_lowestFree_24 : decode cX6_lowestFree 24 = .ok (.iload_n 1, 1) := by decide +kernel
theorem dX6_lowestFree_25 : decode cX6_lowestFree 25 = .ok (.aaload, 1) := by decide +kernel
theorem dX6_lowestFree_26 : decode cX6_lowestFree 26 = .ok (.areturn, 1) := by decide +kernel
theorem dX6_lowestFree_27 : decode cX6_lowestFree 27 = .ok (.iinc 1 1, 3) := by decide +kernel
theorem dX6_lowestFree_30 : decode cX6_lowestFree 30 = .ok (.goto (-28), 3) := by decide +kernel
theorem dX6_lowestFree_33 : decode cX6_lowestFree 33 = .ok (.new 113, 3) := by decide +kernel
theorem dX6_lowestFree_36 : decode cX6_lowestFree 36 = .ok (.dup, 1) := by decide +kernel
theorem dX6_lowestFree_37 : decode cX6_lowestFree 37 = .ok (.ldc 250, 2) := by decide +kernel
theorem dX6_lowestFree_39 : decode cX6_lowestFree 39 = .ok (.invokespecial 117, 3) := by decide +kernel
theorem dX6_lowestFree_42 : decode cX6_lowestFree 42 = .ok (.athrow, 1) := by decide +kernel
set_option maxRecDepth 20000 in
theorem ggX6_familyOf_Jx4a65c_init_da8c8 : GoodIn wsX6_familyOf wsJx4a65c_init_da8c8 := goodIn_r _ [8, 9, 10, 11, 12, 13, 14, 15, 16, 17, 18, 19, 20, 21, 22, 105, 106, 107] (by decide +kernel) (by decide +kernel)
set_option maxRecDepth 20000 in
theorem gX6_familyOf_Jx4a65c_init_da8c8 : GoodIn wsX6_familyOf (wsJx4a65c_init_da8c8) := ggX6_familyOf_Jx4a65c_init_da8c8
set_option maxRecDepth 20000 in
theorem ggX6_familyOf_Jx4a65c_add_9ea2d : GoodIn wsX6_familyOf wsJx4a65c_add_9ea2d := goodIn_r _ [26, 27, 28, 10, 29, 30, 31, 32, 3, 33, 34, 35, 36, 37, 38, 39, 40, 41, 9, 42, 43, 44, 45, 46, 47, 48, 49, 50, 51, 52, 53, 54, 55, 56, 57, 58, 59, 60, 61, 62, 63, 64, 65, 66, 67, 68, 69, 70, 71, 72, 73, 74, 75, 105, 106, 107] (by decide +kernel) (by decide +kernel)
set_option maxRecDepth 20000 in
theorem gX6_familyOf_Jx4a65c_add_9ea2d : GoodIn wsX6_familyOf (wsV RX6 59 RJx4a65c yJx4a65c_add_9ea2d wsJx4a65c_add_9ea2d) := goodIn_app (goodIn_of _ (by decide +kernel)) ggX6_familyOf_Jx4a65c_add_9ea2d
set_option maxRecDepth 20000 in
theorem ggX6_familyOf_Jx4a65c_size_8abf5 : GoodIn wsX6_familyOf wsJx4a65c_size_8abf5 := goodIn_r _ [79, 29, 105, 106, 107] (by decide +kernel) (by decide +kernel)
set_option maxRecDepth 20000 in
theorem gX6_familyOf_Jx4a65c_size_8abf5 : GoodIn wsX6_familyOf (wsV RX6 74 RJx4a65c yJx4a65c_size_8abf5 wsJx4a65c_size_8abf5) := goodIn_app (goodIn_of _ (by decide +kernel)) ggX6_familyOf_Jx4a65c_size_8abf5
set_option maxRecDepth 20000 in
theorem ggX6_familyOf_Jx4a65c_get_915e3 : GoodIn wsX6_familyOf wsJx4a65c_get_915e3 := goodIn_r _ [83, 29, 84, 85, 86, 87, 88, 89, 90, 91, 92, 93, 94, 3, 95, 10, 105, 106, 107] (by decide +kernel) (by decide +kernel)
set_option maxRecDepth 20000 in
theorem gX6_familyOf_Jx4a65c_get_915e3 : GoodIn wsX6_familyOf (wsV RX6 78 RJx4a65c yJx4a65c_get_915e3 wsJx4a65c_get_915e3) := goodIn_app (goodIn_of _ (by decide +kernel)) ggX6_familyOf_Jx4a65c_get_915e3
set_option maxRecDepth 20000 in
theorem ggX6_familyOf_Jx4a65c_add_7a177 : GoodIn wsX6_familyOf wsJx4a65c_add_7a177 := goodIn_r _ [99, 27, 28, 29, 10, 100, 73, 74, 75, 101, 102, 103, 3, 104, 34, 35, 36, 37, 38, 39, 40, 41, 9, 42, 43, 44, 45, 46, 47, 48, 49, 50, 51, 52, 53, 54, 55, 56, 57, 58, 59, 60, 61, 62, 63, 64, 65, 66, 67, 68, 69, 70, 71, 72, 105, 106, 107] (by decide +kernel) (by decide +kernel)
set_option maxRecDepth 20000 in
theorem gX6_familyOf_Jx4a65c_add_7a177 : GoodIn wsX6_familyOf (wsV RX6 252 RJx4a65c yJx4a65c_add_7a177 wsJx4a65c_add_7a177) := goodIn_app (goodIn_of _ (by decide +kernel)) ggX6_familyOf_Jx4a65c_add_7a177
theorem dX6_familyOf_0 : decode cX6_familyOf 0 = .ok (.new 15, 3) := by decide +kernel
theorem dX6_familyOf_3 : decode cX6_familyOf 3 = .ok (.dup, 1) := by decide +kernel
theorem dX6_familyOf_4 : decode cX6_familyOf 4 = .ok (.invokespecial 17, 3) := by decide +kernel
theorem dX6_familyOf_7 : decode cX6_familyOf 7 = .ok (.astore_n 2, 1) := by decide +kernel
theorem dX6_familyOf_8 : decode cX6_familyOf 8 = .ok (.aload_n 2, 1) := by decide +kernel
theorem dX6_familyOf_9 : decode cX6_familyOf 9 = .ok (.aload_n 1, 1) := by decide +kernel
theorem dX6_familyOf_10 : decode cX6_familyOf 10 = .ok (.invokevirtual 59, 3) := by decide +kernel
theorem dX6_familyOf_13 : decode cX6_familyOf 13 = .ok (.pop, 1) := by decide +kernel
theorem dX6_familyOf_14 : decode cX6_familyOf 14 = .ok (.iconst 0, 1) := by decide +kernel
theorem dX6_familyOf_15 : decode cX6_familyOf 15 = .ok (.istore_n 3, 1) := by decide +kernel
theorem dX6_familyOf_16 : decode cX6_familyOf 16 = .ok (.iload_n 3, 1) := by decide +kernel
theorem dX6_familyOf_17 : decode cX6_familyOf 17 = .ok (.bipush 32, 2) := by decide +kernel
theorem dX6_familyOf_19 : decode cX6_familyOf 19 = .ok (.if_icmp .ge 71, 3) := by decide +kernel
theorem dX6_familyOf_22 : decode cX6_familyOf 22 = .ok (.iload_n 3, 1) := by decide +kernel
theorem dX6_familyOf_23 : decode cX6_familyOf 23 = .ok (.aload_n 2, 1) := by decide +kernel
theorem dX6_familyOf_24 : decode cX6_familyOf 24 = .ok (.invokevirtual 74, 3) := by decide +kernel
theorem dX6_familyOf_27 : decode cX6_familyOf 27 = .ok (.if_icmp .ge 63, 3) := by decide +kernel
theorem dX6_familyOf_30 : decode cX6_familyOf 30 = .ok (.aload_n 2, 1) := by decide +kernel
theorem dX6_familyOf_31 : decode cX6_familyOf 31 = .ok (.iload_n 3, 1) := by decide +kernel
theorem dX6_familyOf_32 : decode cX6_familyOf 32 = .ok (.invokevirtual 78, 3) := by decide +kernel
theorem dX6_familyOf_35 : decode cX6_familyOf 35 = .ok (.checkcast 9, 3) := by decide +kernel
theorem dX6_familyOf_38 : decode cX6_familyOf 38 = .ok (.astore 4, 2) := by decide +kernel
theorem dX6_familyOf_40 : decode cX6_familyOf 40 = .ok (.bipush 31, 2) := by decide +kernel
theorem dX6_familyOf_42 : decode cX6_familyOf 42 = .ok (.istore 5, 2) := by decide +kernel
theorem dX6_familyOf_44 : decode cX6_familyOf 44 = .ok (.iload 5, 2) := by decide +kernel
theorem dX6_familyOf_46 : decode cX6_familyOf 46 = .ok (.ifCond .lt 38, 3) := by decide +kernel
theorem dX6_familyOf_49 : decode cX6_familyOf 49 = .ok (.aload_n 0, 1) := by decide +kernel
theorem dX6_familyOf_50 : decode cX6_familyOf 50 = .ok (.getfield 11, 3) := by decide +kernel
theorem dX6_familyOf_53 : decode cX6_familyOf 53 = .ok (.iload 5, 2) := by decide +kernel
theorem dX6_familyOf_55 : decode cX6_familyOf 55 = .ok (.aaload, 1) := by decide +kernel
theorem dX6_familyOf_56 : decode cX6_familyOf 56 = .ok (.getfield 96, 3) := by decide +kernel
theorem dX6_familyOf_59 : decode cX6_familyOf 59 = .ok (.aload 4, 2) := by decide +kernel
theorem dX6_familyOf_61 : decode cX6_familyOf 61 = .ok (.if_acmp .ne 17, 3) := by decide +kernel
theorem dX6_familyOf_64 : decode cX6_familyOf 64 = .ok (.aload_n 2, 1) := by decide +kernel
theorem dX6_familyOf_65 : decode cX6_familyOf 65 = .ok (.iload_n 3, 1) := by decide +kernel
theorem dX6_familyOf_66 : decode cX6_familyOf 66 = .ok (.iconst 1, 1) := by decide +kernel
theorem dX6_familyOf_67 : decode cX6_familyOf 67 = .ok (.iadd, 1) := by decide +kernel
theorem dX6_familyOf_68 : decode cX6_familyOf 68 = .ok (.aload_n 0, 1) := by decide +kernel
theorem dX6_familyOf_69 : decode cX6_familyOf 69 = .ok (.getfield 11, 3) := by decide +kernel
theorem dX6_familyOf_72 : decode cX6_familyOf 72 = .ok (.iload 5, 2) := by decide +kernel
theorem dX6_familyOf_74 : decode cX6_familyOf 74 = .ok (.aaload, 1) := by decide +kernel
theorem dX6_familyOf_75 : decode cX6_familyOf 75 = .ok (.invokevirtual 252, 3) := by decide +kernel
theorem dX6_familyOf_78 : decode cX6_familyOf 78 = .ok (.iinc 5 (-1), 3) := by decide +kernel
theorem dX6_familyOf_81 : decode cX6_familyOf 81 = .ok (.goto (-37), 3) := by decide +kernel
theorem dX6_familyOf_84 : decode cX6_familyOf 84 = .ok (.iinc 3 1, 3) := by decide +kernel
theorem dX6_familyOf_87 : decode cX6_familyOf 87 = .ok (.goto (-71), 3) := by decide +kernel
theorem dX6_familyOf_90 : decode cX6_familyOf 90 = .ok (.aload_n 2, 1) := by decide +kernel
theorem dX6_familyOf_91 : decode cX6_familyOf 91 = .ok (.areturn, 1) := by decide +kernel
set_option maxRecDepth 20000 in
theorem ggX6_rowOf_Jx4a65c_size_8abf5 : GoodIn wsX6_rowOf wsJx4a65c_size_8abf5 := goodIn_r _ [10, 11, 113, 114, 115] (by decide +kernel) (by decide +kernel)
set_option maxRecDepth 20000 in
theorem gX6_rowOf_Jx4a65c_size_8abf5 : GoodIn wsX6_rowOf (wsV RX6 74 RJx4a65c yJx4a65c_size_8abf5 wsJx4a65c_size_8abf5) := goodIn_app (goodIn_of _ (by decide +kernel)) ggX6_rowOf_Jx4a65c_size_8abf5
set_option maxRecDepth 20000 in
theorem ggX6_rowOf_Jx4a65c_get_915e3 : GoodIn wsX6_rowOf wsJx4a65c_get_915e3 := goodIn_r _ [15, 11, 16, 17, 18, 19, 20, 21, 22, 23, 24, 25, 26, 9, 27, 28, 113, 114, 115] (by decide +kernel) (by decide +kernel)
set_option maxRecDepth 20000 in
theorem gX6_rowOf_Jx4a65c_get_915e3 : GoodIn wsX6_rowOf (wsV RX6 78 RJx4a65c yJx4a65c_get_915e3 wsJx4a65c_get_915e3) := goodIn_app (goodIn_of _ (by decide +kernel)) ggX6_rowOf_Jx4a65c_get_915e3
set_option maxRecDepth 20000 in
theorem ggX6_rowOf_X3_init : GoodIn wsX6_rowOf wsX3_init := goodIn_r _ [31, 32, 33, 34, 35, 36, 9, 37, 38, 39, 40, 41, 42, 28, 43, 44, 45, 46, 47, 48, 49, 50, 51, 52, 113, 114, 115, 111, 112] (by decide +kernel) (by decide +kernel)
set_option maxRecDepth 20000 in
theorem gX6_rowOf_X3_init : GoodIn wsX6_rowOf (wsX3_init) := ggX6_rowOf_X3_init
set_option maxRecDepth 20000 in
theorem ggX6_rowOf_Jx4a65c_add_9ea2d : GoodIn wsX6_rowOf wsJx4a65c_add_9ea2d := goodIn_r _ [56, 57, 58, 28, 11, 59, 60, 61, 9, 62, 63, 64, 65, 66, 67, 68, 69, 70, 42, 71, 72, 73, 74, 75, 76, 77, 78, 79, 80, 81, 82, 83, 84, 85, 86, 87, 88, 89, 90, 91, 92, 93, 94, 95, 96, 97, 98, 99, 100, 101, 102, 103, 104, 113, 114, 115] (by decide +kernel) (by decide +kernel)
set_option maxRecDepth 20000 in
theorem gX6_rowOf_Jx4a65c_add_9ea2d : GoodIn wsX6_rowOf (wsV RX6 59 RJx4a65c yJx4a65c_add_9ea2d wsJx4a65c_add_9ea2d) := goodIn_app (goodIn_of _ (by decide +kernel)) ggX6_rowOf_Jx4a65c_add_9ea2d
theorem dX6_rowOf_0 : decode cX6_rowOf 0 = .ok (.iconst 0, 1) := by decide +kernel
theorem dX6_rowOf_1 : decode cX6_rowOf 1 = .ok (.istore_n 2, 1) := by decide +kernel
theorem dX6_rowOf_2 : decode cX6_rowOf 2 = .ok (.iload_n 2, 1) := by decide +kernel
theorem dX6_rowOf_3 : decode cX6_rowOf 3 = .ok (.aload_n 0, 1) := by decide +kernel
theorem dX6_rowOf_4 : decode cX6_rowOf 4 = .ok (.getfield 18, 3) := by decide +kernel
theorem dX6_rowOf_7 : decode cX6_rowOf 7 = .ok (.invokevirtual 74, 3) := by decide +kernel
theorem dX6_rowOf_10 : decode cX6_rowOf 10 = .ok (.if_icmp .ge 31, 3) := by decide +kernel
theorem dX6_rowOf_13 : decode cX6_rowOf 13 = .ok (.aload_n 0, 1) := by decide +kernel
theorem dX6_rowOf_14 : decode cX6_rowOf 14 = .ok (.getfield 18, 3) := by decide +kernel
theorem dX6_rowOf_17 : decode cX6_rowOf 17 = .ok (.iload_n 2, 1) := by decide +kernel
theorem dX6_rowOf_18 : decode cX6_rowOf 18 = .ok (.invokevirtual 78, 3) := by decide +kernel
theorem dX6_rowOf_21 : decode cX6_rowOf 21 = .ok (.checkcast 55, 3) := by decide +kernel
theorem dX6_rowOf_24 : decode cX6_rowOf 24 = .ok (.astore_n 3, 1) := by decide +kernel
theorem dX6_rowOf_25 : decode cX6_rowOf 25 = .ok (.aload_n 3, 1) := by decide +kernel
theorem dX6_rowOf_26 : decode cX6_rowOf 26 = .ok (.getfield 142, 3) := by decide +kernel
theorem dX6_rowOf_29 : decode cX6_rowOf 29 = .ok (.iload_n 1, 1) := by decide +kernel
theorem dX6_rowOf_30 : decode cX6_rowOf 30 = .ok (.if_icmp .ne 5, 3) := by decide +kernel
theorem dX6_rowOf_33 : decode cX6_rowOf 33 = .ok (.aload_n 3, 1) := by decide +kernel
theorem dX6_rowOf_34 : decode cX6_rowOf 34 = .ok (.areturn, 1) := by decide +kernel
theorem dX6_rowOf_35 : decode cX6_rowOf 35 = .ok (.iinc 2 1, 3) := by decide +kernel
theorem dX6_rowOf_38 : decode cX6_rowOf 38 = .ok (.goto (-36), 3) := by decide +kernel
theorem dX6_rowOf_41 : decode cX6_rowOf 41 = .ok (.new 55, 3) := by decide +kernel
theorem dX6_rowOf_44 : decode cX6_rowOf 44 = .ok (.dup, 1) := by decide +kernel
theorem dX6_rowOf_45 : decode cX6_rowOf 45 = .ok (.iload_n 1, 1) := by decide +kernel
theorem dX6_rowOf_46 : decode cX6_rowOf 46 = .ok (.invokespecial 255, 3) := by decide +kernel
theorem dX6_rowOf_49 : decode cX6_rowOf 49 = .ok (.astore_n 2, 1) := by decide +kernel
theorem dX6_rowOf_50 : decode cX6_rowOf 50 = .ok (.aload_n 0, 1) := by decide +kernel
theorem dX6_rowOf_51 : decode cX6_rowOf 51 = .ok (.getfield 18, 3) := by decide +kernel
theorem dX6_rowOf_54 : decode cX6_rowOf 54 = .ok (.aload_n 2, 1) := by decide +kernel
theorem dX6_rowOf_55 : decode cX6_rowOf 55 = .ok (.invokevirtual 59, 3) := by decide +kernel
theorem dX6_rowOf_58 : decode cX6_rowOf 58 = .ok (.pop, 1) := by decide +kernel
theorem dX6_rowOf_59 : decode cX6_rowOf 59 = .ok (.aload_n 2, 1) := by decide +kernel
theorem dX6_rowOf_60 : decode cX6_rowOf 60 = .ok (.areturn, 1) := by decide +kernel
set_option maxRecDepth 20000 in
theorem ggX6_moveTo_X6_rowOf : GoodIn wsX6_moveTo wsX6_rowOf := goodIn_r _ [5, 6, 7, 8, 9, 10, 11, 12, 13, 14, 15, 16, 17, 18, 19, 20, 21, 22, 23, 24, 25, 26, 27, 28, 29, 30, 31, 32, 33, 34, 35, 36, 37, 38, 39, 40, 41, 42, 43, 44, 45, 46, 47, 48, 49, 50, 51, 52, 53, 54, 55, 56, 57, 58, 59, 60, 61, 62, 63, 64, 65, 66, 67, 68, 69, 70, 71, 72, 73, 74, 75, 76, 77, 78, 79, 80, 81, 82, 83, 84, 85, 86, 87, 88, 89, 90, 91, 92, 93, 94, 95, 96, 97, 98, 99, 100, 101, 102, 103, 104, 105, 106, 107, 108, 109, 138, 139, 140, 141, 142, 143, 136, 137, 144, 145, 146] (by decide +kernel) (by decide +kernel)
set_option maxRecDepth 20000 in
theorem gX6_moveTo_X6_rowOf : GoodIn wsX6_moveTo (wsV RX6 50 RX6 yX6_rowOf wsX6_rowOf) := goodIn_app (goodIn_of _ (by decide +kernel)) ggX6_moveTo_X6_rowOf
set_option maxRecDepth 20000 in
theorem ggX6_moveTo_X3_putOut : GoodIn wsX6_moveTo wsX3_putOut := goodIn_r _ [113, 42, 114, 115, 12, 13, 14, 15, 16, 116, 18, 19, 20, 21, 22, 23, 24, 25, 26, 27, 28, 29, 30, 31, 32, 33, 117, 118, 119, 120, 121, 122, 123, 124, 125, 126, 127, 128, 62, 63, 129, 107, 108, 109, 136, 137, 144, 145, 146] (by decide +kernel) (by decide +kernel)
set_option maxRecDepth 20000 in
theorem gX6_moveTo_X3_putOut : GoodIn wsX6_moveTo (wsV RX6 85 RX3 yX3_putOut wsX3_putOut) := goodIn_app (goodIn_of _ (by decide +kernel)) ggX6_moveTo_X3_putOut
set_option maxRecDepth 20000 in
theorem ggX6_moveTo_Jx4a65c_add_9ea2d : GoodIn wsX6_moveTo wsJx4a65c_add_9ea2d := goodIn_r _ [61, 62, 63, 33, 16, 64, 65, 66, 14, 67, 68, 69, 70, 71, 72, 73, 74, 75, 47, 76, 77, 78, 79, 80, 81, 82, 83, 84, 85, 86, 87, 88, 89, 90, 91, 92, 93, 94, 95, 96, 97, 98, 99, 100, 101, 102, 103, 104, 105, 106, 107, 108, 109, 144, 145, 146] (by decide +kernel) (by decide +kernel)
set_option maxRecDepth 20000 in
theorem gX6_moveTo_Jx4a65c_add_9ea2d : GoodIn wsX6_moveTo (wsV RX6 59 RJx4a65c yJx4a65c_add_9ea2d wsJx4a65c_add_9ea2d) := goodIn_app (goodIn_of _ (by decide +kernel)) ggX6_moveTo_Jx4a65c_add_9ea2d
theorem dX6_moveTo_0 : decode cX6_moveTo 0 = .ok (.aload_n 0, 1) := by decide +kernel
theorem dX6_moveTo_1 : decode cX6_moveTo 1 = .ok (.aload_n 1, 1) := by decide +kernel
theorem dX6_moveTo_2 : decode cX6_moveTo 2 = .ok (.getfield 82, 3) := by decide +kernel
theorem dX6_moveTo_5 : decode cX6_moveTo 5 = .ok (.invokevirtual 50, 3) := by decide +kernel
theorem dX6_moveTo_8 : decode cX6_moveTo 8 = .ok (.aload_n 1, 1) := by decide +kernel
theorem dX6_moveTo_9 : decode cX6_moveTo 9 = .ok (.invokevirtual 85, 3) := by decide +kernel
theorem dX6_moveTo_12 : decode cX6_moveTo 12 = .ok (.aload_n 1, 1) := by decide +kernel
theorem dX6_moveTo_13 : decode cX6_moveTo 13 = .ok (.iload_n 2, 1) := by decide +kernel
theorem dX6_moveTo_14 : decode cX6_moveTo 14 = .ok (.putfield 82, 3) := by decide +kernel
theorem dX6_moveTo_17 : decode cX6_moveTo 17 = .ok (.aload_n 0, 1) := by decide +kernel
theorem dX6_moveTo_18 : decode cX6_moveTo 18 = .ok (.iload_n 2, 1) := by decide +kernel
theorem dX6_moveTo_19 : decode cX6_moveTo 19 = .ok (.invokevirtual 50, 3) := by decide +kernel
theorem dX6_moveTo_22 : decode cX6_moveTo 22 = .ok (.getfield 54, 3) := by decide +kernel
theorem dX6_moveTo_25 : decode cX6_moveTo 25 = .ok (.aload_n 1, 1) := by decide +kernel
theorem dX6_moveTo_26 : decode cX6_moveTo 26 = .ok (.invokevirtual 59, 3) := by decide +kernel
theorem dX6_moveTo_29 : decode cX6_moveTo 29 = .ok (.pop, 1) := by decide +kernel
theorem dX6_moveTo_30 : decode cX6_moveTo 30 = .ok (.return_, 1) := by decide +kernel
set_option maxRecDepth 20000 in
theorem ggX6_rowNumbered_Jx4a65c_size_8abf5 : GoodIn wsX6_rowNumbered wsJx4a65c_size_8abf5 := goodIn_r _ [9, 10, 34, 35, 36] (by decide +kernel) (by decide +kernel)
set_option maxRecDepth 20000 in
theorem gX6_rowNumbered_Jx4a65c_size_8abf5 : GoodIn wsX6_rowNumbered (wsV RX6 74 RJx4a65c yJx4a65c_size_8abf5 wsJx4a65c_size_8abf5) := goodIn_app (goodIn_of _ (by decide +kernel)) ggX6_rowNumbered_Jx4a65c_size_8abf5
set_option maxRecDepth 20000 in
theorem ggX6_rowNumbered_Jx4a65c_get_915e3 : GoodIn wsX6_rowNumbered wsJx4a65c_get_915e3 := goodIn_r _ [14, 10, 15, 16, 17, 18, 19, 20, 21, 22, 23, 24, 25, 8, 26, 27, 34, 35, 36] (by decide +kernel) (by decide +kernel)
set_option maxRecDepth 20000 in
theorem gX6_rowNumbered_Jx4a65c_get_915e3 : GoodIn wsX6_rowNumbered (wsV RX6 78 RJx4a65c yJx4a65c_get_915e3 wsJx4a65c_get_915e3) := goodIn_app (goodIn_of _ (by decide +kernel)) ggX6_rowNumbered_Jx4a65c_get_915e3
theorem dX6_rowNumbered_0 : decode cX6_rowNumbered 0 = .ok (.iload_n 1, 1) := by decide +kernel
theorem dX6_rowNumbered_1 : decode cX6_rowNumbered 1 = .ok (.ifCond .lt 14, 3) := by decide +kernel
theorem dX6_rowNumbered_4 : decode cX6_rowNumbered 4 = .ok (.iload_n 1, 1) := by decide +kernel
theorem dX6_rowNumbered_5 : decode cX6_rowNumbered 5 = .ok (.aload_n 0, 1) := by decide +kernel
theorem dX6_rowNumbered_6 : decode cX6_rowNumbered 6 = .ok (.getfield 18, 3) := by decide +kernel
theorem dX6_rowNumbered_9 : decode cX6_rowNumbered 9 = .ok (.invokevirtual 74, 3) := by decide +kernel
theorem dX6_rowNumbered_12 : decode cX6_rowNumbered 12 = .ok (.if_icmp .lt 14, 3) := by decide +kernel
theorem dX6_rowNumbered_15 : decode cX6_rowNumbered 15 = .ok (.new 213, 3) := by decide +kernel
theorem dX6_rowNumbered_18 : decode cX6_rowNumbered 18 = .ok (.dup, 1) := by decide +kernel
theorem dX6_rowNumbered_19 : decode cX6_rowNumbered 19 = .ok (.ldc_w 256, 3) := by decide +kernel
theorem dX6_rowNumbered_22 : decode cX6_rowNumbered 22 = .ok (.invokespecial 217, 3) := by decide +kernel
theorem dX6_rowNumbered_25 : decode cX6_rowNumbered 25 = .ok (.athrow, 1) := by decide +kernel
theorem dX6_rowNumbered_26 : decode cX6_rowNumbered 26 = .ok (.aload_n 0, 1) := by decide +kernel
theorem dX6_rowNumbered_27 : decode cX6_rowNumbered 27 = .ok (.getfield 18, 3) := by decide +kernel
theorem dX6_rowNumbered_30 : decode cX6_rowNumbered 30 = .ok (.iload_n 1, 1) := by decide +kernel
theorem dX6_rowNumbered_31 : decode cX6_rowNumbered 31 = .ok (.invokevirtual 78, 3) := by decide +kernel
theorem dX6_rowNumbered_34 : decode cX6_rowNumbered 34 = .ok (.checkcast 55, 3) := by decide +kernel
theorem dX6_rowNumbered_37 : decode cX6_rowNumbered 37 = .ok (.areturn, 1) := by decide +kernel
set_option maxRecDepth 20000 in
theorem ggX6_handleAt_Jx4a65c_size_8abf5 : GoodIn wsX6_handleAt wsJx4a65c_size_8abf5 := goodIn_r _ [8, 9, 33, 34, 35] (by decide +kernel) (by decide +kernel)
set_option maxRecDepth 20000 in
theorem gX6_handleAt_Jx4a65c_size_8abf5 : GoodIn wsX6_handleAt (wsV RX6 74 RJx4a65c yJx4a65c_size_8abf5 wsJx4a65c_size_8abf5) := goodIn_app (goodIn_of _ (by decide +kernel)) ggX6_handleAt_Jx4a65c_size_8abf5
set_option maxRecDepth 20000 in
theorem ggX6_handleAt_Jx4a65c_get_915e3 : GoodIn wsX6_handleAt wsJx4a65c_get_915e3 := goodIn_r _ [13, 9, 14, 15, 16, 17, 18, 19, 20, 21, 22, 23, 24, 7, 25, 26, 33, 34, 35] (by decide +kernel) (by decide +kernel)
set_option maxRecDepth 20000 in
theorem gX6_handleAt_Jx4a65c_get_915e3 : GoodIn wsX6_handleAt (wsV RX6 78 RJx4a65c yJx4a65c_get_915e3 wsJx4a65c_get_915e3) := goodIn_app (goodIn_of _ (by decide +kernel)) ggX6_handleAt_Jx4a65c_get_915e3
theorem dX6_handleAt_0 : decode cX6_handleAt 0 = .ok (.iload_n 1, 1) := by decide +kernel
theorem dX6_handleAt_1 : decode cX6_handleAt 1 = .ok (.ifCond .lt 11, 3) := by decide +kernel
theorem dX6_handleAt_4 : decode cX6_handleAt 4 = .ok (.iload_n 1, 1) := by decide +kernel
theorem dX6_handleAt_5 : decode cX6_handleAt 5 = .ok (.aload_n 0, 1) := by decide +kernel
theorem dX6_handleAt_6 : decode cX6_handleAt 6 = .ok (.invokevirtual 74, 3) := by decide +kernel
theorem dX6_handleAt_9 : decode cX6_handleAt 9 = .ok (.if_icmp .lt 14, 3) := by decide +kernel
theorem dX6_handleAt_12 : decode cX6_handleAt 12 = .ok (.new 213, 3) := by decide +kernel
theorem dX6_handleAt_15 : decode cX6_handleAt 15 = .ok (.dup, 1) := by decide +kernel
theorem dX6_handleAt_16 : decode cX6_handleAt 16 = .ok (.ldc_w 258, 3) := by decide +kernel
theorem dX6_handleAt_19 : decode cX6_handleAt 19 = .ok (.invokespecial 217, 3) := by decide +kernel
theorem dX6_handleAt_22 : decode cX6_handleAt 22 = .ok (.athrow, 1) := by decide +kernel
theorem dX6_handleAt_23 : decode cX6_handleAt 23 = .ok (.aload_n 0, 1) := by decide +kernel
theorem dX6_handleAt_24 : decode cX6_handleAt 24 = .ok (.iload_n 1, 1) := by decide +kernel
theorem dX6_handleAt_25 : decode cX6_handleAt 25 = .ok (.invokevirtual 78, 3) := by decide +kernel
theorem dX6_handleAt_28 : decode cX6_handleAt 28 = .ok (.checkcast 9, 3) := by decide +kernel
theorem dX6_handleAt_31 : decode cX6_handleAt 31 = .ok (.getfield 63, 3) := by decide +kernel
theorem dX6_handleAt_34 : decode cX6_handleAt 34 = .ok (.ireturn, 1) := by decide +kernel
set_option maxRecDepth 20000 in
theorem ggX6_questionNumbered_Jx4a65c_size_8abf5 : GoodIn wsX6_questionNumbered wsJx4a65c_size_8abf5 := goodIn_r _ [9, 10, 34, 35, 36] (by decide +kernel) (by decide +kernel)
set_option maxRecDepth 20000 in
theorem gX6_questionNumbered_Jx4a65c_size_8abf5 : GoodIn wsX6_questionNumbered (wsV RX6 74 RJx4a65c yJx4a65c_size_8abf5 wsJx4a65c_size_8abf5) := goodIn_app (goodIn_of _ (by decide +kernel)) ggX6_questionNumbered_Jx4a65c_size_8abf5
set_option maxRecDepth 20000 in
theorem ggX6_questionNumbered_Jx4a65c_get_915e3 : GoodIn wsX6_questionNumbered wsJx4a65c_get_915e3 := goodIn_r _ [14, 10, 15, 16, 17, 18, 19, 20, 21, 22, 23, 24, 25, 8, 26, 27, 34, 35, 36] (by decide +kernel) (by decide +kernel)
set_option maxRecDepth 20000 in
theorem gX6_questionNumbered_Jx4a65c_get_915e3 : GoodIn wsX6_questionNumbered (wsV RX6 78 RJx4a65c yJx4a65c_get_915e3 wsJx4a65c_get_915e3) := goodIn_app (goodIn_of _ (by decide +kernel)) ggX6_questionNumbered_Jx4a65c_get_915e3
theorem dX6_questionNumbered_0 : decode cX6_questionNumbered 0 = .ok (.iload_n 1, 1) := by decide +kernel
theorem dX6_questionNumbered_1 : decode cX6_questionNumbered 1 = .ok (.ifCond .lt 14, 3) := by decide +kernel
theorem dX6_questionNumbered_4 : decode cX6_questionNumbered 4 = .ok (.iload_n 1, 1) := by decide +kernel
theorem dX6_questionNumbered_5 : decode cX6_questionNumbered 5 = .ok (.aload_n 0, 1) := by decide +kernel
theorem dX6_questionNumbered_6 : decode cX6_questionNumbered 6 = .ok (.getfield 22, 3) := by decide +kernel
theorem dX6_questionNumbered_9 : decode cX6_questionNumbered 9 = .ok (.invokevirtual 74, 3) := by decide +kernel
theorem dX6_questionNumbered_12 : decode cX6_questionNumbered 12 = .ok (.if_icmp .lt 14, 3) := by decide +kernel
theorem dX6_questionNumbered_15 : decode cX6_questionNumbered 15 = .ok (.new 213, 3) := by decide +kernel
theorem dX6_questionNumbered_18 : decode cX6_questionNumbered 18 = .ok (.dup, 1) := by decide +kernel
theorem dX6_questionNumbered_19 : decode cX6_questionNumbered 19 = .ok (.ldc_w 260, 3) := by decide +kernel
theorem dX6_questionNumbered_22 : decode cX6_questionNumbered 22 = .ok (.invokespecial 217, 3) := by decide +kernel
theorem dX6_questionNumbered_25 : decode cX6_questionNumbered 25 = .ok (.athrow, 1) := by decide +kernel
theorem dX6_questionNumbered_26 : decode cX6_questionNumbered 26 = .ok (.aload_n 0, 1) := by decide +kernel
theorem dX6_questionNumbered_27 : decode cX6_questionNumbered 27 = .ok (.getfield 22, 3) := by decide +kernel
theorem dX6_questionNumbered_30 : decode cX6_questionNumbered 30 = .ok (.iload_n 1, 1) := by decide +kernel
theorem dX6_questionNumbered_31 : decode cX6_questionNumbered 31 = .ok (.invokevirtual 78, 3) := by decide +kernel
theorem dX6_questionNumbered_34 : decode cX6_questionNumbered 34 = .ok (.checkcast 152, 3) := by decide +kernel
theorem dX6_questionNumbered_37 : decode cX6_questionNumbered 37 = .ok (.areturn, 1) := by decide +kernel
set_option maxRecDepth 20000 in
theorem ggX6_answersOf_Jx4a65c_init_da8c8 : GoodIn wsX6_answersOf wsJx4a65c_init_da8c8 := goodIn_r _ [9, 10, 11, 12, 13, 14, 15, 16, 17, 18, 19, 20, 21, 22, 23, 105, 106, 107] (by decide +kernel) (by decide +kernel)
set_option maxRecDepth 20000 in
theorem gX6_answersOf_Jx4a65c_init_da8c8 : GoodIn wsX6_answersOf (wsJx4a65c_init_da8c8) := ggX6_answersOf_Jx4a65c_init_da8c8
set_option maxRecDepth 20000 in
theorem ggX6_answersOf_Jx4a65c_size_8abf5 : GoodIn wsX6_answersOf wsJx4a65c_size_8abf5 := goodIn_r _ [27, 28, 105, 106, 107] (by decide +kernel) (by decide +kernel)
set_option maxRecDepth 20000 in
theorem gX6_answersOf_Jx4a65c_size_8abf5 : GoodIn wsX6_answersOf (wsV RX6 74 RJx4a65c yJx4a65c_size_8abf5 wsJx4a65c_size_8abf5) := goodIn_app (goodIn_of _ (by decide +kernel)) ggX6_answersOf_Jx4a65c_size_8abf5
set_option maxRecDepth 20000 in
theorem ggX6_answersOf_Jx4a65c_get_915e3 : GoodIn wsX6_answersOf wsJx4a65c_get_915e3 := goodIn_r _ [32, 28, 33, 34, 35, 36, 37, 38, 39, 40, 41, 42, 43, 3, 44, 11, 105, 106, 107] (by decide +kernel) (by decide +kernel)
set_option maxRecDepth 20000 in
theorem gX6_answersOf_Jx4a65c_get_915e3 : GoodIn wsX6_answersOf (wsV RX6 78 RJx4a65c yJx4a65c_get_915e3 wsJx4a65c_get_915e3) := goodIn_app (goodIn_of _ (by decide +kernel)) ggX6_answersOf_Jx4a65c_get_915e3
set_option maxRecDepth 20000 in
theorem ggX6_answersOf_X2_isAnsweredBy : GoodIn wsX6_answersOf wsX2_isAnsweredBy := goodIn_r _ [49, 50, 51, 52, 116, 117, 118] (by decide +kernel) (by decide +kernel)
set_option maxRecDepth 20000 in
theorem gX6_answersOf_X2_isAnsweredBy : GoodIn wsX6_answersOf (wsV RX6 160 RX2 yX2_isAnsweredBy wsX2_isAnsweredBy) := goodIn_app (goodIn_of _ (by decide +kernel)) ggX6_answersOf_X2_isAnsweredBy
set_option maxRecDepth 20000 in
theorem ggX6_answersOf_Jx4a65c_add_9ea2d : GoodIn wsX6_answersOf wsJx4a65c_add_9ea2d := goodIn_r _ [56, 57, 58, 11, 28, 59, 60, 61, 3, 62, 63, 64, 65, 66, 67, 68, 69, 70, 10, 71, 72, 73, 74, 75, 76, 77, 78, 79, 80, 81, 82, 83, 84, 85, 86, 87, 88, 89, 90, 91, 92, 93, 94, 95, 96, 97, 98, 99, 100, 101, 102, 103, 104, 105, 106, 107] (by decide +kernel) (by decide +kernel)
set_option maxRecDepth 20000 in
theorem gX6_answersOf_Jx4a65c_add_9ea2d : GoodIn wsX6_answersOf (wsV RX6 59 RJx4a65c yJx4a65c_add_9ea2d wsJx4a65c_add_9ea2d) := goodIn_app (goodIn_of _ (by decide +kernel)) ggX6_answersOf_Jx4a65c_add_9ea2d
theorem dX6_answersOf_0 : decode cX6_answersOf 0 = .ok (.new 15, 3) := by decide +kernel
theorem dX6_answersOf_3 : decode cX6_answersOf 3 = .ok (.dup, 1) := by decide +kernel
theorem dX6_answersOf_4 : decode cX6_answersOf 4 = .ok (.invokespecial 17, 3) := by decide +kernel
theorem dX6_answersOf_7 : decode cX6_answersOf 7 = .ok (.astore_n 2, 1) := by decide +kernel
theorem dX6_answersOf_8 : decode cX6_answersOf 8 = .ok (.iconst 0, 1) := by decide +kernel
theorem dX6_answersOf_9 : decode cX6_answersOf 9 = .ok (.istore_n 3, 1) := by decide +kernel
theorem dX6_answersOf_10 : decode cX6_answersOf 10 = .ok (.iload_n 3, 1) := by decide +kernel
theorem dX6_answersOf_11 : decode cX6_answersOf 11 = .ok (.aload_n 0, 1) := by decide +kernel
theorem dX6_answersOf_12 : decode cX6_answersOf 12 = .ok (.getfield 18, 3) := by decide +kernel
theorem dX6_answersOf_15 : decode cX6_answersOf 15 = .ok (.invokevirtual 74, 3) := by decide +kernel
theorem dX6_answersOf_18 : decode cX6_answersOf 18 = .ok (.if_icmp .ge 74, 3) := by decide +kernel
theorem dX6_answersOf_21 : decode cX6_answersOf 21 = .ok (.aload_n 0, 1) := by decide +kernel
theorem dX6_answersOf_22 : decode cX6_answersOf 22 = .ok (.getfield 18, 3) := by decide +kernel
theorem dX6_answersOf_25 : decode cX6_answersOf 25 = .ok (.iload_n 3, 1) := by decide +kernel
theorem dX6_answersOf_26 : decode cX6_answersOf 26 = .ok (.invokevirtual 78, 3) := by decide +kernel
theorem dX6_answersOf_29 : decode cX6_answersOf 29 = .ok (.checkcast 55, 3) := by decide +kernel
theorem dX6_answersOf_32 : decode cX6_answersOf 32 = .ok (.astore 4, 2) := by decide +kernel
theorem dX6_answersOf_34 : decode cX6_answersOf 34 = .ok (.aload_n 1, 1) := by decide +kernel
theorem dX6_answersOf_35 : decode cX6_answersOf 35 = .ok (.aload 4, 2) := by decide +kernel
theorem dX6_answersOf_37 : decode cX6_answersOf 37 = .ok (.getfield 142, 3) := by decide +kernel
theorem dX6_answersOf_40 : decode cX6_answersOf 40 = .ok (.invokevirtual 160, 3) := by decide +kernel
theorem dX6_answersOf_43 : decode cX6_answersOf 43 = .ok (.ifCond .eq 43, 3) := by decide +kernel
theorem dX6_answersOf_46 : decode cX6_answersOf 46 = .ok (.iconst 0, 1) := by decide +kernel
theorem dX6_answersOf_47 : decode cX6_answersOf 47 = .ok (.istore 5, 2) := by decide +kernel
theorem dX6_answersOf_49 : decode cX6_answersOf 49 = .ok (.iload 5, 2) := by decide +kernel
theorem dX6_answersOf_51 : decode cX6_answersOf 51 = .ok (.aload 4, 2) := by decide +kernel
theorem dX6_answersOf_53 : decode cX6_answersOf 53 = .ok (.getfield 54, 3) := by decide +kernel
theorem dX6_answersOf_56 : decode cX6_answersOf 56 = .ok (.invokevirtual 74, 3) := by decide +kernel
theorem dX6_answersOf_59 : decode cX6_answersOf 59 = .ok (.if_icmp .ge 27, 3) := by decide +kernel
theorem dX6_answersOf_62 : decode cX6_answersOf 62 = .ok (.aload_n 2, 1) := by decide +kernel
theorem dX6_answersOf_63 : decode cX6_answersOf 63 = .ok (.aload 4, 2) := by decide +kernel
theorem dX6_answersOf_65 : decode cX6_answersOf 65 = .ok (.getfield 54, 3) := by decide +kernel
theorem dX6_answersOf_68 : decode cX6_answersOf 68 = .ok (.iload 5, 2) := by decide +kernel
theorem dX6_answersOf_70 : decode cX6_answersOf 70 = .ok (.invokevirtual 78, 3) := by decide +kernel
theorem dX6_answersOf_73 : decode cX6_answersOf 73 = .ok (.checkcast 9, 3) := by decide +kernel
theorem dX6_answersOf_76 : decode cX6_answersOf 76 = .ok (.invokevirtual 59, 3) := by decide +kernel
theorem dX6_answersOf_79 : decode cX6_answersOf 79 = .ok (.pop, 1) := by decide +kernel
theorem dX6_answersOf_80 : decode cX6_answersOf 80 = .ok (.iinc 5 1, 3) := by decide +kernel
theorem dX6_answersOf_83 : decode cX6_answersOf 83 = .ok (.goto (-34), 3) := by decide +kernel
theorem dX6_answersOf_86 : decode cX6_answersOf 86 = .ok (.iinc 3 1, 3) := by decide +kernel
theorem dX6_answersOf_89 : decode cX6_answersOf 89 = .ok (.goto (-79), 3) := by decide +kernel
theorem dX6_answersOf_92 : decode cX6_answersOf 92 = .ok (.aload_n 2, 1) := by decide +kernel
theorem dX6_answersOf_93 : decode cX6_answersOf 93 = .ok (.areturn, 1) := by decide +kernel
set_option maxRecDepth 20000 in
theorem ggX6_couldDo_X6_add : GoodIn wsX6_couldDo wsX6_add := goodIn_ca (goodIn_ca (goodIn_ca (goodIn_r _ [8, 3, 9, 10, 11, 12, 13, 7, 14, 1, 15, 16, 17, 18, 19, 20, 21, 22, 23, 24, 25, 26, 27, 28, 29, 30, 2, 31, 32, 33, 34, 35, 36, 37, 38, 39, 40, 41, 42, 43, 44, 45, 46, 47, 48, 49, 50, 51, 52, 53, 54, 55, 56, 57, 58, 59, 60, 61, 62, 63, 64, 65, 66, 67, 68, 69, 70, 71, 72, 73, 74, 75, 76, 77, 78, 79, 80, 81, 82, 83, 84, 85, 86, 87, 88, 89, 90, 91, 92, 93, 94, 95, 96, 97, 98, 99, 100, 101, 102, 103, 104, 105, 106, 107, 108, 109, 110, 111, 112, 113, 114, 115, 116, 117, 118, 119, 120, 121, 122, 123, 124, 125, 126, 127, 128, 129, 130, 131, 132, 133, 134, 135, 136, 137, 138, 139, 140, 141, 142, 143, 144, 145, 146, 147, 148, 149, 150, 151, 152, 153, 154, 155, 156, 157, 158, 159, 160, 161, 162, 163, 164, 165, 166, 167, 168, 169, 170, 171, 172, 173, 174, 175, 176, 177, 178, 179, 228, 229, 230, 231, 232, 233, 234, 235, 236, 237, 238, 239, 240, 241, 242, 243, 244] (by decide +kernel) (by decide +kernel)) (goodIn_sub (fun _ h => List.mem_cons_of_mem _ (List.mem_append_left _ (List.mem_append_left _ (List.mem_append_right _ h)))) (by decide +kernel))) (goodIn_sub (fun _ h => List.mem_cons_of_mem _ (List.mem_append_left _ (List.mem_append_right _ h))) (by decide +kernel))) (goodIn_sub (fun _ h => List.mem_cons_of_mem _ (List.mem_append_right _ h)) (by decide +kernel))
set_option maxRecDepth 20000 in
theorem gX6_couldDo_X6_add : GoodIn wsX6_couldDo (wsV RX6 272 RX6 yX6_add wsX6_add) := goodIn_app (goodIn_of _ (by decide +kernel)) ggX6_couldDo_X6_add
set_option maxRecDepth 20000 in
theorem ggX6_couldDo_X6_take : GoodIn wsX6_couldDo wsX6_take := goodIn_ca (goodIn_ca (goodIn_ca (goodIn_r _ [183, 184, 185, 186, 7, 187, 3, 9, 11, 12, 13, 14, 1, 15, 16, 17, 18, 19, 20, 21, 22, 23, 24, 25, 26, 27, 28, 29, 30, 2, 31, 32, 33, 34, 35, 36, 37, 38, 39, 40, 41, 42, 43, 44, 45, 46, 47, 48, 49, 50, 51, 52, 53, 54, 55, 56, 57, 58, 59, 60, 61, 62, 63, 64, 65, 66, 67, 68, 69, 70, 71, 72, 73, 74, 75, 76, 77, 78, 79, 80, 81, 82, 83, 84, 85, 86, 87, 88, 89, 90, 91, 92, 93, 94, 95, 96, 97, 98, 99, 100, 101, 102, 103, 104, 105, 106, 107, 108, 109, 110, 111, 112, 113, 114, 115, 116, 117, 118, 119, 120, 121, 122, 123, 124, 125, 126, 127, 128, 129, 130, 131, 132, 133, 134, 135, 136, 137, 138, 139, 140, 141, 142, 143, 144, 145, 146, 147, 148, 149, 150, 151, 152, 153, 154, 155, 156, 157, 158, 159, 160, 161, 162, 163, 164, 165, 166, 167, 168, 169, 170, 171, 172, 173, 228, 229, 230, 231, 232, 233, 234, 235, 236, 237, 238, 239, 240, 241, 242, 243, 244] (by decide +kernel) (by decide +kernel)) (goodIn_sub (fun _ h => List.mem_cons_of_mem _ (List.mem_append_left _ (List.mem_append_left _ (List.mem_append_right _ h)))) (by decide +kernel))) (goodIn_sub (fun _ h => List.mem_cons_of_mem _ (List.mem_append_left _ (List.mem_append_right _ h))) (by decide +kernel))) (goodIn_sub (fun _ h => List.mem_cons_of_mem _ (List.mem_append_right _ h)) (by decide +kernel))
set_option maxRecDepth 20000 in
theorem gX6_couldDo_X6_take : GoodIn wsX6_couldDo (wsV RX6 275 RX6 yX6_take wsX6_take) := goodIn_app (goodIn_of _ (by decide +kernel)) ggX6_couldDo_X6_take
set_option maxRecDepth 20000 in
theorem ggX6_couldDo_X6_end : GoodIn wsX6_couldDo wsX6_end := goodIn_ca (goodIn_ca (goodIn_r _ [191, 192, 11, 12, 13, 7, 14, 1, 15, 16, 17, 18, 19, 20, 21, 22, 23, 24, 25, 26, 27, 37, 38, 39, 40, 3, 9, 41, 193, 194, 195, 196, 197, 85, 58, 198, 89, 90, 91, 77, 92, 93, 94, 95, 96, 97, 98, 99, 100, 101, 82, 83, 102, 103, 104, 105, 106, 107, 60, 108, 109, 110, 111, 112, 113, 114, 115, 116, 117, 118, 119, 120, 121, 122, 123, 124, 125, 126, 127, 128, 129, 130, 131, 132, 133, 134, 135, 136, 137, 138, 139, 140, 141, 142, 143, 144, 145, 146, 147, 148, 149, 150, 151, 152, 153, 55, 56, 57, 59, 61, 62, 63, 64, 65, 66, 67, 68, 69, 70, 71, 72, 73, 74, 75, 76, 199, 200, 201, 202, 173, 203, 204, 205, 206, 46, 47, 48, 49, 50, 51, 52, 53, 54, 78, 79, 80, 81, 84, 86, 87, 88, 154, 155, 156, 157, 158, 159, 160, 161, 162, 163, 164, 165, 166, 167, 168, 169, 170, 171, 172, 207, 208, 209, 210, 211, 36, 228, 229, 230, 231, 232, 233, 234, 235, 236, 237, 238, 239, 242, 243, 244, 240, 241] (by decide +kernel) (by decide +kernel)) (goodIn_sub (fun _ h => List.mem_cons_of_mem _ (List.mem_append_left _ (List.mem_append_right _ h))) (by decide +kernel))) (goodIn_sub (fun _ h => List.mem_cons_of_mem _ (List.mem_append_left _ (List.mem_append_left _ (List.mem_append_right _ h)))) (by decide +kernel))
set_option maxRecDepth 20000 in
theorem gX6_couldDo_X6_end : GoodIn wsX6_couldDo (wsV RX6 278 RX6 yX6_end wsX6_end) := goodIn_app (goodIn_of _ (by decide +kernel)) ggX6_couldDo_X6_end
set_option maxRecDepth 20000 in
theorem ggX6_couldDo_X6_makeWith : GoodIn wsX6_couldDo wsX6_makeWith := goodIn_ca (goodIn_ca (goodIn_ca (goodIn_r _ [215, 28, 29, 7, 30, 2, 31, 216, 217, 218, 219, 37, 38, 39, 40, 3, 9, 41, 220, 221, 222, 223, 20, 46, 47, 48, 49, 50, 51, 52, 53, 54, 55, 56, 57, 58, 59, 60, 61, 62, 63, 64, 65, 66, 67, 68, 69, 70, 71, 72, 73, 74, 75, 76, 77, 78, 79, 80, 81, 82, 83, 84, 85, 86, 87, 88, 89, 90, 91, 92, 93, 94, 95, 96, 97, 98, 99, 100, 101, 102, 103, 104, 105, 106, 107, 108, 109, 110, 111, 112, 113, 114, 115, 116, 117, 118, 119, 120, 121, 122, 123, 124, 125, 126, 127, 128, 129, 130, 131, 132, 133, 134, 135, 136, 137, 138, 139, 140, 141, 142, 143, 144, 145, 146, 147, 148, 149, 150, 151, 152, 153, 4, 5, 6, 8, 10, 11, 12, 13, 14, 1, 15, 16, 17, 18, 19, 21, 22, 23, 24, 25, 26, 27, 32, 33, 34, 35, 36, 42, 43, 44, 45, 154, 155, 156, 157, 158, 159, 160, 161, 162, 163, 164, 165, 166, 167, 168, 169, 170, 171, 172, 173, 174, 175, 176, 177, 178, 179, 228, 229, 230, 231, 232, 233, 240, 241, 234, 235, 236, 237, 238, 239, 242, 243, 244] (by decide +kernel) (by decide +kernel)) (goodIn_sub (fun _ h => List.mem_cons_of_mem _ (List.mem_append_right _ h)) (by decide +kernel))) (goodIn_sub (fun _ h => List.mem_cons_of_mem _ (List.mem_append_left _ (List.mem_append_left _ (List.mem_append_right _ h)))) (by decide +kernel))) (goodIn_sub (fun _ h => List.mem_cons_of_mem _ (List.mem_append_left _ (List.mem_append_right _ h))) (by decide +kernel))
set_option maxRecDepth 20000 in
theorem gX6_couldDo_X6_makeWith : GoodIn wsX6_couldDo (wsV RX6 281 RX6 yX6_makeWith wsX6_makeWith) := goodIn_app (goodIn_of _ (by decide +kernel)) ggX6_couldDo_X6_makeWith
theorem dX6_couldDo_0 : decode cX6_couldDo 0 = .ok (.aload_n 1, 1) := by decide +kernel
theorem dX6_couldDo_1 : decode cX6_couldDo 1 = .ok (.getfield 262, 3) := by decide +kernel
theorem dX6_couldDo_4 : decode cX6_couldDo 4 = .ok (.tableswitch 76 0 2 #[28, 48, 64], 28) := by decide +kernel
theorem dX6_couldDo_32 : decode cX6_couldDo 32 = .ok (.aload_n 0, 1) := by decide +kernel
theorem dX6_couldDo_33 : decode cX6_couldDo 33 = .ok (.aload_n 1, 1) := by decide +kernel
theorem dX6_couldDo_34 : decode cX6_couldDo 34 = .ok (.getfield 265, 3) := by decide +kernel
theorem dX6_couldDo_37 : decode cX6_couldDo 37 = .ok (.aload_n 1, 1) := by decide +kernel
theorem dX6_couldDo_38 : decode cX6_couldDo 38 = .ok (.getfield 266, 3) := by decide +kernel
theorem dX6_couldDo_41 : decode cX6_couldDo 41 = .ok (.aload_n 1, 1) := by decide +kernel
theorem dX6_couldDo_42 : decode cX6_couldDo 42 = .ok (.getfield 269, 3) := by decide +kernel
theorem dX6_couldDo_45 : decode cX6_couldDo 45 = .ok (.invokevirtual 272, 3) := by decide +kernel
theorem dX6_couldDo_48 : decode cX6_couldDo 48 = .ok (.pop, 1) := by decide +kernel
theorem dX6_couldDo_49 : decode cX6_couldDo 49 = .ok (.goto 43, 3) := by decide +kernel
theorem dX6_couldDo_52 : decode cX6_couldDo 52 = .ok (.aload_n 0, 1) := by decide +kernel
theorem dX6_couldDo_53 : decode cX6_couldDo 53 = .ok (.aload_n 1, 1) := by decide +kernel
theorem dX6_couldDo_54 : decode cX6_couldDo 54 = .ok (.getfield 265, 3) := by decide +kernel
theorem dX6_couldDo_57 : decode cX6_couldDo 57 = .ok (.aload_n 1, 1) := by decide +kernel
theorem dX6_couldDo_58 : decode cX6_couldDo 58 = .ok (.getfield 266, 3) := by decide +kernel
theorem dX6_couldDo_61 : decode cX6_couldDo 61 = .ok (.invokevirtual 275, 3) := by decide +kernel
theorem dX6_couldDo_64 : decode cX6_couldDo 64 = .ok (.pop, 1) := by decide +kernel
theorem dX6_couldDo_65 : decode cX6_couldDo 65 = .ok (.goto 27, 3) := by decide +kernel
theorem dX6_couldDo_68 : decode cX6_couldDo 68 = .ok (.aload_n 0, 1) := by decide +kernel
theorem dX6_couldDo_69 : decode cX6_couldDo 69 = .ok (.aload_n 1, 1) := by decide +kernel
theorem dX6_couldDo_70 : decode cX6_couldDo 70 = .ok (.getfield 265, 3) := by decide +kernel
theorem dX6_couldDo_73 : decode cX6_couldDo 73 = .ok (.invokevirtual 278, 3) := by decide +kernel
theorem dX6_couldDo_76 : decode cX6_couldDo 76 = .ok (.pop, 1) := by decide +kernel
theorem dX6_couldDo_77 : decode cX6_couldDo 77 = .ok (.goto 15, 3) := by decide +kernel
theorem dX6_couldDo_80 : decode cX6_couldDo 80 = .ok (.aload_n 0, 1) := by decide +kernel
theorem dX6_couldDo_81 : decode cX6_couldDo 81 = .ok (.aload_n 1, 1) := by decide +kernel
theorem dX6_couldDo_82 : decode cX6_couldDo 82 = .ok (.getfield 266, 3) := by decide +kernel
theorem dX6_couldDo_85 : decode cX6_couldDo 85 = .ok (.aload_n 1, 1) := by decide +kernel
theorem dX6_couldDo_86 : decode cX6_couldDo 86 = .ok (.getfield 269, 3) := by decide +kernel
theorem dX6_couldDo_89 : decode cX6_couldDo 89 = .ok (.invokevirtual 281, 3) := by decide +kernel
theorem dX6_couldDo_92 : decode cX6_couldDo 92 = .ok (.goto 12, 3) := by decide +kernel
theorem dX6_couldDo_95 : decode cX6_couldDo 95 = .ok (.astore_n 2, 1) := by decide +kernel
theorem dX6_couldDo_96 : decode cX6_couldDo 96 = .ok (.iconst 0, 1) := by decide +kernel
theorem dX6_couldDo_97 : decode cX6_couldDo 97 = .ok (.ireturn, 1) := by decide +kernel
theorem dX6_couldDo_98 : decode cX6_couldDo 98 = .ok (.astore_n 2, 1) := by decide +kernel
theorem dX6_couldDo_99 : decode cX6_couldDo 99 = .ok (.iconst 0, 1) := by decide +kernel
theorem dX6_couldDo_100 : decode cX6_couldDo 100 = .ok (.ireturn, 1) := by decide +kernel
theorem dX6_couldDo_101 : decode cX6_couldDo 101 = .ok (.astore_n 2, 1) := by decide +kernel
theorem dX6_couldDo_102 : decode cX6_couldDo 102 = .ok (.iconst 0, 1) := by decide +kernel
theorem dX6_couldDo_103 : decode cX6_couldDo 103 = .ok (.ireturn, 1) := by decide +kernel
theorem dX6_couldDo_104 : decode cX6_couldDo 104 = .ok (.iconst 1, 1) := by decide +kernel
theorem dX6_couldDo_105 : decode cX6_couldDo 105 = .ok (.ireturn, 1) := by decide +kernel
set_option maxRecDepth 20000 in
theorem ggX6_makeWith_X6_refuseNoKind : GoodIn wsX6_makeWith wsX6_refuseNoKind := goodIn_ca (goodIn_r _ [4, 5, 6] (by decide +kernel) (by decide +kernel)) (goodIn_sub (fun _ h => List.mem_cons_of_mem _ (List.mem_append_left _ (List.mem_append_left _ (List.mem_append_right _ h)))) (by decide +kernel))
set_option maxRecDepth 20000 in
theorem gX6_makeWith_X6_refuseNoKind : GoodIn wsX6_makeWith (va_wsS RX6 107 yX6_refuseNoKind wsX6_refuseNoKind) := goodIn_app (goodIn_of _ (by decide +kernel)) ggX6_makeWith_X6_refuseNoKind
set_option maxRecDepth 20000 in
theorem ggX6_makeWith_X6_make : GoodIn wsX6_makeWith wsX6_make := goodIn_ca (goodIn_r _ [10, 11, 12, 13, 3, 14, 15, 16, 17, 18, 19, 20, 21, 22, 23, 24, 25, 26, 27, 28, 29, 30, 31, 32, 33, 34, 35, 36, 37, 38, 39, 40, 41, 42, 43, 44, 45, 46, 47, 48, 49, 50, 51, 52, 53, 54, 55, 56, 57, 58, 59, 60, 61, 62, 63, 64, 65, 66, 67, 68, 69, 70, 71, 72, 73, 74, 75, 76, 77, 78, 79, 80, 81, 82, 83, 84, 85, 86, 87, 88, 89, 90, 91, 92, 93, 94, 95, 96, 97, 98, 99, 100, 101, 102, 103, 104, 105, 106, 107, 108, 109, 110, 111, 112, 113, 114, 115, 116, 117, 118, 119, 120, 121, 122, 123, 124, 125, 126, 127, 128, 129, 130, 188, 189, 190, 191, 192, 193, 194, 195, 196, 197, 198, 199, 200, 201, 202, 203, 204] (by decide +kernel) (by decide +kernel)) (goodIn_sub (fun _ h => List.mem_cons_of_mem _ (List.mem_append_left _ (List.mem_append_right _ h))) (by decide +kernel))
set_option maxRecDepth 20000 in
theorem gX6_makeWith_X6_make : GoodIn wsX6_makeWith (wsV RX6 285 RX6 yX6_make wsX6_make) := goodIn_app (goodIn_of _ (by decide +kernel)) ggX6_makeWith_X6_make
set_option maxRecDepth 20000 in
theorem ggX6_makeWith_X6_add : GoodIn wsX6_makeWith wsX6_add := goodIn_ca (goodIn_ca (goodIn_ca (goodIn_r _ [134, 15, 16, 135, 136, 137, 138, 3, 139, 140, 141, 142, 143, 144, 145, 22, 146, 147, 148, 149, 150, 151, 152, 1, 2, 4, 5, 6, 153, 154, 155, 156, 157, 11, 12, 13, 14, 17, 158, 159, 160, 161, 23, 24, 25, 26, 27, 28, 29, 30, 31, 32, 33, 34, 35, 36, 37, 38, 39, 40, 41, 42, 43, 44, 45, 46, 47, 48, 49, 50, 51, 52, 53, 54, 55, 56, 57, 58, 59, 60, 61, 62, 63, 64, 65, 66, 67, 68, 69, 70, 71, 72, 73, 74, 75, 76, 77, 78, 79, 80, 81, 82, 83, 84, 85, 86, 87, 88, 89, 90, 91, 92, 93, 94, 95, 96, 97, 98, 99, 100, 101, 102, 103, 104, 105, 106, 107, 108, 109, 110, 111, 112, 113, 114, 115, 116, 117, 118, 119, 120, 121, 122, 123, 124, 125, 126, 127, 128, 129, 130, 162, 163, 164, 165, 166, 167, 168, 169, 170, 171, 172, 173, 174, 175, 176, 177, 178, 179, 180, 181, 182, 183, 184, 185, 186, 187, 188, 189, 190, 191, 192, 193, 196, 197, 198, 199, 200, 201, 194, 195, 202, 203, 204] (by decide +kernel) (by decide +kernel)) (goodIn_sub (fun _ h => List.mem_cons_of_mem _ (List.mem_append_left _ (List.mem_append_right _ h))) (by decide +kernel))) (goodIn_sub (fun _ h => List.mem_cons_of_mem _ (List.mem_append_right _ h)) (by decide +kernel))) (goodIn_sub (fun _ h => List.mem_cons_of_mem _ (List.mem_append_left _ (List.mem_append_left _ (List.mem_append_right _ h)))) (by decide +kernel))
set_option maxRecDepth 20000 in
theorem gX6_makeWith_X6_add : GoodIn wsX6_makeWith (wsV RX6 272 RX6 yX6_add wsX6_add) := goodIn_app (goodIn_of _ (by decide +kernel)) ggX6_makeWith_X6_add
theorem dX6_makeWith_0 : decode cX6_makeWith 0 = .ok (.iload_n 1, 1) := by decide +kernel
theorem dX6_makeWith_1 : decode cX6_makeWith 1 = .ok (.invokestatic 107, 3) := by decide +kernel
theorem dX6_makeWith_4 : decode cX6_makeWith 4 = .ok (.aload_n 0, 1) := by decide +kernel
theorem dX6_makeWith_5 : decode cX6_makeWith 5 = .ok (.invokevirtual 285, 3) := by decide +kernel
theorem dX6_makeWith_8 : decode cX6_makeWith 8 = .ok (.istore_n 3, 1) := by decide +kernel
theorem dX6_makeWith_9 : decode cX6_makeWith 9 = .ok (.aload_n 0, 1) := by decide +kernel
theorem dX6_makeWith_10 : decode cX6_makeWith 10 = .ok (.iload_n 3, 1) := by decide +kernel
theorem dX6_makeWith_11 : decode cX6_makeWith 11 = .ok (.iload_n 1, 1) := by decide +kernel
theorem dX6_makeWith_12 : decode cX6_makeWith 12 = .ok (.iload_n 2, 1) := by decide +kernel
theorem dX6_makeWith_13 : decode cX6_makeWith 13 = .ok (.invokevirtual 272, 3) := by decide +kernel
theorem dX6_makeWith_16 : decode cX6_makeWith 16 = .ok (.pop, 1) := by decide +kernel
theorem dX6_makeWith_17 : decode cX6_makeWith 17 = .ok (.return_, 1) := by decide +kernel
set_option maxRecDepth 20000 in
theorem ggX6_stageFor_Jx4a65c_size_8abf5 : GoodIn wsX6_stageFor wsJx4a65c_size_8abf5 := goodIn_r _ [11, 12, 46, 47, 48] (by decide +kernel) (by decide +kernel)
set_option maxRecDepth 20000 in
theorem gX6_stageFor_Jx4a65c_size_8abf5 : GoodIn wsX6_stageFor (wsV RX6 74 RJx4a65c yJx4a65c_size_8abf5 wsJx4a65c_size_8abf5) := goodIn_app (goodIn_of _ (by decide +kernel)) ggX6_stageFor_Jx4a65c_size_8abf5
set_option maxRecDepth 20000 in
theorem ggX6_stageFor_Jx4a65c_get_915e3 : GoodIn wsX6_stageFor wsJx4a65c_get_915e3 := goodIn_r _ [16, 12, 17, 18, 19, 20, 21, 22, 23, 24, 25, 26, 27, 10, 28, 29, 46, 47, 48] (by decide +kernel) (by decide +kernel)
set_option maxRecDepth 20000 in
theorem gX6_stageFor_Jx4a65c_get_915e3 : GoodIn wsX6_stageFor (wsV RX6 78 RJx4a65c yJx4a65c_get_915e3 wsJx4a65c_get_915e3) := goodIn_app (goodIn_of _ (by decide +kernel)) ggX6_stageFor_Jx4a65c_get_915e3
set_option maxRecDepth 20000 in
theorem ggX6_stageFor_X4_bars : GoodIn wsX6_stageFor wsX4_bars := goodIn_r _ [34, 35, 36, 43, 44, 45] (by decide +kernel) (by decide +kernel)
set_option maxRecDepth 20000 in
theorem gX6_stageFor_X4_bars : GoodIn wsX6_stageFor (wsV RX6 288 RX4 yX4_bars wsX4_bars) := goodIn_app (goodIn_of _ (by decide +kernel)) ggX6_stageFor_X4_bars
theorem dX6_stageFor_0 : decode cX6_stageFor 0 = .ok (.iconst 0, 1) := by decide +kernel
theorem dX6_stageFor_1 : decode cX6_stageFor 1 = .ok (.istore_n 3, 1) := by decide +kernel
theorem dX6_stageFor_2 : decode cX6_stageFor 2 = .ok (.iconst 0, 1) := by decide +kernel
theorem dX6_stageFor_3 : decode cX6_stageFor 3 = .ok (.istore 4, 2) := by decide +kernel
theorem dX6_stageFor_5 : decode cX6_stageFor 5 = .ok (.iload 4, 2) := by decide +kernel
theorem dX6_stageFor_7 : decode cX6_stageFor 7 = .ok (.aload_n 0, 1) := by decide +kernel
theorem dX6_stageFor_8 : decode cX6_stageFor 8 = .ok (.getfield 25, 3) := by decide +kernel
theorem dX6_stageFor_11 : decode cX6_stageFor 11 = .ok (.invokevirtual 74, 3) := by decide +kernel
theorem dX6_stageFor_14 : decode cX6_stageFor 14 = .ok (.if_icmp .ge 45, 3) := by decide +kernel
theorem dX6_stageFor_17 : decode cX6_stageFor 17 = .ok (.aload_n 0, 1) := by decide +kernel
theorem dX6_stageFor_18 : decode cX6_stageFor 18 = .ok (.getfield 25, 3) := by decide +kernel
theorem dX6_stageFor_21 : decode cX6_stageFor 21 = .ok (.iload 4, 2) := by decide +kernel
theorem dX6_stageFor_23 : decode cX6_stageFor 23 = .ok (.invokevirtual 78, 3) := by decide +kernel
theorem dX6_stageFor_26 : decode cX6_stageFor 26 = .ok (.checkcast 210, 3) := by decide +kernel
theorem dX6_stageFor_29 : decode cX6_stageFor 29 = .ok (.astore 5, 2) := by decide +kernel
theorem dX6_stageFor_31 : decode cX6_stageFor 31 = .ok (.aload 5, 2) := by decide +kernel
theorem dX6_stageFor_33 : decode cX6_stageFor 33 = .ok (.iload_n 1, 1) := by decide +kernel
theorem dX6_stageFor_34 : decode cX6_stageFor 34 = .ok (.iload_n 2, 1) := by decide +kernel
theorem dX6_stageFor_35 : decode cX6_stageFor 35 = .ok (.invokevirtual 288, 3) := by decide +kernel
theorem dX6_stageFor_38 : decode cX6_stageFor 38 = .ok (.ifCond .eq 15, 3) := by decide +kernel
theorem dX6_stageFor_41 : decode cX6_stageFor 41 = .ok (.iload_n 3, 1) := by decide +kernel
theorem dX6_stageFor_42 : decode cX6_stageFor 42 = .ok (.aload 5, 2) := by decide +kernel
theorem dX6_stageFor_44 : decode cX6_stageFor 44 = .ok (.getfield 218, 3) := by decide +kernel
theorem dX6_stageFor_47 : decode cX6_stageFor 47 = .ok (.iconst 1, 1) := by decide +kernel
theorem dX6_stageFor_48 : decode cX6_stageFor 48 = .ok (.iadd, 1) := by decide +kernel
theorem dX6_stageFor_49 : decode cX6_stageFor 49 = .ok (.invokestatic 221, 3) := by decide +kernel
theorem dX6_stageFor_52 : decode cX6_stageFor 52 = .ok (.istore_n 3, 1) := by decide +kernel
theorem dX6_stageFor_53 : decode cX6_stageFor 53 = .ok (.iinc 4 1, 3) := by decide +kernel
theorem dX6_stageFor_56 : decode cX6_stageFor 56 = .ok (.goto (-51), 3) := by decide +kernel
theorem dX6_stageFor_59 : decode cX6_stageFor 59 = .ok (.iload_n 3, 1) := by decide +kernel
theorem dX6_stageFor_60 : decode cX6_stageFor 60 = .ok (.ireturn, 1) := by decide +kernel
set_option maxRecDepth 20000 in
theorem ggX6_runStage_Jx4a65c_size_8abf5 : GoodIn wsX6_runStage wsJx4a65c_size_8abf5 := goodIn_r _ [7, 8, 62, 63, 64] (by decide +kernel) (by decide +kernel)
set_option maxRecDepth 20000 in
theorem gX6_runStage_Jx4a65c_size_8abf5 : GoodIn wsX6_runStage (wsV RX6 74 RJx4a65c yJx4a65c_size_8abf5 wsJx4a65c_size_8abf5) := goodIn_app (goodIn_of _ (by decide +kernel)) ggX6_runStage_Jx4a65c_size_8abf5
set_option maxRecDepth 20000 in
theorem ggX6_runStage_Jx4a65c_get_915e3 : GoodIn wsX6_runStage wsJx4a65c_get_915e3 := goodIn_r _ [12, 8, 13, 14, 15, 16, 17, 18, 19, 20, 21, 22, 23, 6, 24, 25, 62, 63, 64] (by decide +kernel) (by decide +kernel)
set_option maxRecDepth 20000 in
theorem gX6_runStage_Jx4a65c_get_915e3 : GoodIn wsX6_runStage (wsV RX6 78 RJx4a65c yJx4a65c_get_915e3 wsJx4a65c_get_915e3) := goodIn_app (goodIn_of _ (by decide +kernel)) ggX6_runStage_Jx4a65c_get_915e3
set_option maxRecDepth 20000 in
theorem ggX6_runStage_X6_runSystem : GoodIn wsX6_runStage wsX6_runSystem := goodIn_r _ [30, 31, 32, 33, 34, 3, 4, 5, 6, 7, 8, 9, 10, 11, 12, 13, 14, 15, 16, 17, 18, 19, 20, 21, 22, 23, 24, 25, 35, 36, 37, 38, 39, 40, 41, 42, 43, 44, 45, 46, 47, 48, 49, 50, 51, 52, 53, 54, 55, 56, 57, 58, 65, 66, 62, 63, 64, 59, 60, 61, 67, 68, 69, 70, 71, 72] (by decide +kernel) (by decide +kernel)
set_option maxRecDepth 20000 in
theorem gX6_runStage_X6_runSystem : GoodIn wsX6_runStage (wsV RX6 292 RX6 yX6_runSystem wsX6_runSystem) := goodIn_app (goodIn_of _ (by decide +kernel)) ggX6_runStage_X6_runSystem
theorem dX6_runStage_0 : decode cX6_runStage 0 = .ok (.iconst 0, 1) := by decide +kernel
theorem dX6_runStage_1 : decode cX6_runStage 1 = .ok (.istore_n 2, 1) := by decide +kernel
theorem dX6_runStage_2 : decode cX6_runStage 2 = .ok (.iconst 0, 1) := by decide +kernel
theorem dX6_runStage_3 : decode cX6_runStage 3 = .ok (.istore_n 3, 1) := by decide +kernel
theorem dX6_runStage_4 : decode cX6_runStage 4 = .ok (.iload_n 3, 1) := by decide +kernel
theorem dX6_runStage_5 : decode cX6_runStage 5 = .ok (.aload_n 0, 1) := by decide +kernel
theorem dX6_runStage_6 : decode cX6_runStage 6 = .ok (.getfield 25, 3) := by decide +kernel
theorem dX6_runStage_9 : decode cX6_runStage 9 = .ok (.invokevirtual 74, 3) := by decide +kernel
theorem dX6_runStage_12 : decode cX6_runStage 12 = .ok (.if_icmp .ge 40, 3) := by decide +kernel
theorem dX6_runStage_15 : decode cX6_runStage 15 = .ok (.aload_n 0, 1) := by decide +kernel
theorem dX6_runStage_16 : decode cX6_runStage 16 = .ok (.getfield 25, 3) := by decide +kernel
theorem dX6_runStage_19 : decode cX6_runStage 19 = .ok (.iload_n 3, 1) := by decide +kernel
theorem dX6_runStage_20 : decode cX6_runStage 20 = .ok (.invokevirtual 78, 3) := by decide +kernel
theorem dX6_runStage_23 : decode cX6_runStage 23 = .ok (.checkcast 210, 3) := by decide +kernel
theorem dX6_runStage_26 : decode cX6_runStage 26 = .ok (.astore 4, 2) := by decide +kernel
theorem dX6_runStage_28 : decode cX6_runStage 28 = .ok (.aload 4, 2) := by decide +kernel
theorem dX6_runStage_30 : decode cX6_runStage 30 = .ok (.getfield 218, 3) := by decide +kernel
theorem dX6_runStage_33 : decode cX6_runStage 33 = .ok (.iload_n 1, 1) := by decide +kernel
theorem dX6_runStage_34 : decode cX6_runStage 34 = .ok (.if_icmp .ne 12, 3) := by decide +kernel
theorem dX6_runStage_37 : decode cX6_runStage 37 = .ok (.iload_n 2, 1) := by decide +kernel
theorem dX6_runStage_38 : decode cX6_runStage 38 = .ok (.aload_n 0, 1) := by decide +kernel
theorem dX6_runStage_39 : decode cX6_runStage 39 = .ok (.aload 4, 2) := by decide +kernel
theorem dX6_runStage_41 : decode cX6_runStage 41 = .ok (.invokevirtual 292, 3) := by decide +kernel
theorem dX6_runStage_44 : decode cX6_runStage 44 = .ok (.iadd, 1) := by decide +kernel
theorem dX6_runStage_45 : decode cX6_runStage 45 = .ok (.istore_n 2, 1) := by decide +kernel
theorem dX6_runStage_46 : decode cX6_runStage 46 = .ok (.iinc 3 1, 3) := by decide +kernel
theorem dX6_runStage_49 : decode cX6_runStage 49 = .ok (.goto (-45), 3) := by decide +kernel
theorem dX6_runStage_52 : decode cX6_runStage 52 = .ok (.iload_n 2, 1) := by decide +kernel
theorem dX6_runStage_53 : decode cX6_runStage 53 = .ok (.ireturn, 1) := by decide +kernel
set_option maxRecDepth 20000 in
theorem ggX6_runSystem_Jx4a65c_size_8abf5 : GoodIn wsX6_runSystem wsJx4a65c_size_8abf5 := goodIn_r _ [9, 10, 54, 55, 56] (by decide +kernel) (by decide +kernel)
set_option maxRecDepth 20000 in
theorem gX6_runSystem_Jx4a65c_size_8abf5 : GoodIn wsX6_runSystem (wsV RX6 74 RJx4a65c yJx4a65c_size_8abf5 wsJx4a65c_size_8abf5) := goodIn_app (goodIn_of _ (by decide +kernel)) ggX6_runSystem_Jx4a65c_size_8abf5
set_option maxRecDepth 20000 in
theorem ggX6_runSystem_Jx4a65c_get_915e3 : GoodIn wsX6_runSystem wsJx4a65c_get_915e3 := goodIn_r _ [14, 10, 15, 16, 17, 18, 19, 20, 21, 22, 23, 24, 25, 8, 26, 27, 54, 55, 56] (by decide +kernel) (by decide +kernel)
set_option maxRecDepth 20000 in
theorem gX6_runSystem_Jx4a65c_get_915e3 : GoodIn wsX6_runSystem (wsV RX6 78 RJx4a65c yJx4a65c_get_915e3 wsJx4a65c_get_915e3) := goodIn_app (goodIn_of _ (by decide +kernel)) ggX6_runSystem_Jx4a65c_get_915e3
set_option maxRecDepth 20000 in
theorem ggX6_runSystem_X4_isFor : GoodIn wsX6_runSystem wsX4_isFor := goodIn_r _ [32, 33, 34, 57, 58, 59] (by decide +kernel) (by decide +kernel)
set_option maxRecDepth 20000 in
theorem gX6_runSystem_X4_isFor : GoodIn wsX6_runSystem (wsV RX6 296 RX4 yX4_isFor wsX4_isFor) := goodIn_app (goodIn_of _ (by decide +kernel)) ggX6_runSystem_X4_isFor
set_option maxRecDepth 20000 in
theorem ggX6_runSystem_X4_workOn : GoodIn wsX6_runSystem wsX4_workOn := goodIn_r _ [38, 33, 34, 39, 40, 41, 42, 43, 44, 45, 57, 58, 59, 60, 61, 62, 63, 64, 65] (by decide +kernel) (by decide +kernel)
set_option maxRecDepth 20000 in
theorem gX6_runSystem_X4_workOn : GoodIn wsX6_runSystem (wsV RX6 299 RX4 yX4_workOn wsX4_workOn) := goodIn_app (goodIn_of _ (by decide +kernel)) ggX6_runSystem_X4_workOn
theorem dX6_runSystem_0 : decode cX6_runSystem 0 = .ok (.iconst 0, 1) := by decide +kernel
theorem dX6_runSystem_1 : decode cX6_runSystem 1 = .ok (.istore_n 2, 1) := by decide +kernel
theorem dX6_runSystem_2 : decode cX6_runSystem 2 = .ok (.iconst 0, 1) := by decide +kernel
theorem dX6_runSystem_3 : decode cX6_runSystem 3 = .ok (.istore_n 3, 1) := by decide +kernel
theorem dX6_runSystem_4 : decode cX6_runSystem 4 = .ok (.iload_n 3, 1) := by decide +kernel
theorem dX6_runSystem_5 : decode cX6_runSystem 5 = .ok (.aload_n 0, 1) := by decide +kernel
theorem dX6_runSystem_6 : decode cX6_runSystem 6 = .ok (.getfield 18, 3) := by decide +kernel
theorem dX6_runSystem_9 : decode cX6_runSystem 9 = .ok (.invokevirtual 74, 3) := by decide +kernel
theorem dX6_runSystem_12 : decode cX6_runSystem 12 = .ok (.if_icmp .ge 80, 3) := by decide +kernel
theorem dX6_runSystem_15 : decode cX6_runSystem 15 = .ok (.aload_n 0, 1) := by decide +kernel
theorem dX6_runSystem_16 : decode cX6_runSystem 16 = .ok (.getfield 18, 3) := by decide +kernel
theorem dX6_runSystem_19 : decode cX6_runSystem 19 = .ok (.iload_n 3, 1) := by decide +kernel
theorem dX6_runSystem_20 : decode cX6_runSystem 20 = .ok (.invokevirtual 78, 3) := by decide +kernel
theorem dX6_runSystem_23 : decode cX6_runSystem 23 = .ok (.checkcast 55, 3) := by decide +kernel
theorem dX6_runSystem_26 : decode cX6_runSystem 26 = .ok (.astore 4, 2) := by decide +kernel
theorem dX6_runSystem_28 : decode cX6_runSystem 28 = .ok (.aload_n 1, 1) := by decide +kernel
theorem dX6_runSystem_29 : decode cX6_runSystem 29 = .ok (.aload 4, 2) := by decide +kernel
theorem dX6_runSystem_31 : decode cX6_runSystem 31 = .ok (.getfield 142, 3) := by decide +kernel
theorem dX6_runSystem_34 : decode cX6_runSystem 34 = .ok (.invokevirtual 296, 3) := by decide +kernel
theorem dX6_runSystem_37 : decode cX6_runSystem 37 = .ok (.ifCond .eq 49, 3) := by decide +kernel
theorem dX6_runSystem_40 : decode cX6_runSystem 40 = .ok (.iconst 0, 1) := by decide +kernel
theorem dX6_runSystem_41 : decode cX6_runSystem 41 = .ok (.istore 5, 2) := by decide +kernel
theorem dX6_runSystem_43 : decode cX6_runSystem 43 = .ok (.iload 5, 2) := by decide +kernel
theorem dX6_runSystem_45 : decode cX6_runSystem 45 = .ok (.aload 4, 2) := by decide +kernel
theorem dX6_runSystem_47 : decode cX6_runSystem 47 = .ok (.getfield 54, 3) := by decide +kernel
theorem dX6_runSystem_50 : decode cX6_runSystem 50 = .ok (.invokevirtual 74, 3) := by decide +kernel
theorem dX6_runSystem_53 : decode cX6_runSystem 53 = .ok (.if_icmp .ge 33, 3) := by decide +kernel
theorem dX6_runSystem_56 : decode cX6_runSystem 56 = .ok (.iload_n 2, 1) := by decide +kernel
theorem dX6_runSystem_57 : decode cX6_runSystem 57 = .ok (.aload_n 1, 1) := by decide +kernel
theorem dX6_runSystem_58 : decode cX6_runSystem 58 = .ok (.aload 4, 2) := by decide +kernel
theorem dX6_runSystem_60 : decode cX6_runSystem 60 = .ok (.getfield 54, 3) := by decide +kernel
theorem dX6_runSystem_63 : decode cX6_runSystem 63 = .ok (.iload 5, 2) := by decide +kernel
theorem dX6_runSystem_65 : decode cX6_runSystem 65 = .ok (.invokevirtual 78, 3) := by decide +kernel
theorem dX6_runSystem_68 : decode cX6_runSystem 68 = .ok (.checkcast 9, 3) := by decide +kernel
theorem dX6_runSystem_71 : decode cX6_runSystem 71 = .ok (.aload_n 0, 1) := by decide +kernel
theorem dX6_runSystem_72 : decode cX6_runSystem 72 = .ok (.getfield 32, 3) := by decide +kernel
theorem dX6_runSystem_75 : decode cX6_runSystem 75 = .ok (.invokevirtual 299, 3) := by decide +kernel
theorem dX6_runSystem_78 : decode cX6_runSystem 78 = .ok (.iadd, 1) := by decide +kernel
theorem dX6_runSystem_79 : decode cX6_runSystem 79 = .ok (.istore_n 2, 1) := by decide +kernel
theorem dX6_runSystem_80 : decode cX6_runSystem 80 = .ok (.iinc 5 1, 3) := by decide +kernel
theorem dX6_runSystem_83 : decode cX6_runSystem 83 = .ok (.goto (-40), 3) := by decide +kernel
theorem dX6_runSystem_86 : decode cX6_runSystem 86 = .ok (.iinc 3 1, 3) := by decide +kernel
theorem dX6_runSystem_89 : decode cX6_runSystem 89 = .ok (.goto (-85), 3) := by decide +kernel
theorem dX6_runSystem_92 : decode cX6_runSystem 92 = .ok (.iload_n 2, 1) := by decide +kernel
theorem dX6_runSystem_93 : decode cX6_runSystem 93 = .ok (.ireturn, 1) := by decide +kernel
theorem dJ9_max_7cf53_0 : decode cJ9_max_7cf53 0 = .ok (.iload_n 0, 1) := by decide +kernel
theorem dJ9_max_7cf53_1 : decode cJ9_max_7cf53 1 = .ok (.iload_n 1, 1) := by decide +kernel
theorem dJ9_max_7cf53_2 : decode cJ9_max_7cf53 2 = .ok (.if_icmp .lt 7, 3) := by decide +kernel
theorem dJ9_max_7cf53_5 : decode cJ9_max_7cf53 5 = .ok (.iload_n 0, 1) := by decide +kernel
theorem dJ9_max_7cf53_6 : decode cJ9_max_7cf53 6 = .ok (.goto 4, 3) := by decide +kernel
theorem dJ9_max_7cf53_9 : decode cJ9_max_7cf53 9 = .ok (.iload_n 1, 1) := by decide +kernel
theorem dJ9_max_7cf53_10 : decode cJ9_max_7cf53 10 = .ok (.ireturn, 1) := by decide +kernel
theorem dJ9_min_7cf53_0 : decode cJ9_min_7cf53 0 = .ok (.iload_n 0, 1) := by decide +kernel
theorem dJ9_min_7cf53_1 : decode cJ9_min_7cf53 1 = .ok (.iload_n 1, 1) := by decide +kernel
theorem dJ9_min_7cf53_2 : decode cJ9_min_7cf53 2 = .ok (.if_icmp .gt 7, 3) := by decide +kernel
theorem dJ9_min_7cf53_5 : decode cJ9_min_7cf53 5 = .ok (.iload_n 0, 1) := by decide +kernel
theorem dJ9_min_7cf53_6 : decode cJ9_min_7cf53 6 = .ok (.goto 4, 3) := by decide +kernel
theorem dJ9_min_7cf53_9 : decode cJ9_min_7cf53 9 = .ok (.iload_n 1, 1) := by decide +kernel
theorem dJ9_min_7cf53_10 : decode cJ9_min_7cf53 10 = .ok (.ireturn, 1) := by decide +kernel
theorem dJxa1e45_init_da8c8_0 : decode cJxa1e45_init_da8c8 0 = .ok (.aload_n 0, 1) := by decide +kernel
theorem dJxa1e45_init_da8c8_1 : decode cJxa1e45_init_da8c8 1 = .ok (.invokespecial 1, 3) := by decide +kernel
theorem dJxa1e45_init_da8c8_4 : decode cJxa1e45_init_da8c8 4 = .ok (.return_, 1) := by decide +kernel
set_option maxRecDepth 20000 in
theorem ggJxc12de_init_da8c8_Jxa1e45_init_da8c8 : GoodIn wsJxc12de_init_da8c8 wsJxa1e45_init_da8c8 := goodIn_r _ [5, 6, 7, 8] (by decide +kernel) (by decide +kernel)
set_option maxRecDepth 20000 in
theorem gJxc12de_init_da8c8_Jxa1e45_init_da8c8 : GoodIn wsJxc12de_init_da8c8 (wsJxa1e45_init_da8c8) := ggJxc12de_init_da8c8_Jxa1e45_init_da8c8
theorem dJxc12de_init_da8c8_0 : decode cJxc12de_init_da8c8 0 = .ok (.aload_n 0, 1) := by decide +kernel
theorem dJxc12de_init_da8c8_1 : decode cJxc12de_init_da8c8 1 = .ok (.invokespecial 1, 3) := by decide +kernel
theorem dJxc12de_init_da8c8_4 : decode cJxc12de_init_da8c8 4 = .ok (.aload_n 0, 1) := by decide +kernel
theorem dJxc12de_init_da8c8_5 : decode cJxc12de_init_da8c8 5 = .ok (.iconst 0, 1) := by decide +kernel
theorem dJxc12de_init_da8c8_6 : decode cJxc12de_init_da8c8 6 = .ok (.putfield 7, 3) := by decide +kernel
theorem dJxc12de_init_da8c8_9 : decode cJxc12de_init_da8c8 9 = .ok (.return_, 1) := by decide +kernel
set_option maxRecDepth 20000 in
theorem ggJx4a65c_init_da8c8_Jxc12de_init_da8c8 : GoodIn wsJx4a65c_init_da8c8 wsJxc12de_init_da8c8 := goodIn_r _ [6, 7, 8, 9, 10, 11, 12, 13, 14, 15, 16, 17] (by decide +kernel) (by decide +kernel)
set_option maxRecDepth 20000 in
theorem gJx4a65c_init_da8c8_Jxc12de_init_da8c8 : GoodIn wsJx4a65c_init_da8c8 (wsJxc12de_init_da8c8) := ggJx4a65c_init_da8c8_Jxc12de_init_da8c8
theorem dJx4a65c_init_da8c8_0 : decode cJx4a65c_init_da8c8 0 = .ok (.aload_n 0, 1) := by decide +kernel
theorem dJx4a65c_init_da8c8_1 : decode cJx4a65c_init_da8c8 1 = .ok (.invokespecial 1, 3) := by decide +kernel
theorem dJx4a65c_init_da8c8_4 : decode cJx4a65c_init_da8c8 4 = .ok (.aload_n 0, 1) := by decide +kernel
theorem dJx4a65c_init_da8c8_5 : decode cJx4a65c_init_da8c8 5 = .ok (.getstatic 39, 3) := by decide +kernel
theorem dJx4a65c_init_da8c8_8 : decode cJx4a65c_init_da8c8 8 = .ok (.putfield 9, 3) := by decide +kernel
theorem dJx4a65c_init_da8c8_11 : decode cJx4a65c_init_da8c8 11 = .ok (.return_, 1) := by decide +kernel
set_option maxRecDepth 20000 in
theorem ggJx4a65c_grow_92f84_J8_newLength_cabcc : GoodIn wsJx4a65c_grow_92f84 wsJ8_newLength_cabcc := goodIn_r _ [11, 12, 4, 5, 6, 13, 14, 15, 10, 16] (by decide +kernel) (by decide +kernel)
set_option maxRecDepth 20000 in
theorem gJx4a65c_grow_92f84_J8_newLength_cabcc : GoodIn wsJx4a65c_grow_92f84 (va_wsS RJx4a65c 73 yJ8_newLength_cabcc wsJ8_newLength_cabcc) := goodIn_app (goodIn_of _ (by decide +kernel)) ggJx4a65c_grow_92f84_J8_newLength_cabcc
set_option maxRecDepth 20000 in
theorem ggJx4a65c_grow_92f84_J7_copyOf_1904c : GoodIn wsJx4a65c_grow_92f84 wsJ7_copyOf_1904c := goodIn_r _ [20, 21, 22, 23, 24, 25, 26, 19, 27, 28, 29, 30, 31, 5, 32, 33, 34, 35, 36] (by decide +kernel) (by decide +kernel)
set_option maxRecDepth 20000 in
theorem gJx4a65c_grow_92f84_J7_copyOf_1904c : GoodIn wsJx4a65c_grow_92f84 (va_wsS RJx4a65c 66 yJ7_copyOf_1904c wsJ7_copyOf_1904c) := goodIn_app (goodIn_of _ (by decide +kernel)) ggJx4a65c_grow_92f84_J7_copyOf_1904c
theorem dJx4a65c_grow_92f84_0 : decode cJx4a65c_grow_92f84 0 = .ok (.aload_n 0, 1) := by decide +kernel
theorem dJx4a65c_grow_92f84_1 : decode cJx4a65c_grow_92f84 1 = .ok (.getfield 9, 3) := by decide +kernel
theorem dJx4a65c_grow_92f84_4 : decode cJx4a65c_grow_92f84 4 = .ok (.arraylength, 1) := by decide +kernel
theorem dJx4a65c_grow_92f84_5 : decode cJx4a65c_grow_92f84 5 = .ok (.istore_n 2, 1) := by decide +kernel
theorem dJx4a65c_grow_92f84_6 : decode cJx4a65c_grow_92f84 6 = .ok (.iload_n 2, 1) := by decide +kernel
theorem dJx4a65c_grow_92f84_7 : decode cJx4a65c_grow_92f84 7 = .ok (.ifCond .gt 13, 3) := by decide +kernel
theorem dJx4a65c_grow_92f84_10 : decode cJx4a65c_grow_92f84 10 = .ok (.aload_n 0, 1) := by decide +kernel
theorem dJx4a65c_grow_92f84_11 : decode cJx4a65c_grow_92f84 11 = .ok (.getfield 9, 3) := by decide +kernel
theorem dJx4a65c_grow_92f84_14 : decode cJx4a65c_grow_92f84 14 = .ok (.getstatic 39, 3) := by decide +kernel
theorem dJx4a65c_grow_92f84_17 : decode cJx4a65c_grow_92f84 17 = .ok (.if_acmp .eq 28, 3) := by decide +kernel
theorem dJx4a65c_grow_92f84_20 : decode cJx4a65c_grow_92f84 20 = .ok (.iload_n 2, 1) := by decide +kernel
theorem dJx4a65c_grow_92f84_21 : decode cJx4a65c_grow_92f84 21 = .ok (.iload_n 1, 1) := by decide +kernel
theorem dJx4a65c_grow_92f84_22 : decode cJx4a65c_grow_92f84 22 = .ok (.iload_n 2, 1) := by decide +kernel
theorem dJx4a65c_grow_92f84_23 : decode cJx4a65c_grow_92f84 23 = .ok (.isub, 1) := by decide +kernel
theorem dJx4a65c_grow_92f84_24 : decode cJx4a65c_grow_92f84 24 = .ok (.iload_n 2, 1) := by decide +kernel
theorem dJx4a65c_grow_92f84_25 : decode cJx4a65c_grow_92f84 25 = .ok (.iconst 1, 1) := by decide +kernel
theorem dJx4a65c_grow_92f84_26 : decode cJx4a65c_grow_92f84 26 = .ok (.ishr, 1) := by decide +kernel
theorem dJx4a65c_grow_92f84_27 : decode cJx4a65c_grow_92f84 27 = .ok (.invokestatic 73, 3) := by decide +kernel
theorem dJx4a65c_grow_92f84_30 : decode cJx4a65c_grow_92f84 30 = .ok (.istore_n 3, 1) := by decide +kernel
theorem dJx4a65c_grow_92f84_31 : decode cJx4a65c_grow_92f84 31 = .ok (.aload_n 0, 1) := by decide +kernel
theorem dJx4a65c_grow_92f84_32 : decode cJx4a65c_grow_92f84 32 = .ok (.aload_n 0, 1) := by decide +kernel
theorem dJx4a65c_grow_92f84_33 : decode cJx4a65c_grow_92f84 33 = .ok (.getfield 9, 3) := by decide +kernel
theorem dJx4a65c_grow_92f84_36 : decode cJx4a65c_grow_92f84 36 = .ok (.iload_n 3, 1) := by decide +kernel
theorem dJx4a65c_grow_92f84_37 : decode cJx4a65c_grow_92f84 37 = .ok (.invokestatic 66, 3) := by decide +kernel
theorem dJx4a65c_grow_92f84_40 : decode cJx4a65c_grow_92f84 40 = .ok (.dup_x1, 1) := by decide +kernel
theorem dJx4a65c_grow_92f84_41 : decode cJx4a65c_grow_92f84 41 = .ok (.putfield 9, 3) := by decide +kernel
theorem dJx4a65c_grow_92f84_44 : decode cJx4a65c_grow_92f84 44 = .ok (.areturn, 1) := by decide +kernel
theorem dJx4a65c_grow_92f84_45 : decode cJx4a65c_grow_92f84 45 = .ok (.aload_n 0, 1) := by decide +kernel
theorem dJx4a65c_grow_92f84_46 : decode cJx4a65c_grow_92f84 46 = .ok (.bipush 10, 2) := by decide +kernel
theorem dJx4a65c_grow_92f84_48 : decode cJx4a65c_grow_92f84 48 = .ok (.iload_n 1, 1) := by decide +kernel
theorem dJx4a65c_grow_92f84_49 : decode cJx4a65c_grow_92f84 49 = .ok (.invokestatic 79, 3) := by decide +kernel
theorem dJx4a65c_grow_92f84_52 : decode cJx4a65c_grow_92f84 52 = .ok (.anewarray 7, 3) := by decide +kernel
theorem dJx4a65c_grow_92f84_55 : decode cJx4a65c_grow_92f84 55 = .ok (.dup_x1, 1) := by decide +kernel
theorem dJx4a65c_grow_92f84_56 : decode cJx4a65c_grow_92f84 56 = .ok (.putfield 9, 3) := by decide +kernel
theorem dJx4a65c_grow_92f84_59 : decode cJx4a65c_grow_92f84 59 = .ok (.areturn, 1) := by decide +kernel
set_option maxRecDepth 20000 in
theorem ggJx4a65c_grow_d5877_Jx4a65c_grow_92f84 : GoodIn wsJx4a65c_grow_d5877 wsJx4a65c_grow_92f84 := goodIn_r _ [6, 7, 8, 9, 10, 11, 12, 13, 14, 15, 16, 17, 18, 19, 20, 21, 22, 23, 24, 25, 26, 27, 28, 29, 30, 31, 32, 33, 34, 35, 36, 37, 38, 39, 40, 41, 42, 43, 44, 45] (by decide +kernel) (by decide +kernel)
set_option maxRecDepth 20000 in
theorem gJx4a65c_grow_d5877_Jx4a65c_grow_92f84 : GoodIn wsJx4a65c_grow_d5877 (wsV RJx4a65c 69 RJx4a65c yJx4a65c_grow_92f84 wsJx4a65c_grow_92f84) := goodIn_app (goodIn_of _ (by decide +kernel)) ggJx4a65c_grow_d5877_Jx4a65c_grow_92f84
theorem dJx4a65c_grow_d5877_0 : decode cJx4a65c_grow_d5877 0 = .ok (.aload_n 0, 1) := by decide +kernel
theorem dJx4a65c_grow_d5877_1 : decode cJx4a65c_grow_d5877 1 = .ok (.aload_n 0, 1) := by decide +kernel
theorem dJx4a65c_grow_d5877_2 : decode cJx4a65c_grow_d5877 2 = .ok (.getfield 48, 3) := by decide +kernel
theorem dJx4a65c_grow_d5877_5 : decode cJx4a65c_grow_d5877 5 = .ok (.iconst 1, 1) := by decide +kernel
theorem dJx4a65c_grow_d5877_6 : decode cJx4a65c_grow_d5877 6 = .ok (.iadd, 1) := by decide +kernel
theorem dJx4a65c_grow_d5877_7 : decode cJx4a65c_grow_d5877 7 = .ok (.invokevirtual 69, 3) := by decide +kernel
theorem dJx4a65c_grow_d5877_10 : decode cJx4a65c_grow_d5877 10 = .ok (.areturn, 1) := by decide +kernel
theorem dJx4a65c_size_8abf5_0 : decode cJx4a65c_size_8abf5 0 = .ok (.aload_n 0, 1) := by decide +kernel
theorem dJx4a65c_size_8abf5_1 : decode cJx4a65c_size_8abf5 1 = .ok (.getfield 48, 3) := by decide +kernel
theorem dJx4a65c_size_8abf5_4 : decode cJx4a65c_size_8abf5 4 = .ok (.ireturn, 1) := by decide +kernel
theorem dJx4a65c_elementData_915e3_0 : decode cJx4a65c_elementData_915e3 0 = .ok (.aload_n 0, 1) := by decide +kernel
theorem dJx4a65c_elementData_915e3_1 : decode cJx4a65c_elementData_915e3 1 = .ok (.getfield 9, 3) := by decide +kernel
theorem dJx4a65c_elementData_915e3_4 : decode cJx4a65c_elementData_915e3 4 = .ok (.iload_n 1, 1) := by decide +kernel
theorem dJx4a65c_elementData_915e3_5 : decode cJx4a65c_elementData_915e3 5 = .ok (.aaload, 1) := by decide +kernel
theorem dJx4a65c_elementData_915e3_6 : decode cJx4a65c_elementData_915e3 6 = .ok (.areturn, 1) := by decide +kernel
set_option maxRecDepth 20000 in
theorem ggJx4a65c_get_915e3_J15_checkIndex_7cf53 : GoodIn wsJx4a65c_get_915e3 wsJ15_checkIndex_7cf53 := goodIn_r _ [5, 6, 7, 8, 9] (by decide +kernel) (by decide +kernel)
set_option maxRecDepth 20000 in
theorem gJx4a65c_get_915e3_J15_checkIndex_7cf53 : GoodIn wsJx4a65c_get_915e3 (va_wsS RJx4a65c 118 yJ15_checkIndex_7cf53 wsJ15_checkIndex_7cf53) := goodIn_app (goodIn_of _ (by decide +kernel)) ggJx4a65c_get_915e3_J15_checkIndex_7cf53
set_option maxRecDepth 20000 in
theorem ggJx4a65c_get_915e3_Jx4a65c_elementData_915e3 : GoodIn wsJx4a65c_get_915e3 wsJx4a65c_elementData_915e3 := goodIn_r _ [14, 15, 16, 17, 18] (by decide +kernel) (by decide +kernel)
set_option maxRecDepth 20000 in
theorem gJx4a65c_get_915e3_Jx4a65c_elementData_915e3 : GoodIn wsJx4a65c_get_915e3 (wsV RJx4a65c 123 RJx4a65c yJx4a65c_elementData_915e3 wsJx4a65c_elementData_915e3) := goodIn_app (goodIn_of _ (by decide +kernel)) ggJx4a65c_get_915e3_Jx4a65c_elementData_915e3
theorem dJx4a65c_get_915e3_0 : decode cJx4a65c_get_915e3 0 = .ok (.iload_n 1, 1) := by decide +kernel
theorem dJx4a65c_get_915e3_1 : decode cJx4a65c_get_915e3 1 = .ok (.aload_n 0, 1) := by decide +kernel
theorem dJx4a65c_get_915e3_2 : decode cJx4a65c_get_915e3 2 = .ok (.getfield 48, 3) := by decide +kernel
theorem dJx4a65c_get_915e3_5 : decode cJx4a65c_get_915e3 5 = .ok (.invokestatic 118, 3) := by decide +kernel
theorem dJx4a65c_get_915e3_8 : decode cJx4a65c_get_915e3 8 = .ok (.pop, 1) := by decide +kernel
theorem dJx4a65c_get_915e3_9 : decode cJx4a65c_get_915e3 9 = .ok (.aload_n 0, 1) := by decide +kernel
theorem dJx4a65c_get_915e3_10 : decode cJx4a65c_get_915e3 10 = .ok (.iload_n 1, 1) := by decide +kernel
theorem dJx4a65c_get_915e3_11 : decode cJx4a65c_get_915e3 11 = .ok (.invokevirtual 123, 3) := by decide +kernel
theorem dJx4a65c_get_915e3_14 : decode cJx4a65c_get_915e3 14 = .ok (.areturn, 1) := by decide +kernel
set_option maxRecDepth 20000 in
theorem ggJx4a65c_set_bcc79_J15_checkIndex_7cf53 : GoodIn wsJx4a65c_set_bcc79 wsJ15_checkIndex_7cf53 := goodIn_r _ [6, 7, 8, 9, 10] (by decide +kernel) (by decide +kernel)
set_option maxRecDepth 20000 in
theorem gJx4a65c_set_bcc79_J15_checkIndex_7cf53 : GoodIn wsJx4a65c_set_bcc79 (va_wsS RJx4a65c 118 yJ15_checkIndex_7cf53 wsJ15_checkIndex_7cf53) := goodIn_app (goodIn_of _ (by decide +kernel)) ggJx4a65c_set_bcc79_J15_checkIndex_7cf53
set_option maxRecDepth 20000 in
theorem ggJx4a65c_set_bcc79_Jx4a65c_elementData_915e3 : GoodIn wsJx4a65c_set_bcc79 wsJx4a65c_elementData_915e3 := goodIn_r _ [15, 2, 16, 17, 18] (by decide +kernel) (by decide +kernel)
set_option maxRecDepth 20000 in
theorem gJx4a65c_set_bcc79_Jx4a65c_elementData_915e3 : GoodIn wsJx4a65c_set_bcc79 (wsV RJx4a65c 123 RJx4a65c yJx4a65c_elementData_915e3 wsJx4a65c_elementData_915e3) := goodIn_app (goodIn_of _ (by decide +kernel)) ggJx4a65c_set_bcc79_Jx4a65c_elementData_915e3
theorem dJx4a65c_set_bcc79_0 : decode cJx4a65c_set_bcc79 0 = .ok (.iload_n 1, 1) := by decide +kernel
theorem dJx4a65c_set_bcc79_1 : decode cJx4a65c_set_bcc79 1 = .ok (.aload_n 0, 1) := by decide +kernel
theorem dJx4a65c_set_bcc79_2 : decode cJx4a65c_set_bcc79 2 = .ok (.getfield 48, 3) := by decide +kernel
theorem dJx4a65c_set_bcc79_5 : decode cJx4a65c_set_bcc79 5 = .ok (.invokestatic 118, 3) := by decide +kernel
theorem dJx4a65c_set_bcc79_8 : decode cJx4a65c_set_bcc79 8 = .ok (.pop, 1) := by decide +kernel
theorem dJx4a65c_set_bcc79_9 : decode cJx4a65c_set_bcc79 9 = .ok (.aload_n 0, 1) := by decide +kernel
theorem dJx4a65c_set_bcc79_10 : decode cJx4a65c_set_bcc79 10 = .ok (.iload_n 1, 1) := by decide +kernel
theorem dJx4a65c_set_bcc79_11 : decode cJx4a65c_set_bcc79 11 = .ok (.invokevirtual 123, 3) := by decide +kernel
theorem dJx4a65c_set_bcc79_14 : decode cJx4a65c_set_bcc79 14 = .ok (.astore_n 3, 1) := by decide +kernel
theorem dJx4a65c_set_bcc79_15 : decode cJx4a65c_set_bcc79 15 = .ok (.aload_n 0, 1) := by decide +kernel
theorem dJx4a65c_set_bcc79_16 : decode cJx4a65c_set_bcc79 16 = .ok (.getfield 9, 3) := by decide +kernel
theorem dJx4a65c_set_bcc79_19 : decode cJx4a65c_set_bcc79 19 = .ok (.iload_n 1, 1) := by decide +kernel
theorem dJx4a65c_set_bcc79_20 : decode cJx4a65c_set_bcc79 20 = .ok (.aload_n 2, 1) := by decide +kernel
theorem dJx4a65c_set_bcc79_21 : decode cJx4a65c_set_bcc79 21 = .ok (.aastore, 1) := by decide +kernel
theorem dJx4a65c_set_bcc79_22 : decode cJx4a65c_set_bcc79 22 = .ok (.aload_n 3, 1) := by decide +kernel
theorem dJx4a65c_set_bcc79_23 : decode cJx4a65c_set_bcc79 23 = .ok (.areturn, 1) := by decide +kernel
set_option maxRecDepth 20000 in
theorem ggJx4a65c_add_72be8_Jx4a65c_grow_d5877 : GoodIn wsJx4a65c_add_72be8 wsJx4a65c_grow_d5877 := goodIn_r _ [6, 1, 7, 8, 9, 5, 10, 11, 12, 13, 14, 15, 16, 17, 18, 19, 20, 21, 22, 23, 24, 25, 26, 27, 28, 29, 30, 31, 32, 33, 34, 35, 36, 37, 38, 39, 40, 41, 42, 43, 44, 45, 46, 47, 48, 49] (by decide +kernel) (by decide +kernel)
set_option maxRecDepth 20000 in
theorem gJx4a65c_add_72be8_Jx4a65c_grow_d5877 : GoodIn wsJx4a65c_add_72be8 (wsV RJx4a65c 129 RJx4a65c yJx4a65c_grow_d5877 wsJx4a65c_grow_d5877) := goodIn_app (goodIn_of _ (by decide +kernel)) ggJx4a65c_add_72be8_Jx4a65c_grow_d5877
theorem dJx4a65c_add_72be8_0 : decode cJx4a65c_add_72be8 0 = .ok (.iload_n 3, 1) := by decide +kernel
theorem dJx4a65c_add_72be8_1 : decode cJx4a65c_add_72be8 1 = .ok (.aload_n 2, 1) := by decide +kernel
theorem dJx4a65c_add_72be8_2 : decode cJx4a65c_add_72be8 2 = .ok (.arraylength, 1) := by decide +kernel
theorem dJx4a65c_add_72be8_3 : decode cJx4a65c_add_72be8 3 = .ok (.if_icmp .ne 8, 3) := by decide +kernel
theorem dJx4a65c_add_72be8_6 : decode cJx4a65c_add_72be8 6 = .ok (.aload_n 0, 1) := by decide +kernel
theorem dJx4a65c_add_72be8_7 : decode cJx4a65c_add_72be8 7 = .ok (.invokevirtual 129, 3) := by decide +kernel
theorem dJx4a65c_add_72be8_10 : decode cJx4a65c_add_72be8 10 = .ok (.astore_n 2, 1) := by decide +kernel
theorem dJx4a65c_add_72be8_11 : decode cJx4a65c_add_72be8 11 = .ok (.aload_n 2, 1) := by decide +kernel
theorem dJx4a65c_add_72be8_12 : decode cJx4a65c_add_72be8 12 = .ok (.iload_n 3, 1) := by decide +kernel
theorem dJx4a65c_add_72be8_13 : decode cJx4a65c_add_72be8 13 = .ok (.aload_n 1, 1) := by decide +kernel
theorem dJx4a65c_add_72be8_14 : decode cJx4a65c_add_72be8 14 = .ok (.aastore, 1) := by decide +kernel
theorem dJx4a65c_add_72be8_15 : decode cJx4a65c_add_72be8 15 = .ok (.aload_n 0, 1) := by decide +kernel
theorem dJx4a65c_add_72be8_16 : decode cJx4a65c_add_72be8 16 = .ok (.iload_n 3, 1) := by decide +kernel
theorem dJx4a65c_add_72be8_17 : decode cJx4a65c_add_72be8 17 = .ok (.iconst 1, 1) := by decide +kernel
theorem dJx4a65c_add_72be8_18 : decode cJx4a65c_add_72be8 18 = .ok (.iadd, 1) := by decide +kernel
theorem dJx4a65c_add_72be8_19 : decode cJx4a65c_add_72be8 19 = .ok (.putfield 48, 3) := by decide +kernel
theorem dJx4a65c_add_72be8_22 : decode cJx4a65c_add_72be8 22 = .ok (.return_, 1) := by decide +kernel
set_option maxRecDepth 20000 in
theorem ggJx4a65c_add_9ea2d_Jx4a65c_add_72be8 : GoodIn wsJx4a65c_add_9ea2d wsJx4a65c_add_72be8 := goodIn_r _ [9, 4, 10, 11, 12, 8, 13, 14, 15, 16, 17, 3, 18, 19, 20, 21, 22, 23, 24, 25, 26, 27, 28, 29, 30, 31, 32, 33, 34, 35, 36, 37, 38, 39, 40, 41, 42, 43, 44, 45, 46, 47, 48, 49, 50, 51, 52, 53, 54, 55] (by decide +kernel) (by decide +kernel)
set_option maxRecDepth 20000 in
theorem gJx4a65c_add_9ea2d_Jx4a65c_add_72be8 : GoodIn wsJx4a65c_add_9ea2d (wsV RJx4a65c 131 RJx4a65c yJx4a65c_add_72be8 wsJx4a65c_add_72be8) := goodIn_app (goodIn_of _ (by decide +kernel)) ggJx4a65c_add_9ea2d_Jx4a65c_add_72be8
theorem dJx4a65c_add_9ea2d_0 : decode cJx4a65c_add_9ea2d 0 = .ok (.aload_n 0, 1) := by decide +kernel
theorem dJx4a65c_add_9ea2d_1 : decode cJx4a65c_add_9ea2d 1 = .ok (.dup, 1) := by decide +kernel
theorem dJx4a65c_add_9ea2d_2 : decode cJx4a65c_add_9ea2d 2 = .ok (.getfield 63, 3) := by decide +kernel
theorem dJx4a65c_add_9ea2d_5 : decode cJx4a65c_add_9ea2d 5 = .ok (.iconst 1, 1) := by decide +kernel
theorem dJx4a65c_add_9ea2d_6 : decode cJx4a65c_add_9ea2d 6 = .ok (.iadd, 1) := by decide +kernel
theorem dJx4a65c_add_9ea2d_7 : decode cJx4a65c_add_9ea2d 7 = .ok (.putfield 63, 3) := by decide +kernel
theorem dJx4a65c_add_9ea2d_10 : decode cJx4a65c_add_9ea2d 10 = .ok (.aload_n 0, 1) := by decide +kernel
theorem dJx4a65c_add_9ea2d_11 : decode cJx4a65c_add_9ea2d 11 = .ok (.aload_n 1, 1) := by decide +kernel
theorem dJx4a65c_add_9ea2d_12 : decode cJx4a65c_add_9ea2d 12 = .ok (.aload_n 0, 1) := by decide +kernel
theorem dJx4a65c_add_9ea2d_13 : decode cJx4a65c_add_9ea2d 13 = .ok (.getfield 9, 3) := by decide +kernel
theorem dJx4a65c_add_9ea2d_16 : decode cJx4a65c_add_9ea2d 16 = .ok (.aload_n 0, 1) := by decide +kernel
theorem dJx4a65c_add_9ea2d_17 : decode cJx4a65c_add_9ea2d 17 = .ok (.getfield 48, 3) := by decide +kernel
theorem dJx4a65c_add_9ea2d_20 : decode cJx4a65c_add_9ea2d 20 = .ok (.invokevirtual 131, 3) := by decide +kernel
theorem dJx4a65c_add_9ea2d_23 : decode cJx4a65c_add_9ea2d 23 = .ok (.iconst 1, 1) := by decide +kernel
theorem dJx4a65c_add_9ea2d_24 : decode cJx4a65c_add_9ea2d 24 = .ok (.ireturn, 1) := by decide +kernel
set_option maxRecDepth 20000 in
theorem ggJx4a65c_add_7a177_Jx4a65c_rangeCheckForAdd_d00df : GoodIn wsJx4a65c_add_7a177 wsJx4a65c_rangeCheckForAdd_d00df := goodIn_r _ [13, 3, 54, 55, 56] (by decide +kernel) (by decide +kernel)
set_option maxRecDepth 20000 in
theorem gJx4a65c_add_7a177_Jx4a65c_rangeCheckForAdd_d00df : GoodIn wsJx4a65c_add_7a177 (wsV RJx4a65c 135 RJx4a65c yJx4a65c_rangeCheckForAdd_d00df wsJx4a65c_rangeCheckForAdd_d00df) := goodIn_app (goodIn_of _ (by decide +kernel)) ggJx4a65c_add_7a177_Jx4a65c_rangeCheckForAdd_d00df
set_option maxRecDepth 20000 in
theorem ggJx4a65c_add_7a177_Jx4a65c_grow_d5877 : GoodIn wsJx4a65c_add_7a177 wsJx4a65c_grow_d5877 := goodIn_r _ [17, 3, 18, 19, 20, 12, 21, 4, 22, 23, 24, 25, 26, 27, 28, 29, 30, 31, 32, 33, 34, 35, 36, 37, 38, 39, 40, 41, 42, 43, 44, 45, 46, 47, 48, 49, 50, 51, 52, 53, 6, 7, 8, 54, 55, 56] (by decide +kernel) (by decide +kernel)
set_option maxRecDepth 20000 in
theorem gJx4a65c_add_7a177_Jx4a65c_grow_d5877 : GoodIn wsJx4a65c_add_7a177 (wsV RJx4a65c 129 RJx4a65c yJx4a65c_grow_d5877 wsJx4a65c_grow_d5877) := goodIn_app (goodIn_of _ (by decide +kernel)) ggJx4a65c_add_7a177_Jx4a65c_grow_d5877
theorem dJx4a65c_add_7a177_0 : decode cJx4a65c_add_7a177 0 = .ok (.aload_n 0, 1) := by decide +kernel
theorem dJx4a65c_add_7a177_1 : decode cJx4a65c_add_7a177 1 = .ok (.iload_n 1, 1) := by decide +kernel
theorem dJx4a65c_add_7a177_2 : decode cJx4a65c_add_7a177 2 = .ok (.invokevirtual 135, 3) := by decide +kernel
theorem dJx4a65c_add_7a177_5 : decode cJx4a65c_add_7a177 5 = .ok (.aload_n 0, 1) := by decide +kernel
theorem dJx4a65c_add_7a177_6 : decode cJx4a65c_add_7a177 6 = .ok (.dup, 1) := by decide +kernel
theorem dJx4a65c_add_7a177_7 : decode cJx4a65c_add_7a177 7 = .ok (.getfield 63, 3) := by decide +kernel
theorem dJx4a65c_add_7a177_10 : decode cJx4a65c_add_7a177 10 = .ok (.iconst 1, 1) := by decide +kernel
theorem dJx4a65c_add_7a177_11 : decode cJx4a65c_add_7a177 11 = .ok (.iadd, 1) := by decide +kernel
theorem dJx4a65c_add_7a177_12 : decode cJx4a65c_add_7a177 12 = .ok (.putfield 63, 3) := by decide +kernel
theorem dJx4a65c_add_7a177_15 : decode cJx4a65c_add_7a177 15 = .ok (.aload_n 0, 1) := by decide +kernel
theorem dJx4a65c_add_7a177_16 : decode cJx4a65c_add_7a177 16 = .ok (.getfield 48, 3) := by decide +kernel
theorem dJx4a65c_add_7a177_19 : decode cJx4a65c_add_7a177 19 = .ok (.dup, 1) := by decide +kernel
theorem dJx4a65c_add_7a177_20 : decode cJx4a65c_add_7a177 20 = .ok (.istore_n 3, 1) := by decide +kernel
theorem dJx4a65c_add_7a177_21 : decode cJx4a65c_add_7a177 21 = .ok (.aload_n 0, 1) := by decide +kernel
theorem dJx4a65c_add_7a177_22 : decode cJx4a65c_add_7a177 22 = .ok (.getfield 9, 3) := by decide +kernel
theorem dJx4a65c_add_7a177_25 : decode cJx4a65c_add_7a177 25 = .ok (.dup, 1) := by decide +kernel
theorem dJx4a65c_add_7a177_26 : decode cJx4a65c_add_7a177 26 = .ok (.astore 4, 2) := by decide +kernel
theorem dJx4a65c_add_7a177_28 : decode cJx4a65c_add_7a177 28 = .ok (.arraylength, 1) := by decide +kernel
theorem dJx4a65c_add_7a177_29 : decode cJx4a65c_add_7a177 29 = .ok (.if_icmp .ne 9, 3) := by decide +kernel
theorem dJx4a65c_add_7a177_32 : decode cJx4a65c_add_7a177 32 = .ok (.aload_n 0, 1) := by decide +kernel
theorem dJx4a65c_add_7a177_33 : decode cJx4a65c_add_7a177 33 = .ok (.invokevirtual 129, 3) := by decide +kernel
theorem dJx4a65c_add_7a177_36 : decode cJx4a65c_add_7a177 36 = .ok (.astore 4, 2) := by decide +kernel
theorem dJx4a65c_add_7a177_38 : decode cJx4a65c_add_7a177 38 = .ok (.aload 4, 2) := by decide +kernel
theorem dJx4a65c_add_7a177_40 : decode cJx4a65c_add_7a177 40 = .ok (.iload_n 1, 1) := by decide +kernel
theorem dJx4a65c_add_7a177_41 : decode cJx4a65c_add_7a177 41 = .ok (.aload 4, 2) := by decide +kernel
theorem dJx4a65c_add_7a177_43 : decode cJx4a65c_add_7a177 43 = .ok (.iload_n 1, 1) := by decide +kernel
theorem dJx4a65c_add_7a177_44 : decode cJx4a65c_add_7a177 44 = .ok (.iconst 1, 1) := by decide +kernel
theorem dJx4a65c_add_7a177_45 : decode cJx4a65c_add_7a177 45 = .ok (.iadd, 1) := by decide +kernel
theorem dJx4a65c_add_7a177_46 : decode cJx4a65c_add_7a177 46 = .ok (.iload_n 3, 1) := by decide +kernel
theorem dJx4a65c_add_7a177_47 : decode cJx4a65c_add_7a177 47 = .ok (.iload_n 1, 1) := by decide +kernel
theorem dJx4a65c_add_7a177_48 : decode cJx4a65c_add_7a177 48 = .ok (.isub, 1) := by decide +kernel
theorem dJx4a65c_add_7a177_49 : decode cJx4a65c_add_7a177 49 = .ok (.invokestatic 112, 3) := by decide +kernel
theorem dJx4a65c_add_7a177_52 : decode cJx4a65c_add_7a177 52 = .ok (.aload 4, 2) := by decide +kernel
theorem dJx4a65c_add_7a177_54 : decode cJx4a65c_add_7a177 54 = .ok (.iload_n 1, 1) := by decide +kernel
theorem dJx4a65c_add_7a177_55 : decode cJx4a65c_add_7a177 55 = .ok (.aload_n 2, 1) := by decide +kernel
theorem dJx4a65c_add_7a177_56 : decode cJx4a65c_add_7a177 56 = .ok (.aastore, 1) := by decide +kernel
theorem dJx4a65c_add_7a177_57 : decode cJx4a65c_add_7a177 57 = .ok (.aload_n 0, 1) := by decide +kernel
theorem dJx4a65c_add_7a177_58 : decode cJx4a65c_add_7a177 58 = .ok (.iload_n 3, 1) := by decide +kernel
theorem dJx4a65c_add_7a177_59 : decode cJx4a65c_add_7a177 59 = .ok (.iconst 1, 1) := by decide +kernel
theorem dJx4a65c_add_7a177_60 : decode cJx4a65c_add_7a177 60 = .ok (.iadd, 1) := by decide +kernel
theorem dJx4a65c_add_7a177_61 : decode cJx4a65c_add_7a177 61 = .ok (.putfield 48, 3) := by decide +kernel
theorem dJx4a65c_add_7a177_64 : decode cJx4a65c_add_7a177 64 = .ok (.return_, 1) := by decide +kernel
set_option maxRecDepth 20000 in
theorem ggJx4a65c_remove_915e3_J15_checkIndex_7cf53 : GoodIn wsJx4a65c_remove_915e3 wsJ15_checkIndex_7cf53 := goodIn_r _ [6, 7, 8, 9, 10] (by decide +kernel) (by decide +kernel)
set_option maxRecDepth 20000 in
theorem gJx4a65c_remove_915e3_J15_checkIndex_7cf53 : GoodIn wsJx4a65c_remove_915e3 (va_wsS RJx4a65c 118 yJ15_checkIndex_7cf53 wsJ15_checkIndex_7cf53) := goodIn_app (goodIn_of _ (by decide +kernel)) ggJx4a65c_remove_915e3_J15_checkIndex_7cf53
set_option maxRecDepth 20000 in
theorem ggJx4a65c_remove_915e3_Jx4a65c_fastRemove_b59b0 : GoodIn wsJx4a65c_remove_915e3 wsJx4a65c_fastRemove_b59b0 := goodIn_r _ [15, 16, 17, 1, 18, 19, 20, 21, 22, 23, 24] (by decide +kernel) (by decide +kernel)
set_option maxRecDepth 20000 in
theorem gJx4a65c_remove_915e3_Jx4a65c_fastRemove_b59b0 : GoodIn wsJx4a65c_remove_915e3 (wsV RJx4a65c 144 RJx4a65c yJx4a65c_fastRemove_b59b0 wsJx4a65c_fastRemove_b59b0) := goodIn_app (goodIn_of _ (by decide +kernel)) ggJx4a65c_remove_915e3_Jx4a65c_fastRemove_b59b0
theorem dJx4a65c_remove_915e3_0 : decode cJx4a65c_remove_915e3 0 = .ok (.iload_n 1, 1) := by decide +kernel
theorem dJx4a65c_remove_915e3_1 : decode cJx4a65c_remove_915e3 1 = .ok (.aload_n 0, 1) := by decide +kernel
theorem dJx4a65c_remove_915e3_2 : decode cJx4a65c_remove_915e3 2 = .ok (.getfield 48, 3) := by decide +kernel
theorem dJx4a65c_remove_915e3_5 : decode cJx4a65c_remove_915e3 5 = .ok (.invokestatic 118, 3) := by decide +kernel
theorem dJx4a65c_remove_915e3_8 : decode cJx4a65c_remove_915e3 8 = .ok (.pop, 1) := by decide +kernel
theorem dJx4a65c_remove_915e3_9 : decode cJx4a65c_remove_915e3 9 = .ok (.aload_n 0, 1) := by decide +kernel
theorem dJx4a65c_remove_915e3_10 : decode cJx4a65c_remove_915e3 10 = .ok (.getfield 9, 3) := by decide +kernel
theorem dJx4a65c_remove_915e3_13 : decode cJx4a65c_remove_915e3 13 = .ok (.astore_n 2, 1) := by decide +kernel
theorem dJx4a65c_remove_915e3_14 : decode cJx4a65c_remove_915e3 14 = .ok (.aload_n 2, 1) := by decide +kernel
theorem dJx4a65c_remove_915e3_15 : decode cJx4a65c_remove_915e3 15 = .ok (.iload_n 1, 1) := by decide +kernel
theorem dJx4a65c_remove_915e3_16 : decode cJx4a65c_remove_915e3 16 = .ok (.aaload, 1) := by decide +kernel
theorem dJx4a65c_remove_915e3_17 : decode cJx4a65c_remove_915e3 17 = .ok (.astore_n 3, 1) := by decide +kernel
theorem dJx4a65c_remove_915e3_18 : decode cJx4a65c_remove_915e3 18 = .ok (.aload_n 0, 1) := by decide +kernel
theorem dJx4a65c_remove_915e3_19 : decode cJx4a65c_remove_915e3 19 = .ok (.aload_n 2, 1) := by decide +kernel
theorem dJx4a65c_remove_915e3_20 : decode cJx4a65c_remove_915e3 20 = .ok (.iload_n 1, 1) := by decide +kernel
theorem dJx4a65c_remove_915e3_21 : decode cJx4a65c_remove_915e3 21 = .ok (.invokevirtual 144, 3) := by decide +kernel
theorem dJx4a65c_remove_915e3_24 : decode cJx4a65c_remove_915e3 24 = .ok (.aload_n 3, 1) := by decide +kernel
theorem dJx4a65c_remove_915e3_25 : decode cJx4a65c_remove_915e3 25 = .ok (.areturn, 1) := by decide +kernel
theorem dJx4a65c_fastRemove_b59b0_0 : decode cJx4a65c_fastRemove_b59b0 0 = .ok (.aload_n 0, 1) := by decide +kernel
theorem dJx4a65c_fastRemove_b59b0_1 : decode cJx4a65c_fastRemove_b59b0 1 = .ok (.dup, 1) := by decide +kernel
theorem dJx4a65c_fastRemove_b59b0_2 : decode cJx4a65c_fastRemove_b59b0 2 = .ok (.getfield 63, 3) := by decide +kernel
theorem dJx4a65c_fastRemove_b59b0_5 : decode cJx4a65c_fastRemove_b59b0 5 = .ok (.iconst 1, 1) := by decide +kernel
theorem dJx4a65c_fastRemove_b59b0_6 : decode cJx4a65c_fastRemove_b59b0 6 = .ok (.iadd, 1) := by decide +kernel
theorem dJx4a65c_fastRemove_b59b0_7 : decode cJx4a65c_fastRemove_b59b0 7 = .ok (.putfield 63, 3) := by decide +kernel
theorem dJx4a65c_fastRemove_b59b0_10 : decode cJx4a65c_fastRemove_b59b0 10 = .ok (.aload_n 0, 1) := by decide +kernel
theorem dJx4a65c_fastRemove_b59b0_11 : decode cJx4a65c_fastRemove_b59b0 11 = .ok (.getfield 48, 3) := by decide +kernel
theorem dJx4a65c_fastRemove_b59b0_14 : decode cJx4a65c_fastRemove_b59b0 14 = .ok (.iconst 1, 1) := by decide +kernel
theorem dJx4a65c_fastRemove_b59b0_15 : decode cJx4a65c_fastRemove_b59b0 15 = .ok (.isub, 1) := by decide +kernel
theorem dJx4a65c_fastRemove_b59b0_16 : decode cJx4a65c_fastRemove_b59b0 16 = .ok (.dup, 1) := by decide +kernel
theorem dJx4a65c_fastRemove_b59b0_17 : decode cJx4a65c_fastRemove_b59b0 17 = .ok (.istore_n 3, 1) := by decide +kernel
theorem dJx4a65c_fastRemove_b59b0_18 : decode cJx4a65c_fastRemove_b59b0 18 = .ok (.iload_n 2, 1) := by decide +kernel
theorem dJx4a65c_fastRemove_b59b0_19 : decode cJx4a65c_fastRemove_b59b0 19 = .ok (.if_icmp .le 15, 3) := by decide +kernel
theorem dJx4a65c_fastRemove_b59b0_22 : decode cJx4a65c_fastRemove_b59b0 22 = .ok (.aload_n 1, 1) := by decide +kernel
theorem dJx4a65c_fastRemove_b59b0_23 : decode cJx4a65c_fastRemove_b59b0 23 = .ok (.iload_n 2, 1) := by decide +kernel
theorem dJx4a65c_fastRemove_b59b0_24 : decode cJx4a65c_fastRemove_b59b0 24 = .ok (.iconst 1, 1) := by decide +kernel
theorem dJx4a65c_fastRemove_b59b0_25 : decode cJx4a65c_fastRemove_b59b0 25 = .ok (.iadd, 1) := by decide +kernel
theorem dJx4a65c_fastRemove_b59b0_26 : decode cJx4a65c_fastRemove_b59b0 26 = .ok (.aload_n 1, 1) := by decide +kernel
theorem dJx4a65c_fastRemove_b59b0_27 : decode cJx4a65c_fastRemove_b59b0 27 = .ok (.iload_n 2, 1) := by decide +kernel
theorem dJx4a65c_fastRemove_b59b0_28 : decode cJx4a65c_fastRemove_b59b0 28 = .ok (.iload_n 3, 1) := by decide +kernel
theorem dJx4a65c_fastRemove_b59b0_29 : decode cJx4a65c_fastRemove_b59b0 29 = .ok (.iload_n 2, 1) := by decide +kernel
theorem dJx4a65c_fastRemove_b59b0_30 : decode cJx4a65c_fastRemove_b59b0 30 = .ok (.isub, 1) := by decide +kernel
theorem dJx4a65c_fastRemove_b59b0_31 : decode cJx4a65c_fastRemove_b59b0 31 = .ok (.invokestatic 112, 3) := by decide +kernel
theorem dJx4a65c_fastRemove_b59b0_34 : decode cJx4a65c_fastRemove_b59b0 34 = .ok (.aload_n 1, 1) := by decide +kernel
theorem dJx4a65c_fastRemove_b59b0_35 : decode cJx4a65c_fastRemove_b59b0 35 = .ok (.aload_n 0, 1) := by decide +kernel
theorem dJx4a65c_fastRemove_b59b0_36 : decode cJx4a65c_fastRemove_b59b0 36 = .ok (.iload_n 3, 1) := by decide +kernel
theorem dJx4a65c_fastRemove_b59b0_37 : decode cJx4a65c_fastRemove_b59b0 37 = .ok (.dup_x1, 1) := by decide +kernel
theorem dJx4a65c_fastRemove_b59b0_38 : decode cJx4a65c_fastRemove_b59b0 38 = .ok (.putfield 48, 3) := by decide +kernel
theorem dJx4a65c_fastRemove_b59b0_41 : decode cJx4a65c_fastRemove_b59b0 41 = .ok (.aconst_null, 1) := by decide +kernel
theorem dJx4a65c_fastRemove_b59b0_42 : decode cJx4a65c_fastRemove_b59b0 42 = .ok (.aastore, 1) := by decide +kernel
theorem dJx4a65c_fastRemove_b59b0_43 : decode cJx4a65c_fastRemove_b59b0 43 = .ok (.return_, 1) := by decide +kernel
theorem dJx4a65c_rangeCheckForAdd_d00df_0 : decode cJx4a65c_rangeCheckForAdd_d00df 0 = .ok (.iload_n 1, 1) := by decide +kernel
theorem dJx4a65c_rangeCheckForAdd_d00df_1 : decode cJx4a65c_rangeCheckForAdd_d00df 1 = .ok (.aload_n 0, 1) := by decide +kernel
theorem dJx4a65c_rangeCheckForAdd_d00df_2 : decode cJx4a65c_rangeCheckForAdd_d00df 2 = .ok (.getfield 48, 3) := by decide +kernel
theorem dJx4a65c_rangeCheckForAdd_d00df_5 : decode cJx4a65c_rangeCheckForAdd_d00df 5 = .ok (.if_icmp .gt 7, 3) := by decide +kernel
theorem dJx4a65c_rangeCheckForAdd_d00df_8 : decode cJx4a65c_rangeCheckForAdd_d00df 8 = .ok (.iload_n 1, 1) := by decide +kernel
theorem dJx4a65c_rangeCheckForAdd_d00df_9 : decode cJx4a65c_rangeCheckForAdd_d00df 9 = .ok (.ifCond .ge 16, 3) := by decide +kernel
theorem dJx4a65c_rangeCheckForAdd_d00df_12 : decode cJx4a65c_rangeCheckForAdd_d00df 12 = .ok (.new 187, 3) := by decide +kernel
theorem dJx4a65c_rangeCheckForAdd_d00df_15 : decode cJx4a65c_rangeCheckForAdd_d00df 15 = .ok (.dup, 1) := by decide +kernel
theorem dJx4a65c_rangeCheckForAdd_d00df_16 : decode cJx4a65c_rangeCheckForAdd_d00df 16 = .ok (.aload_n 0, 1) := by decide +kernel
theorem dJx4a65c_rangeCheckForAdd_d00df_17 : decode cJx4a65c_rangeCheckForAdd_d00df 17 = .ok (.iload_n 1, 1) := by decide +kernel
theorem dJx4a65c_rangeCheckForAdd_d00df_18 : decode cJx4a65c_rangeCheckForAdd_d00df 18 = .ok (.invokevirtual 198, 3) := by decide +kernel
theorem dJx4a65c_rangeCheckForAdd_d00df_21 : decode cJx4a65c_rangeCheckForAdd_d00df 21 = .ok (.invokespecial 193, 3) := by decide +kernel
theorem dJx4a65c_rangeCheckForAdd_d00df_24 : decode cJx4a65c_rangeCheckForAdd_d00df 24 = .ok (.athrow, 1) := by decide +kernel
theorem dJx4a65c_rangeCheckForAdd_d00df_25 : decode cJx4a65c_rangeCheckForAdd_d00df 25 = .ok (.return_, 1) := by decide +kernel
set_option maxRecDepth 20000 in
theorem ggJ7_copyOf_1904c_J7_copyOf_6403c : GoodIn wsJ7_copyOf_1904c wsJ7_copyOf_6403c := goodIn_r _ [8, 9, 10, 11, 12, 13, 14, 15, 16, 17, 18] (by decide +kernel) (by decide +kernel)
set_option maxRecDepth 20000 in
theorem gJ7_copyOf_1904c_J7_copyOf_6403c : GoodIn wsJ7_copyOf_1904c (va_wsS RJ7 300 yJ7_copyOf_6403c wsJ7_copyOf_6403c) := goodIn_app (goodIn_of _ (by decide +kernel)) ggJ7_copyOf_1904c_J7_copyOf_6403c
theorem dJ7_copyOf_1904c_0 : decode cJ7_copyOf_1904c 0 = .ok (.aload_n 0, 1) := by decide +kernel
theorem dJ7_copyOf_1904c_1 : decode cJ7_copyOf_1904c 1 = .ok (.iload_n 1, 1) := by decide +kernel
theorem dJ7_copyOf_1904c_2 : decode cJ7_copyOf_1904c 2 = .ok (.aload_n 0, 1) := by decide +kernel
theorem dJ7_copyOf_1904c_3 : decode cJ7_copyOf_1904c 3 = .ok (.invokevirtual 86, 3) := by decide +kernel
theorem dJ7_copyOf_1904c_6 : decode cJ7_copyOf_1904c 6 = .ok (.invokestatic 300, 3) := by decide +kernel
theorem dJ7_copyOf_1904c_9 : decode cJ7_copyOf_1904c 9 = .ok (.areturn, 1) := by decide +kernel
theorem dJ7_copyOf_6403c_0 : decode cJ7_copyOf_6403c 0 = .ok (.aload_n 2, 1) := by decide +kernel
theorem dJ7_copyOf_6403c_1 : decode cJ7_copyOf_6403c 1 = .ok (.ldc 110, 2) := by decide +kernel
theorem dJ7_copyOf_6403c_3 : decode cJ7_copyOf_6403c 3 = .ok (.if_acmp .ne 10, 3) := by decide +kernel
theorem dJ7_copyOf_6403c_6 : decode cJ7_copyOf_6403c 6 = .ok (.iload_n 1, 1) := by decide +kernel
theorem dJ7_copyOf_6403c_7 : decode cJ7_copyOf_6403c 7 = .ok (.anewarray 2, 3) := by decide +kernel
theorem dJ7_copyOf_6403c_10 : decode cJ7_copyOf_6403c 10 = .ok (.goto 14, 3) := by decide +kernel
theorem dJ7_copyOf_6403c_13 : decode cJ7_copyOf_6403c 13 = .ok (.aload_n 2, 1) := by decide +kernel
theorem dJ7_copyOf_6403c_14 : decode cJ7_copyOf_6403c 14 = .ok (.invokevirtual 90, 3) := by decide +kernel
theorem dJ7_copyOf_6403c_17 : decode cJ7_copyOf_6403c 17 = .ok (.iload_n 1, 1) := by decide +kernel
theorem dJ7_copyOf_6403c_18 : decode cJ7_copyOf_6403c 18 = .ok (.invokestatic 95, 3) := by decide +kernel
theorem dJ7_copyOf_6403c_21 : decode cJ7_copyOf_6403c 21 = .ok (.checkcast 110, 3) := by decide +kernel
theorem dJ7_copyOf_6403c_24 : decode cJ7_copyOf_6403c 24 = .ok (.astore_n 3, 1) := by decide +kernel
theorem dJ7_copyOf_6403c_25 : decode cJ7_copyOf_6403c 25 = .ok (.aload_n 0, 1) := by decide +kernel
theorem dJ7_copyOf_6403c_26 : decode cJ7_copyOf_6403c 26 = .ok (.iconst 0, 1) := by decide +kernel
theorem dJ7_copyOf_6403c_27 : decode cJ7_copyOf_6403c 27 = .ok (.aload_n 3, 1) := by decide +kernel
theorem dJ7_copyOf_6403c_28 : decode cJ7_copyOf_6403c 28 = .ok (.iconst 0, 1) := by decide +kernel
theorem dJ7_copyOf_6403c_29 : decode cJ7_copyOf_6403c 29 = .ok (.aload_n 0, 1) := by decide +kernel
theorem dJ7_copyOf_6403c_30 : decode cJ7_copyOf_6403c 30 = .ok (.arraylength, 1) := by decide +kernel
theorem dJ7_copyOf_6403c_31 : decode cJ7_copyOf_6403c 31 = .ok (.iload_n 1, 1) := by decide +kernel
theorem dJ7_copyOf_6403c_32 : decode cJ7_copyOf_6403c 32 = .ok (.invokestatic 304, 3) := by decide +kernel
theorem dJ7_copyOf_6403c_35 : decode cJ7_copyOf_6403c 35 = .ok (.invokestatic 150, 3) := by decide +kernel
theorem dJ7_copyOf_6403c_38 : decode cJ7_copyOf_6403c 38 = .ok (.aload_n 3, 1) := by decide +kernel
theorem dJ7_copyOf_6403c_39 : decode cJ7_copyOf_6403c 39 = .ok (.areturn, 1) := by decide +kernel
set_option maxRecDepth 20000 in
theorem ggJ15_checkIndex_7cf53_J3_checkIndex_8e157 : GoodIn wsJ15_checkIndex_7cf53 wsJ3_checkIndex_8e157 := goodIn_r _ [4] (by decide +kernel) (by decide +kernel)
set_option maxRecDepth 20000 in
theorem gJ15_checkIndex_7cf53_J3_checkIndex_8e157 : GoodIn wsJ15_checkIndex_7cf53 (va_wsS RJ15 105 yJ3_checkIndex_8e157 wsJ3_checkIndex_8e157) := goodIn_app (goodIn_of _ (by decide +kernel)) ggJ15_checkIndex_7cf53_J3_checkIndex_8e157
theorem dJ15_checkIndex_7cf53_0 : decode cJ15_checkIndex_7cf53 0 = .ok (.iload_n 0, 1) := by decide +kernel
theorem dJ15_checkIndex_7cf53_1 : decode cJ15_checkIndex_7cf53 1 = .ok (.iload_n 1, 1) := by decide +kernel
theorem dJ15_checkIndex_7cf53_2 : decode cJ15_checkIndex_7cf53 2 = .ok (.aconst_null, 1) := by decide +kernel
theorem dJ15_checkIndex_7cf53_3 : decode cJ15_checkIndex_7cf53 3 = .ok (.invokestatic 105, 3) := by decide +kernel
theorem dJ15_checkIndex_7cf53_6 : decode cJ15_checkIndex_7cf53 6 = .ok (.ireturn, 1) := by decide +kernel
theorem dJ8_newLength_cabcc_0 : decode cJ8_newLength_cabcc 0 = .ok (.iload_n 0, 1) := by decide +kernel
theorem dJ8_newLength_cabcc_1 : decode cJ8_newLength_cabcc 1 = .ok (.iload_n 1, 1) := by decide +kernel
theorem dJ8_newLength_cabcc_2 : decode cJ8_newLength_cabcc 2 = .ok (.iload_n 2, 1) := by decide +kernel
theorem dJ8_newLength_cabcc_3 : decode cJ8_newLength_cabcc 3 = .ok (.invokestatic 194, 3) := by decide +kernel
theorem dJ8_newLength_cabcc_6 : decode cJ8_newLength_cabcc 6 = .ok (.iadd, 1) := by decide +kernel
theorem dJ8_newLength_cabcc_7 : decode cJ8_newLength_cabcc 7 = .ok (.istore_n 3, 1) := by decide +kernel
theorem dJ8_newLength_cabcc_8 : decode cJ8_newLength_cabcc 8 = .ok (.iconst 0, 1) := by decide +kernel
theorem dJ8_newLength_cabcc_9 : decode cJ8_newLength_cabcc 9 = .ok (.iload_n 3, 1) := by decide +kernel
theorem dJ8_newLength_cabcc_10 : decode cJ8_newLength_cabcc 10 = .ok (.if_icmp .ge 11, 3) := by decide +kernel
theorem dJ8_newLength_cabcc_13 : decode cJ8_newLength_cabcc 13 = .ok (.iload_n 3, 1) := by decide +kernel
theorem dJ8_newLength_cabcc_14 : decode cJ8_newLength_cabcc 14 = .ok (.ldc 200, 2) := by decide +kernel
theorem dJ8_newLength_cabcc_16 : decode cJ8_newLength_cabcc 16 = .ok (.if_icmp .gt 5, 3) := by decide +kernel
theorem dJ8_newLength_cabcc_19 : decode cJ8_newLength_cabcc 19 = .ok (.iload_n 3, 1) := by decide +kernel
theorem dJ8_newLength_cabcc_20 : decode cJ8_newLength_cabcc 20 = .ok (.ireturn, 1) := by decide +kernel
theorem dJ8_newLength_cabcc_21 : decode cJ8_newLength_cabcc 21 = .ok (.iload_n 0, 1) := by decide +kernel
theorem dJ8_newLength_cabcc_22 : decode cJ8_newLength_cabcc 22 = .ok (.iload_n 1, 1) := by decide +kernel
theorem dJ8_newLength_cabcc_23 : decode cJ8_newLength_cabcc 23 = .ok (.invokestatic 201, 3) := by decide +kernel
theorem dJ8_newLength_cabcc_26 : decode cJ8_newLength_cabcc 26 = .ok (.ireturn, 1) := by decide +kernel
theorem dJ3_checkIndex_8e157_0 : decode cJ3_checkIndex_8e157 0 = .ok (.iload_n 0, 1) := by decide +kernel
theorem dJ3_checkIndex_8e157_1 : decode cJ3_checkIndex_8e157 1 = .ok (.ifCond .lt 8, 3) := by decide +kernel
theorem dJ3_checkIndex_8e157_4 : decode cJ3_checkIndex_8e157 4 = .ok (.iload_n 0, 1) := by decide +kernel
theorem dJ3_checkIndex_8e157_5 : decode cJ3_checkIndex_8e157 5 = .ok (.iload_n 1, 1) := by decide +kernel
theorem dJ3_checkIndex_8e157_6 : decode cJ3_checkIndex_8e157 6 = .ok (.if_icmp .lt 10, 3) := by decide +kernel
theorem dJ3_checkIndex_8e157_9 : decode cJ3_checkIndex_8e157 9 = .ok (.aload_n 2, 1) := by decide +kernel
theorem dJ3_checkIndex_8e157_10 : decode cJ3_checkIndex_8e157 10 = .ok (.iload_n 0, 1) := by decide +kernel
theorem dJ3_checkIndex_8e157_11 : decode cJ3_checkIndex_8e157 11 = .ok (.iload_n 1, 1) := by decide +kernel
theorem dJ3_checkIndex_8e157_12 : decode cJ3_checkIndex_8e157 12 = .ok (.invokestatic 95, 3) := by decide +kernel
theorem dJ3_checkIndex_8e157_15 : decode cJ3_checkIndex_8e157 15 = .ok (.athrow, 1) := by decide +kernel
theorem dJ3_checkIndex_8e157_16 : decode cJ3_checkIndex_8e157 16 = .ok (.iload_n 0, 1) := by decide +kernel
theorem dJ3_checkIndex_8e157_17 : decode cJ3_checkIndex_8e157 17 = .ok (.ireturn, 1) := by decide +kernel
