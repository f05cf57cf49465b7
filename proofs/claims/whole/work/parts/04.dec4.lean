theorem dX4_cost_1 : decode cX4_cost 1 = .ok (.iload_n 1, 1) := by decide +kernel
theorem dX4_cost_2 : decode cX4_cost 2 = .ok (.invokevirtual 86, 3) := by decide +kernel
theorem dX4_cost_5 : decode cX4_cost 5 = .ok (.ifCond .eq 11, 3) := by decide +kernel
theorem dX4_cost_8 : decode cX4_cost 8 = .ok (.aload_n 0, 1) := by decide +kernel
theorem dX4_cost_9 : decode cX4_cost 9 = .ok (.iload_n 1, 1) := by decide +kernel
theorem dX4_cost_10 : decode cX4_cost 10 = .ok (.invokevirtual 127, 3) := by decide +kernel
theorem dX4_cost_13 : decode cX4_cost 13 = .ok (.goto 4, 3) := by decide +kernel
theorem dX4_cost_16 : decode cX4_cost 16 = .ok (.iconst 0, 1) := by decide +kernel
theorem dX4_cost_17 : decode cX4_cost 17 = .ok (.ireturn, 1) := by decide +kernel
set_option maxRecDepth 20000 in
theorem ggX4_dearest_X4_costOf : GoodIn wsX4_dearest wsX4_costOf := goodIn_r _ [7, 8, 9, 10, 11, 12, 6, 13, 14, 15, 16, 17, 18, 19, 20, 21, 22, 23, 24, 25, 26, 27, 28, 29, 30, 31, 32, 33, 34, 35, 36, 37, 38, 39, 40, 41, 42, 43, 44, 45, 46, 47, 48, 49, 50, 51, 52, 53, 54, 55, 56, 57, 58, 59, 60, 61, 62, 63, 64, 65, 66, 67, 68, 69, 70, 71, 72, 73, 74, 75, 76, 77, 78, 79, 80, 81, 82, 83, 84, 85, 86, 87, 88, 89, 90, 91, 92] (by decide +kernel) (by decide +kernel)
set_option maxRecDepth 20000 in
theorem gX4_dearest_X4_costOf : GoodIn wsX4_dearest (wsV RX4 127 RX4 yX4_costOf wsX4_costOf) := goodIn_app (goodIn_of _ (by decide +kernel)) ggX4_dearest_X4_costOf
theorem dX4_dearest_0 : decode cX4_dearest 0 = .ok (.aload_n 0, 1) := by decide +kernel
theorem dX4_dearest_1 : decode cX4_dearest 1 = .ok (.iconst 0, 1) := by decide +kernel
theorem dX4_dearest_2 : decode cX4_dearest 2 = .ok (.putfield 53, 3) := by decide +kernel
theorem dX4_dearest_5 : decode cX4_dearest 5 = .ok (.iconst (-1), 1) := by decide +kernel
theorem dX4_dearest_6 : decode cX4_dearest 6 = .ok (.istore_n 1, 1) := by decide +kernel
theorem dX4_dearest_7 : decode cX4_dearest 7 = .ok (.aload_n 0, 1) := by decide +kernel
theorem dX4_dearest_8 : decode cX4_dearest 8 = .ok (.getfield 61, 3) := by decide +kernel
theorem dX4_dearest_11 : decode cX4_dearest 11 = .ok (.iconst 1, 1) := by decide +kernel
theorem dX4_dearest_12 : decode cX4_dearest 12 = .ok (.isub, 1) := by decide +kernel
theorem dX4_dearest_13 : decode cX4_dearest 13 = .ok (.istore_n 2, 1) := by decide +kernel
theorem dX4_dearest_14 : decode cX4_dearest 14 = .ok (.iload_n 2, 1) := by decide +kernel
theorem dX4_dearest_15 : decode cX4_dearest 15 = .ok (.ifCond .lt 32, 3) := by decide +kernel
theorem dX4_dearest_18 : decode cX4_dearest 18 = .ok (.iload_n 1, 1) := by decide +kernel
theorem dX4_dearest_19 : decode cX4_dearest 19 = .ok (.ifCond .lt 16, 3) := by decide +kernel
theorem dX4_dearest_22 : decode cX4_dearest 22 = .ok (.aload_n 0, 1) := by decide +kernel
theorem dX4_dearest_23 : decode cX4_dearest 23 = .ok (.iload_n 2, 1) := by decide +kernel
theorem dX4_dearest_24 : decode cX4_dearest 24 = .ok (.invokevirtual 127, 3) := by decide +kernel
theorem dX4_dearest_27 : decode cX4_dearest 27 = .ok (.aload_n 0, 1) := by decide +kernel
theorem dX4_dearest_28 : decode cX4_dearest 28 = .ok (.iload_n 1, 1) := by decide +kernel
theorem dX4_dearest_29 : decode cX4_dearest 29 = .ok (.invokevirtual 127, 3) := by decide +kernel
theorem dX4_dearest_32 : decode cX4_dearest 32 = .ok (.if_icmp .lt 7, 3) := by decide +kernel
theorem dX4_dearest_35 : decode cX4_dearest 35 = .ok (.iload_n 2, 1) := by decide +kernel
theorem dX4_dearest_36 : decode cX4_dearest 36 = .ok (.goto 4, 3) := by decide +kernel
theorem dX4_dearest_39 : decode cX4_dearest 39 = .ok (.iload_n 1, 1) := by decide +kernel
theorem dX4_dearest_40 : decode cX4_dearest 40 = .ok (.istore_n 1, 1) := by decide +kernel
theorem dX4_dearest_41 : decode cX4_dearest 41 = .ok (.iinc 2 (-1), 3) := by decide +kernel
theorem dX4_dearest_44 : decode cX4_dearest 44 = .ok (.goto (-30), 3) := by decide +kernel
theorem dX4_dearest_47 : decode cX4_dearest 47 = .ok (.iload_n 1, 1) := by decide +kernel
theorem dX4_dearest_48 : decode cX4_dearest 48 = .ok (.ireturn, 1) := by decide +kernel
theorem dJ9_max_7cf53_0 : decode cJ9_max_7cf53 0 = .ok (.iload_n 0, 1) := by decide +kernel
theorem dJ9_max_7cf53_1 : decode cJ9_max_7cf53 1 = .ok (.iload_n 1, 1) := by decide +kernel
theorem dJ9_max_7cf53_2 : decode cJ9_max_7cf53 2 = .ok (.if_icmp .lt 7, 3) := by decide +kernel
theorem dJ9_max_7cf53_5 : decode cJ9_max_7cf53 5 = .ok (.iload_n 0, 1) := by decide +kernel
theorem dJ9_max_7cf53_6 : decode cJ9_max_7cf53 6 = .ok (.goto 4, 3) := by decide +kernel
theorem dJ9_max_7cf53_9 : decode cJ9_max_7cf53 9 = .ok (.iload_n 1, 1) := by decide +kernel
theorem dJ9_max_7cf53_10 : decode cJ9_max_7cf53 10 = .ok (.ireturn, 1) := by decide +kernel
theorem dJ9_min_7cf53_0 : decode cJ9_min_7cf53 0 = .ok (.iload_n 0, 1) := by decide +kernel
theorem dJ9_min_7cf53_1 : decode cJ9_min_7cf53 1 = .ok (.iload_n 1, 1) := by decide +kernel
theorem dJ9_min_7cf53_2 : decode cJ9_min_7cf53 2 = .ok (.if_icmp .gt 7, 3) := by decide +kernel
theorem dJ9_min_7cf53_5 : decode cJ9_min_7cf53 5 = .ok (.iload_n 0, 1) := by decide +kernel
theorem dJ9_min_7cf53_6 : decode cJ9_min_7cf53 6 = .ok (.goto 4, 3) := by decide +kernel
theorem dJ9_min_7cf53_9 : decode cJ9_min_7cf53 9 = .ok (.iload_n 1, 1) := by decide +kernel
theorem dJ9_min_7cf53_10 : decode cJ9_min_7cf53 10 = .ok (.ireturn, 1) := by decide +kernel
theorem dJxa1e45_init_da8c8_0 : decode cJxa1e45_init_da8c8 0 = .ok (.aload_n 0, 1) := by decide +kernel
theorem dJxa1e45_init_da8c8_1 : decode cJxa1e45_init_da8c8 1 = .ok (.invokespecial 1, 3) := by decide +kernel
theorem dJxa1e45_init_da8c8_4 : decode cJxa1e45_init_da8c8 4 = .ok (.return_, 1) := by decide +kernel
set_option maxRecDepth 20000 in
theorem ggJxc12de_init_da8c8_Jxa1e45_init_da8c8 : GoodIn wsJxc12de_init_da8c8 wsJxa1e45_init_da8c8 := goodIn_r _ [5, 6, 7, 8] (by decide +kernel) (by decide +kernel)
set_option maxRecDepth 20000 in
theorem gJxc12de_init_da8c8_Jxa1e45_init_da8c8 : GoodIn wsJxc12de_init_da8c8 (wsJxa1e45_init_da8c8) := ggJxc12de_init_da8c8_Jxa1e45_init_da8c8
theorem dJxc12de_init_da8c8_0 : decode cJxc12de_init_da8c8 0 = .ok (.aload_n 0, 1) := by decide +kernel
theorem dJxc12de_init_da8c8_1 : decode cJxc12de_init_da8c8 1 = .ok (.invokespecial 1, 3) := by decide +kernel
theorem dJxc12de_init_da8c8_4 : decode cJxc12de_init_da8c8 4 = .ok (.aload_n 0, 1) := by decide +kernel
theorem dJxc12de_init_da8c8_5 : decode cJxc12de_init_da8c8 5 = .ok (.iconst 0, 1) := by decide +kernel
theorem dJxc12de_init_da8c8_6 : decode cJxc12de_init_da8c8 6 = .ok (.putfield 7, 3) := by decide +kernel
theorem dJxc12de_init_da8c8_9 : decode cJxc12de_init_da8c8 9 = .ok (.return_, 1) := by decide +kernel
set_option maxRecDepth 20000 in
theorem ggJx4a65c_init_da8c8_Jxc12de_init_da8c8 : GoodIn wsJx4a65c_init_da8c8 wsJxc12de_init_da8c8 := goodIn_r _ [6, 7, 8, 9, 10, 11, 12, 13, 14, 15, 16, 17] (by decide +kernel) (by decide +kernel)
set_option maxRecDepth 20000 in
theorem gJx4a65c_init_da8c8_Jxc12de_init_da8c8 : GoodIn wsJx4a65c_init_da8c8 (wsJxc12de_init_da8c8) := ggJx4a65c_init_da8c8_Jxc12de_init_da8c8
theorem dJx4a65c_init_da8c8_0 : decode cJx4a65c_init_da8c8 0 = .ok (.aload_n 0, 1) := by decide +kernel
theorem dJx4a65c_init_da8c8_1 : decode cJx4a65c_init_da8c8 1 = .ok (.invokespecial 1, 3) := by decide +kernel
theorem dJx4a65c_init_da8c8_4 : decode cJx4a65c_init_da8c8 4 = .ok (.aload_n 0, 1) := by decide +kernel
theorem dJx4a65c_init_da8c8_5 : decode cJx4a65c_init_da8c8 5 = .ok (.getstatic 39, 3) := by decide +kernel
theorem dJx4a65c_init_da8c8_8 : decode cJx4a65c_init_da8c8 8 = .ok (.putfield 9, 3) := by decide +kernel
theorem dJx4a65c_init_da8c8_11 : decode cJx4a65c_init_da8c8 11 = .ok (.return_, 1) := by decide +kernel
set_option maxRecDepth 20000 in
theorem ggJx4a65c_grow_92f84_J8_newLength_cabcc : GoodIn wsJx4a65c_grow_92f84 wsJ8_newLength_cabcc := goodIn_r _ [11, 12, 4, 5, 6, 13, 14, 15, 10, 16] (by decide +kernel) (by decide +kernel)
set_option maxRecDepth 20000 in
theorem gJx4a65c_grow_92f84_J8_newLength_cabcc : GoodIn wsJx4a65c_grow_92f84 (va_wsS RJx4a65c 73 yJ8_newLength_cabcc wsJ8_newLength_cabcc) := goodIn_app (goodIn_of _ (by decide +kernel)) ggJx4a65c_grow_92f84_J8_newLength_cabcc
set_option maxRecDepth 20000 in
theorem ggJx4a65c_grow_92f84_J7_copyOf_1904c : GoodIn wsJx4a65c_grow_92f84 wsJ7_copyOf_1904c := goodIn_r _ [20, 21, 22, 23, 24, 25, 26, 19, 27, 28, 29, 30, 31, 5, 32, 33, 34, 35, 36] (by decide +kernel) (by decide +kernel)
set_option maxRecDepth 20000 in
theorem gJx4a65c_grow_92f84_J7_copyOf_1904c : GoodIn wsJx4a65c_grow_92f84 (va_wsS RJx4a65c 66 yJ7_copyOf_1904c wsJ7_copyOf_1904c) := goodIn_app (goodIn_of _ (by decide +kernel)) ggJx4a65c_grow_92f84_J7_copyOf_1904c
theorem dJx4a65c_grow_92f84_0 : decode cJx4a65c_grow_92f84 0 = .ok (.aload_n 0, 1) := by decide +kernel
theorem dJx4a65c_grow_92f84_1 : decode cJx4a65c_grow_92f84 1 = .ok (.getfield 9, 3) := by decide +kernel
theorem dJx4a65c_grow_92f84_4 : decode cJx4a65c_grow_92f84 4 = .ok (.arraylength, 1) := by decide +kernel
theorem dJx4a65c_grow_92f84_5 : decode cJx4a65c_grow_92f84 5 = .ok (.istore_n 2, 1) := by decide +kernel
theorem dJx4a65c_grow_92f84_6 : decode cJx4a65c_grow_92f84 6 = .ok (.iload_n 2, 1) := by decide +kernel
theorem dJx4a65c_grow_92f84_7 : decode cJx4a65c_grow_92f84 7 = .ok (.ifCond .gt 13, 3) := by decide +kernel
theorem dJx4a65c_grow_92f84_10 : decode cJx4a65c_grow_92f84 10 = .ok (.aload_n 0, 1) := by decide +kernel
theorem dJx4a65c_grow_92f84_11 : decode cJx4a65c_grow_92f84 11 = .ok (.getfield 9, 3) := by decide +kernel
theorem dJx4a65c_grow_92f84_14 : decode cJx4a65c_grow_92f84 14 = .ok (.getstatic 39, 3) := by decide +kernel
theorem dJx4a65c_grow_92f84_17 : decode cJx4a65c_grow_92f84 17 = .ok (.if_acmp .eq 28, 3) := by decide +kernel
theorem dJx4a65c_grow_92f84_20 : decode cJx4a65c_grow_92f84 20 = .ok (.iload_n 2, 1) := by decide +kernel
theorem dJx4a65c_grow_92f84_21 : decode cJx4a65c_grow_92f84 21 = .ok (.iload_n 1, 1) := by decide +kernel
theorem dJx4a65c_grow_92f84_22 : decode cJx4a65c_grow_92f84 22 = .ok (.iload_n 2, 1) := by decide +kernel
theorem dJx4a65c_grow_92f84_23 : decode cJx4a65c_grow_92f84 23 = .ok (.isub, 1) := by decide +kernel
theorem dJx4a65c_grow_92f84_24 : decode cJx4a65c_grow_92f84 24 = .ok (.iload_n 2, 1) := by decide +kernel
theorem dJx4a65c_grow_92f84_25 : decode cJx4a65c_grow_92f84 25 = .ok (.iconst 1, 1) := by decide +kernel
theorem dJx4a65c_grow_92f84_26 : decode cJx4a65c_grow_92f84 26 = .ok (.ishr, 1) := by decide +kernel
theorem dJx4a65c_grow_92f84_27 : decode cJx4a65c_grow_92f84 27 = .ok (.invokestatic 73, 3) := by decide +kernel
theorem dJx4a65c_grow_92f84_30 : decode cJx4a65c_grow_92f84 30 = .ok (.istore_n 3, 1) := by decide +kernel
theorem dJx4a65c_grow_92f84_31 : decode cJx4a65c_grow_92f84 31 = .ok (.aload_n 0, 1) := by decide +kernel
theorem dJx4a65c_grow_92f84_32 : decode cJx4a65c_grow_92f84 32 = .ok (.aload_n 0, 1) := by decide +kernel
theorem dJx4a65c_grow_92f84_33 : decode cJx4a65c_grow_92f84 33 = .ok (.getfield 9, 3) := by decide +kernel
theorem dJx4a65c_grow_92f84_36 : decode cJx4a65c_grow_92f84 36 = .ok (.iload_n 3, 1) := by decide +kernel
theorem dJx4a65c_grow_92f84_37 : decode cJx4a65c_grow_92f84 37 = .ok (.invokestatic 66, 3) := by decide +kernel
theorem dJx4a65c_grow_92f84_40 : decode cJx4a65c_grow_92f84 40 = .ok (.dup_x1, 1) := by decide +kernel
theorem dJx4a65c_grow_92f84_41 : decode cJx4a65c_grow_92f84 41 = .ok (.putfield 9, 3) := by decide +kernel
theorem dJx4a65c_grow_92f84_44 : decode cJx4a65c_grow_92f84 44 = .ok (.areturn, 1) := by decide +kernel
theorem dJx4a65c_grow_92f84_45 : decode cJx4a65c_grow_92f84 45 = .ok (.aload_n 0, 1) := by decide +kernel
theorem dJx4a65c_grow_92f84_46 : decode cJx4a65c_grow_92f84 46 = .ok (.bipush 10, 2) := by decide +kernel
theorem dJx4a65c_grow_92f84_48 : decode cJx4a65c_grow_92f84 48 = .ok (.iload_n 1, 1) := by decide +kernel
theorem dJx4a65c_grow_92f84_49 : decode cJx4a65c_grow_92f84 49 = .ok (.invokestatic 79, 3) := by decide +kernel
theorem dJx4a65c_grow_92f84_52 : decode cJx4a65c_grow_92f84 52 = .ok (.anewarray 7, 3) := by decide +kernel
theorem dJx4a65c_grow_92f84_55 : decode cJx4a65c_grow_92f84 55 = .ok (.dup_x1, 1) := by decide +kernel
theorem dJx4a65c_grow_92f84_56 : decode cJx4a65c_grow_92f84 56 = .ok (.putfield 9, 3) := by decide +kernel
theorem dJx4a65c_grow_92f84_59 : decode cJx4a65c_grow_92f84 59 = .ok (.areturn, 1) := by decide +kernel
set_option maxRecDepth 20000 in
theorem ggJx4a65c_grow_d5877_Jx4a65c_grow_92f84 : GoodIn wsJx4a65c_grow_d5877 wsJx4a65c_grow_92f84 := goodIn_r _ [6, 7, 8, 9, 10, 11, 12, 13, 14, 15, 16, 17, 18, 19, 20, 21, 22, 23, 24, 25, 26, 27, 28, 29, 30, 31, 32, 33, 34, 35, 36, 37, 38, 39, 40, 41, 42, 43, 44, 45] (by decide +kernel) (by decide +kernel)
set_option maxRecDepth 20000 in
theorem gJx4a65c_grow_d5877_Jx4a65c_grow_92f84 : GoodIn wsJx4a65c_grow_d5877 (wsV RJx4a65c 69 RJx4a65c yJx4a65c_grow_92f84 wsJx4a65c_grow_92f84) := goodIn_app (goodIn_of _ (by decide +kernel)) ggJx4a65c_grow_d5877_Jx4a65c_grow_92f84
theorem dJx4a65c_grow_d5877_0 : decode cJx4a65c_grow_d5877 0 = .ok (.aload_n 0, 1) := by decide +kernel
theorem dJx4a65c_grow_d5877_1 : decode cJx4a65c_grow_d5877 1 = .ok (.aload_n 0, 1) := by decide +kernel
theorem dJx4a65c_grow_d5877_2 : decode cJx4a65c_grow_d5877 2 = .ok (.getfield 48, 3) := by decide +kernel
theorem dJx4a65c_grow_d5877_5 : decode cJx4a65c_grow_d5877 5 = .ok (.iconst 1, 1) := by decide +kernel
theorem dJx4a65c_grow_d5877_6 : decode cJx4a65c_grow_d5877 6 = .ok (.iadd, 1) := by decide +kernel
theorem dJx4a65c_grow_d5877_7 : decode cJx4a65c_grow_d5877 7 = .ok (.invokevirtual 69, 3) := by decide +kernel
theorem dJx4a65c_grow_d5877_10 : decode cJx4a65c_grow_d5877 10 = .ok (.areturn, 1) := by decide +kernel
theorem dJx4a65c_size_8abf5_0 : decode cJx4a65c_size_8abf5 0 = .ok (.aload_n 0, 1) := by decide +kernel
theorem dJx4a65c_size_8abf5_1 : decode cJx4a65c_size_8abf5 1 = .ok (.getfield 48, 3) := by decide +kernel
theorem dJx4a65c_size_8abf5_4 : decode cJx4a65c_size_8abf5 4 = .ok (.ireturn, 1) := by decide +kernel
theorem dJx4a65c_elementData_915e3_0 : decode cJx4a65c_elementData_915e3 0 = .ok (.aload_n 0, 1) := by decide +kernel
theorem dJx4a65c_elementData_915e3_1 : decode cJx4a65c_elementData_915e3 1 = .ok (.getfield 9, 3) := by decide +kernel
theorem dJx4a65c_elementData_915e3_4 : decode cJx4a65c_elementData_915e3 4 = .ok (.iload_n 1, 1) := by decide +kernel
theorem dJx4a65c_elementData_915e3_5 : decode cJx4a65c_elementData_915e3 5 = .ok (.aaload, 1) := by decide +kernel
theorem dJx4a65c_elementData_915e3_6 : decode cJx4a65c_elementData_915e3 6 = .ok (.areturn, 1) := by decide +kernel
set_option maxRecDepth 20000 in
theorem ggJx4a65c_get_915e3_J15_checkIndex_7cf53 : GoodIn wsJx4a65c_get_915e3 wsJ15_checkIndex_7cf53 := goodIn_r _ [5, 6, 7, 8, 9] (by decide +kernel) (by decide +kernel)
set_option maxRecDepth 20000 in
theorem gJx4a65c_get_915e3_J15_checkIndex_7cf53 : GoodIn wsJx4a65c_get_915e3 (va_wsS RJx4a65c 118 yJ15_checkIndex_7cf53 wsJ15_checkIndex_7cf53) := goodIn_app (goodIn_of _ (by decide +kernel)) ggJx4a65c_get_915e3_J15_checkIndex_7cf53
set_option maxRecDepth 20000 in
theorem ggJx4a65c_get_915e3_Jx4a65c_elementData_915e3 : GoodIn wsJx4a65c_get_915e3 wsJx4a65c_elementData_915e3 := goodIn_r _ [14, 15, 16, 17, 18] (by decide +kernel) (by decide +kernel)
set_option maxRecDepth 20000 in
theorem gJx4a65c_get_915e3_Jx4a65c_elementData_915e3 : GoodIn wsJx4a65c_get_915e3 (wsV RJx4a65c 123 RJx4a65c yJx4a65c_elementData_915e3 wsJx4a65c_elementData_915e3) := goodIn_app (goodIn_of _ (by decide +kernel)) ggJx4a65c_get_915e3_Jx4a65c_elementData_915e3
theorem dJx4a65c_get_915e3_0 : decode cJx4a65c_get_915e3 0 = .ok (.iload_n 1, 1) := by decide +kernel
theorem dJx4a65c_get_915e3_1 : decode cJx4a65c_get_915e3 1 = .ok (.aload_n 0, 1) := by decide +kernel
theorem dJx4a65c_get_915e3_2 : decode cJx4a65c_get_915e3 2 = .ok (.getfield 48, 3) := by decide +kernel
theorem dJx4a65c_get_915e3_5 : decode cJx4a65c_get_915e3 5 = .ok (.invokestatic 118, 3) := by decide +kernel
theorem dJx4a65c_get_915e3_8 : decode cJx4a65c_get_915e3 8 = .ok (.pop, 1) := by decide +kernel
theorem dJx4a65c_get_915e3_9 : decode cJx4a65c_get_915e3 9 = .ok (.aload_n 0, 1) := by decide +kernel
theorem dJx4a65c_get_915e3_10 : decode cJx4a65c_get_915e3 10 = .ok (.iload_n 1, 1) := by decide +kernel
theorem dJx4a65c_get_915e3_11 : decode cJx4a65c_get_915e3 11 = .ok (.invokevirtual 123, 3) := by decide +kernel
theorem dJx4a65c_get_915e3_14 : decode cJx4a65c_get_915e3 14 = .ok (.areturn, 1) := by decide +kernel
set_option maxRecDepth 20000 in
theorem ggJx4a65c_add_72be8_Jx4a65c_grow_d5877 : GoodIn wsJx4a65c_add_72be8 wsJx4a65c_grow_d5877 := goodIn_r _ [6, 1, 7, 8, 9, 5, 10, 11, 12, 13, 14, 15, 16, 17, 18, 19, 20, 21, 22, 23, 24, 25, 26, 27, 28, 29, 30, 31, 32, 33, 34, 35, 36, 37, 38, 39, 40, 41, 42, 43, 44, 45, 46, 47, 48, 49] (by decide +kernel) (by decide +kernel)
set_option maxRecDepth 20000 in
theorem gJx4a65c_add_72be8_Jx4a65c_grow_d5877 : GoodIn wsJx4a65c_add_72be8 (wsV RJx4a65c 129 RJx4a65c yJx4a65c_grow_d5877 wsJx4a65c_grow_d5877) := goodIn_app (goodIn_of _ (by decide +kernel)) ggJx4a65c_add_72be8_Jx4a65c_grow_d5877
theorem dJx4a65c_add_72be8_0 : decode cJx4a65c_add_72be8 0 = .ok (.iload_n 3, 1) := by decide +kernel
theorem dJx4a65c_add_72be8_1 : decode cJx4a65c_add_72be8 1 = .ok (.aload_n 2, 1) := by decide +kernel
theorem dJx4a65c_add_72be8_2 : decode cJx4a65c_add_72be8 2 = .ok (.arraylength, 1) := by decide +kernel
theorem dJx4a65c_add_72be8_3 : decode cJx4a65c_add_72be8 3 = .ok (.if_icmp .ne 8, 3) := by decide +kernel
theorem dJx4a65c_add_72be8_6 : decode cJx4a65c_add_72be8 6 = .ok (.aload_n 0, 1) := by decide +kernel
theorem dJx4a65c_add_72be8_7 : decode cJx4a65c_add_72be8 7 = .ok (.invokevirtual 129, 3) := by decide +kernel
theorem dJx4a65c_add_72be8_10 : decode cJx4a65c_add_72be8 10 = .ok (.astore_n 2, 1) := by decide +kernel
theorem dJx4a65c_add_72be8_11 : decode cJx4a65c_add_72be8 11 = .ok (.aload_n 2, 1) := by decide +kernel
theorem dJx4a65c_add_72be8_12 : decode cJx4a65c_add_72be8 12 = .ok (.iload_n 3, 1) := by decide +kernel
theorem dJx4a65c_add_72be8_13 : decode cJx4a65c_add_72be8 13 = .ok (.aload_n 1, 1) := by decide +kernel
theorem dJx4a65c_add_72be8_14 : decode cJx4a65c_add_72be8 14 = .ok (.aastore, 1) := by decide +kernel
theorem dJx4a65c_add_72be8_15 : decode cJx4a65c_add_72be8 15 = .ok (.aload_n 0, 1) := by decide +kernel
theorem dJx4a65c_add_72be8_16 : decode cJx4a65c_add_72be8 16 = .ok (.iload_n 3, 1) := by decide +kernel
theorem dJx4a65c_add_72be8_17 : decode cJx4a65c_add_72be8 17 = .ok (.iconst 1, 1) := by decide +kernel
theorem dJx4a65c_add_72be8_18 : decode cJx4a65c_add_72be8 18 = .ok (.iadd, 1) := by decide +kernel
theorem dJx4a65c_add_72be8_19 : decode cJx4a65c_add_72be8 19 = .ok (.putfield 48, 3) := by decide +kernel
theorem dJx4a65c_add_72be8_22 : decode cJx4a65c_add_72be8 22 = .ok (.return_, 1) := by decide +kernel
set_option maxRecDepth 20000 in
theorem ggJx4a65c_add_9ea2d_Jx4a65c_add_72be8 : GoodIn wsJx4a65c_add_9ea2d wsJx4a65c_add_72be8 := goodIn_r _ [9, 4, 10, 11, 12, 8, 13, 14, 15, 16, 17, 3, 18, 19, 20, 21, 22, 23, 24, 25, 26, 27, 28, 29, 30, 31, 32, 33, 34, 35, 36, 37, 38, 39, 40, 41, 42, 43, 44, 45, 46, 47, 48, 49, 50, 51, 52, 53, 54, 55] (by decide +kernel) (by decide +kernel)
set_option maxRecDepth 20000 in
theorem gJx4a65c_add_9ea2d_Jx4a65c_add_72be8 : GoodIn wsJx4a65c_add_9ea2d (wsV RJx4a65c 131 RJx4a65c yJx4a65c_add_72be8 wsJx4a65c_add_72be8) := goodIn_app (goodIn_of _ (by decide +kernel)) ggJx4a65c_add_9ea2d_Jx4a65c_add_72be8
theorem dJx4a65c_add_9ea2d_0 : decode cJx4a65c_add_9ea2d 0 = .ok (.aload_n 0, 1) := by decide +kernel
theorem dJx4a65c_add_9ea2d_1 : decode cJx4a65c_add_9ea2d 1 = .ok (.dup, 1) := by decide +kernel
theorem dJx4a65c_add_9ea2d_2 : decode cJx4a65c_add_9ea2d 2 = .ok (.getfield 63, 3) := by decide +kernel
theorem dJx4a65c_add_9ea2d_5 : decode cJx4a65c_add_9ea2d 5 = .ok (.iconst 1, 1) := by decide +kernel
theorem dJx4a65c_add_9ea2d_6 : decode cJx4a65c_add_9ea2d 6 = .ok (.iadd, 1) := by decide +kernel
theorem dJx4a65c_add_9ea2d_7 : decode cJx4a65c_add_9ea2d 7 = .ok (.putfield 63, 3) := by decide +kernel
theorem dJx4a65c_add_9ea2d_10 : decode cJx4a65c_add_9ea2d 10 = .ok (.aload_n 0, 1) := by decide +kernel
theorem dJx4a65c_add_9ea2d_11 : decode cJx4a65c_add_9ea2d 11 = .ok (.aload_n 1, 1) := by decide +kernel
theorem dJx4a65c_add_9ea2d_12 : decode cJx4a65c_add_9ea2d 12 = .ok (.aload_n 0, 1) := by decide +kernel
theorem dJx4a65c_add_9ea2d_13 : decode cJx4a65c_add_9ea2d 13 = .ok (.getfield 9, 3) := by decide +kernel
theorem dJx4a65c_add_9ea2d_16 : decode cJx4a65c_add_9ea2d 16 = .ok (.aload_n 0, 1) := by decide +kernel
theorem dJx4a65c_add_9ea2d_17 : decode cJx4a65c_add_9ea2d 17 = .ok (.getfield 48, 3) := by decide +kernel
theorem dJx4a65c_add_9ea2d_20 : decode cJx4a65c_add_9ea2d 20 = .ok (.invokevirtual 131, 3) := by decide +kernel
theorem dJx4a65c_add_9ea2d_23 : decode cJx4a65c_add_9ea2d 23 = .ok (.iconst 1, 1) := by decide +kernel
theorem dJx4a65c_add_9ea2d_24 : decode cJx4a65c_add_9ea2d 24 = .ok (.ireturn, 1) := by decide +kernel
set_option maxRecDepth 20000 in
theorem ggJ7_copyOf_1904c_J7_copyOf_6403c : GoodIn wsJ7_copyOf_1904c wsJ7_copyOf_6403c := goodIn_r _ [8, 9, 10, 11, 12, 13, 14, 15, 16, 17, 18] (by decide +kernel) (by decide +kernel)
set_option maxRecDepth 20000 in
theorem gJ7_copyOf_1904c_J7_copyOf_6403c : GoodIn wsJ7_copyOf_1904c (va_wsS RJ7 300 yJ7_copyOf_6403c wsJ7_copyOf_6403c) := goodIn_app (goodIn_of _ (by decide +kernel)) ggJ7_copyOf_1904c_J7_copyOf_6403c
theorem dJ7_copyOf_1904c_0 : decode cJ7_copyOf_1904c 0 = .ok (.aload_n 0, 1) := by decide +kernel
theorem dJ7_copyOf_1904c_1 : decode cJ7_copyOf_1904c 1 = .ok (.iload_n 1, 1) := by decide +kernel
theorem dJ7_copyOf_1904c_2 : decode cJ7_copyOf_1904c 2 = .ok (.aload_n 0, 1) := by decide +kernel
theorem dJ7_copyOf_1904c_3 : decode cJ7_copyOf_1904c 3 = .ok (.invokevirtual 86, 3) := by decide +kernel
theorem dJ7_copyOf_1904c_6 : decode cJ7_copyOf_1904c 6 = .ok (.invokestatic 300, 3) := by decide +kernel
theorem dJ7_copyOf_1904c_9 : decode cJ7_copyOf_1904c 9 = .ok (.areturn, 1) := by decide +kernel
theorem dJ7_copyOf_6403c_0 : decode cJ7_copyOf_6403c 0 = .ok (.aload_n 2, 1) := by decide +kernel
theorem dJ7_copyOf_6403c_1 : decode cJ7_copyOf_6403c 1 = .ok (.ldc 110, 2) := by decide +kernel
theorem dJ7_copyOf_6403c_3 : decode cJ7_copyOf_6403c 3 = .ok (.if_acmp .ne 10, 3) := by decide +kernel
theorem dJ7_copyOf_6403c_6 : decode cJ7_copyOf_6403c 6 = .ok (.iload_n 1, 1) := by decide +kernel
theorem dJ7_copyOf_6403c_7 : decode cJ7_copyOf_6403c 7 = .ok (.anewarray 2, 3) := by decide +kernel
theorem dJ7_copyOf_6403c_10 : decode cJ7_copyOf_6403c 10 = .ok (.goto 14, 3) := by decide +kernel
theorem dJ7_copyOf_6403c_13 : decode cJ7_copyOf_6403c 13 = .ok (.aload_n 2, 1) := by decide +kernel
theorem dJ7_copyOf_6403c_14 : decode cJ7_copyOf_6403c 14 = .ok (.invokevirtual 90, 3) := by decide +kernel
theorem dJ7_copyOf_6403c_17 : decode cJ7_copyOf_6403c 17 = .ok (.iload_n 1, 1) := by decide +kernel
theorem dJ7_copyOf_6403c_18 : decode cJ7_copyOf_6403c 18 = .ok (.invokestatic 95, 3) := by decide +kernel
theorem dJ7_copyOf_6403c_21 : decode cJ7_copyOf_6403c 21 = .ok (.checkcast 110, 3) := by decide +kernel
theorem dJ7_copyOf_6403c_24 : decode cJ7_copyOf_6403c 24 = .ok (.astore_n 3, 1) := by decide +kernel
theorem dJ7_copyOf_6403c_25 : decode cJ7_copyOf_6403c 25 = .ok (.aload_n 0, 1) := by decide +kernel
theorem dJ7_copyOf_6403c_26 : decode cJ7_copyOf_6403c 26 = .ok (.iconst 0, 1) := by decide +kernel
theorem dJ7_copyOf_6403c_27 : decode cJ7_copyOf_6403c 27 = .ok (.aload_n 3, 1) := by decide +kernel
theorem dJ7_copyOf_6403c_28 : decode cJ7_copyOf_6403c 28 = .ok (.iconst 0, 1) := by decide +kernel
theorem dJ7_copyOf_6403c_29 : decode cJ7_copyOf_6403c 29 = .ok (.aload_n 0, 1) := by decide +kernel
theorem dJ7_copyOf_6403c_30 : decode cJ7_copyOf_6403c 30 = .ok (.arraylength, 1) := by decide +kernel
theorem dJ7_copyOf_6403c_31 : decode cJ7_copyOf_6403c 31 = .ok (.iload_n 1, 1) := by decide +kernel
theorem dJ7_copyOf_6403c_32 : decode cJ7_copyOf_6403c 32 = .ok (.invokestatic 304, 3) := by decide +kernel
theorem dJ7_copyOf_6403c_35 : decode cJ7_copyOf_6403c 35 = .ok (.invokestatic 150, 3) := by decide +kernel
theorem dJ7_copyOf_6403c_38 : decode cJ7_copyOf_6403c 38 = .ok (.aload_n 3, 1) := by decide +kernel
theorem dJ7_copyOf_6403c_39 : decode cJ7_copyOf_6403c 39 = .ok (.areturn, 1) := by decide +kernel
set_option maxRecDepth 20000 in
theorem ggJ15_checkIndex_7cf53_J3_checkIndex_8e157 : GoodIn wsJ15_checkIndex_7cf53 wsJ3_checkIndex_8e157 := goodIn_r _ [4] (by decide +kernel) (by decide +kernel)
set_option maxRecDepth 20000 in
theorem gJ15_checkIndex_7cf53_J3_checkIndex_8e157 : GoodIn wsJ15_checkIndex_7cf53 (va_wsS RJ15 105 yJ3_checkIndex_8e157 wsJ3_checkIndex_8e157) := goodIn_app (goodIn_of _ (by decide +kernel)) ggJ15_checkIndex_7cf53_J3_checkIndex_8e157
theorem dJ15_checkIndex_7cf53_0 : decode cJ15_checkIndex_7cf53 0 = .ok (.iload_n 0, 1) := by decide +kernel
theorem dJ15_checkIndex_7cf53_1 : decode cJ15_checkIndex_7cf53 1 = .ok (.iload_n 1, 1) := by decide +kernel
theorem dJ15_checkIndex_7cf53_2 : decode cJ15_checkIndex_7cf53 2 = .ok (.aconst_null, 1) := by decide +kernel
theorem dJ15_checkIndex_7cf53_3 : decode cJ15_checkIndex_7cf53 3 = .ok (.invokestatic 105, 3) := by decide +kernel
theorem dJ15_checkIndex_7cf53_6 : decode cJ15_checkIndex_7cf53 6 = .ok (.ireturn, 1) := by decide +kernel
set_option maxRecDepth 20000 in
theorem ggJ8_newLength_cabcc_J8_hugeLength_7cf53 : GoodIn wsJ8_newLength_cabcc wsJ8_hugeLength_7cf53 := goodIn_r _ [9, 5] (by decide +kernel) (by decide +kernel)
set_option maxRecDepth 20000 in
theorem gJ8_newLength_cabcc_J8_hugeLength_7cf53 : GoodIn wsJ8_newLength_cabcc (va_wsS RJ8 201 yJ8_hugeLength_7cf53 wsJ8_hugeLength_7cf53) := goodIn_app (goodIn_of _ (by decide +kernel)) ggJ8_newLength_cabcc_J8_hugeLength_7cf53
theorem dJ8_newLength_cabcc_0 : decode cJ8_newLength_cabcc 0 = .ok (.iload_n 0, 1) := by decide +kernel
theorem dJ8_newLength_cabcc_1 : decode cJ8_newLength_cabcc 1 = .ok (.iload_n 1, 1) := by decide +kernel
theorem dJ8_newLength_cabcc_2 : decode cJ8_newLength_cabcc 2 = .ok (.iload_n 2, 1) := by decide +kernel
theorem dJ8_newLength_cabcc_3 : decode cJ8_newLength_cabcc 3 = .ok (.invokestatic 194, 3) := by decide +kernel
theorem dJ8_newLength_cabcc_6 : decode cJ8_newLength_cabcc 6 = .ok (.iadd, 1) := by decide +kernel
theorem dJ8_newLength_cabcc_7 : decode cJ8_newLength_cabcc 7 = .ok (.istore_n 3, 1) := by decide +kernel
theorem dJ8_newLength_cabcc_8 : decode cJ8_newLength_cabcc 8 = .ok (.iconst 0, 1) := by decide +kernel
theorem dJ8_newLength_cabcc_9 : decode cJ8_newLength_cabcc 9 = .ok (.iload_n 3, 1) := by decide +kernel
theorem dJ8_newLength_cabcc_10 : decode cJ8_newLength_cabcc 10 = .ok (.if_icmp .ge 11, 3) := by decide +kernel
theorem dJ8_newLength_cabcc_13 : decode cJ8_newLength_cabcc 13 = .ok (.iload_n 3, 1) := by decide +kernel
theorem dJ8_newLength_cabcc_14 : decode cJ8_newLength_cabcc 14 = .ok (.ldc 200, 2) := by decide +kernel
theorem dJ8_newLength_cabcc_16 : decode cJ8_newLength_cabcc 16 = .ok (.if_icmp .gt 5, 3) := by decide +kernel
theorem dJ8_newLength_cabcc_19 : decode cJ8_newLength_cabcc 19 = .ok (.iload_n 3, 1) := by decide +kernel
theorem dJ8_newLength_cabcc_20 : decode cJ8_newLength_cabcc 20 = .ok (.ireturn, 1) := by decide +kernel
theorem dJ8_newLength_cabcc_21 : decode cJ8_newLength_cabcc 21 = .ok (.iload_n 0, 1) := by decide +kernel
theorem dJ8_newLength_cabcc_22 : decode cJ8_newLength_cabcc 22 = .ok (.iload_n 1, 1) := by decide +kernel
theorem dJ8_newLength_cabcc_23 : decode cJ8_newLength_cabcc 23 = .ok (.invokestatic 201, 3) := by decide +kernel
theorem dJ8_newLength_cabcc_26 : decode cJ8_newLength_cabcc 26 = .ok (.ireturn, 1) := by decide +kernel
theorem dJ8_hugeLength_7cf53_0 : decode cJ8_hugeLength_7cf53 0 = .ok (.iload_n 0, 1) := by decide +kernel
theorem dJ8_hugeLength_7cf53_1 : decode cJ8_hugeLength_7cf53 1 = .ok (.iload_n 1, 1) := by decide +kernel
theorem dJ8_hugeLength_7cf53_2 : decode cJ8_hugeLength_7cf53 2 = .ok (.iadd, 1) := by decide +kernel
theorem dJ8_hugeLength_7cf53_3 : decode cJ8_hugeLength_7cf53 3 = .ok (.istore_n 2, 1) := by decide +kernel
theorem dJ8_hugeLength_7cf53_4 : decode cJ8_hugeLength_7cf53 4 = .ok (.iload_n 2, 1) := by decide +kernel
theorem dJ8_hugeLength_7cf53_5 : decode cJ8_hugeLength_7cf53 5 = .ok (.ifCond .ge 44, 3) := by decide +kernel
theorem dJ8_hugeLength_7cf53_8 : decode cJ8_hugeLength_7cf53 8 = .ok (.new 204, 3) := by decide +kernel
theorem dJ8_hugeLength_7cf53_11 : decode cJ8_hugeLength_7cf53 11 = .ok (.dup, 1) := by decide +kernel
theorem dJ8_hugeLength_7cf53_12 : decode cJ8_hugeLength_7cf53 12 = .ok (.new 89, 3) := by decide +kernel
theorem dJ8_hugeLength_7cf53_15 : decode cJ8_hugeLength_7cf53 15 = .ok (.dup, 1) := by decide +kernel
theorem dJ8_hugeLength_7cf53_16 : decode cJ8_hugeLength_7cf53 16 = .ok (.invokespecial 91, 3) := by decide +kernel
theorem dJ8_hugeLength_7cf53_19 : decode cJ8_hugeLength_7cf53 19 = .ok (.ldc 206, 2) := by decide +kernel
theorem dJ8_hugeLength_7cf53_21 : decode cJ8_hugeLength_7cf53 21 = .ok (.invokevirtual 94, 3) := by decide +kernel
theorem dJ8_hugeLength_7cf53_24 : decode cJ8_hugeLength_7cf53 24 = .ok (.iload_n 0, 1) := by decide +kernel
theorem dJ8_hugeLength_7cf53_25 : decode cJ8_hugeLength_7cf53 25 = .ok (.invokevirtual 98, 3) := by decide +kernel
theorem dJ8_hugeLength_7cf53_28 : decode cJ8_hugeLength_7cf53 28 = .ok (.ldc 208, 2) := by decide +kernel
theorem dJ8_hugeLength_7cf53_30 : decode cJ8_hugeLength_7cf53 30 = .ok (.invokevirtual 94, 3) := by decide +kernel
theorem dJ8_hugeLength_7cf53_33 : decode cJ8_hugeLength_7cf53 33 = .ok (.iload_n 1, 1) := by decide +kernel
theorem dJ8_hugeLength_7cf53_34 : decode cJ8_hugeLength_7cf53 34 = .ok (.invokevirtual 98, 3) := by decide +kernel
theorem dJ8_hugeLength_7cf53_37 : decode cJ8_hugeLength_7cf53 37 = .ok (.ldc 210, 2) := by decide +kernel
theorem dJ8_hugeLength_7cf53_39 : decode cJ8_hugeLength_7cf53 39 = .ok (.invokevirtual 94, 3) := by decide +kernel
theorem dJ8_hugeLength_7cf53_42 : decode cJ8_hugeLength_7cf53 42 = .ok (.invokevirtual 101, 3) := by decide +kernel
theorem dJ8_hugeLength_7cf53_45 : decode cJ8_hugeLength_7cf53 45 = .ok (.invokespecial 212, 3) := by decide +kernel
theorem dJ8_hugeLength_7cf53_48 : decode cJ8_hugeLength_7cf53 48 = .ok (.athrow, 1) := by decide +kernel
theorem dJ8_hugeLength_7cf53_49 : decode cJ8_hugeLength_7cf53 49 = .ok (.iload_n 2, 1) := by decide +kernel
theorem dJ8_hugeLength_7cf53_50 : decode cJ8_hugeLength_7cf53 50 = .ok (.ldc 200, 2) := by decide +kernel
theorem dJ8_hugeLength_7cf53_52 : decode cJ8_hugeLength_7cf53 52 = .ok (.if_icmp .gt 6, 3) := by decide +kernel
theorem dJ8_hugeLength_7cf53_55 : decode cJ8_hugeLength_7cf53 55 = .ok (.ldc 200, 2) := by decide +kernel
theorem dJ8_hugeLength_7cf53_57 : decode cJ8_hugeLength_7cf53 57 = .ok (.ireturn, 1) := by decide +kernel
theorem dJ8_hugeLength_7cf53_58 : decode cJ8_hugeLength_7cf53 58 = .ok (.iload_n 2, 1) := by decide +kernel
theorem dJ8_hugeLength_7cf53_59 : decode cJ8_hugeLength_7cf53 59 = .ok (.ireturn, 1) := by decide +kernel
theorem dJ3_checkIndex_8e157_0 : decode cJ3_checkIndex_8e157 0 = .ok (.iload_n 0, 1) := by decide +kernel
theorem dJ3_checkIndex_8e157_1 : decode cJ3_checkIndex_8e157 1 = .ok (.ifCond .lt 8, 3) := by decide +kernel
theorem dJ3_checkIndex_8e157_4 : decode cJ3_checkIndex_8e157 4 = .ok (.iload_n 0, 1) := by decide +kernel
theorem dJ3_checkIndex_8e157_5 : decode cJ3_checkIndex_8e157 5 = .ok (.iload_n 1, 1) := by decide +kernel
theorem dJ3_checkIndex_8e157_6 : decode cJ3_checkIndex_8e157 6 = .ok (.if_icmp .lt 10, 3) := by decide +kernel
theorem dJ3_checkIndex_8e157_9 : decode cJ3_checkIndex_8e157 9 = .ok (.aload_n 2, 1) := by decide +kernel
theorem dJ3_checkIndex_8e157_10 : decode cJ3_checkIndex_8e157 10 = .ok (.iload_n 0, 1) := by decide +kernel
theorem dJ3_checkIndex_8e157_11 : decode cJ3_checkIndex_8e157 11 = .ok (.iload_n 1, 1) := by decide +kernel
theorem dJ3_checkIndex_8e157_12 : decode cJ3_checkIndex_8e157 12 = .ok (.invokestatic 95, 3) := by decide +kernel
theorem dJ3_checkIndex_8e157_15 : decode cJ3_checkIndex_8e157 15 = .ok (.athrow, 1) := by decide +kernel
theorem dJ3_checkIndex_8e157_16 : decode cJ3_checkIndex_8e157 16 = .ok (.iload_n 0, 1) := by decide +kernel
theorem dJ3_checkIndex_8e157_17 : decode cJ3_checkIndex_8e157 17 = .ok (.ireturn, 1) := by decide +kernel
set_option maxRecDepth 20000 in
theorem ggL_setLimits_X3_setLimits : GoodIn wsL_setLimits wsX3_setLimits := goodIn_ca (goodIn_r _ [6, 7, 8, 9, 10, 5, 11, 12, 13, 14, 15, 16, 17, 18, 19, 20, 21, 22, 23, 24, 25, 26, 27, 28, 29, 30, 31, 32, 33, 34, 35, 36, 37, 38, 39, 40, 41, 42, 43, 44, 45, 46, 47, 48, 49, 50, 51, 52, 53, 54, 55, 56, 57, 58] (by decide +kernel) (by decide +kernel)) (goodIn_sub (fun _ h => List.mem_cons_of_mem _ (List.mem_append_right _ h)) (by decide +kernel))
set_option maxRecDepth 20000 in
theorem gL_setLimits_X3_setLimits : GoodIn wsL_setLimits (wsV RL 7 RX3 yX3_setLimits wsX3_setLimits) := goodIn_app (goodIn_of _ (by decide +kernel)) ggL_setLimits_X3_setLimits
theorem dL_setLimits_0 : decode cL_setLimits 0 = .ok (.aload_n 0, 1) := by decide +kernel
theorem dL_setLimits_1 : decode cL_setLimits 1 = .ok (.iload_n 1, 1) := by decide +kernel
theorem dL_setLimits_2 : decode cL_setLimits 2 = .ok (.iload_n 2, 1) := by decide +kernel
theorem dL_setLimits_3 : decode cL_setLimits 3 = .ok (.iload_n 3, 1) := by decide +kernel
theorem dL_setLimits_4 : decode cL_setLimits 4 = .ok (.invokevirtual 7, 3) := by decide +kernel
theorem dL_setLimits_7 : decode cL_setLimits 7 = .ok (.goto 7, 3) := by decide +kernel
theorem dL_setLimits_10 : decode cL_setLimits 10 = .ok (.astore 4, 2) := by decide +kernel
theorem dL_setLimits_12 : decode cL_setLimits 12 = .ok (.iconst 1, 1) := by decide +kernel
theorem dL_setLimits_13 : decode cL_setLimits 13 = .ok (.ireturn, 1) := by decide +kernel
theorem dL_setLimits_14 : decode cL_setLimits 14 = .ok (.iconst 0, 1) := by decide +kernel
theorem dL_setLimits_15 : decode cL_setLimits 15 = .ok (.ireturn, 1) := by decide +kernel
set_option maxRecDepth 20000 in
theorem ggL_setRates_X3_setRates : GoodIn wsL_setRates wsX3_setRates := goodIn_ca (goodIn_r _ [6, 7, 8, 9, 5, 10, 11, 12, 13, 14, 15, 16, 17, 18, 19, 20, 21, 22, 23, 24, 25, 26, 27, 28, 29, 30, 31, 32, 33, 34, 35, 36, 37, 38, 39, 40, 41, 42, 43, 44, 45, 46, 47, 48, 49, 50, 51, 52, 53, 54, 55, 56, 57, 58] (by decide +kernel) (by decide +kernel)) (goodIn_sub (fun _ h => List.mem_cons_of_mem _ (List.mem_append_right _ h)) (by decide +kernel))
set_option maxRecDepth 20000 in
theorem gL_setRates_X3_setRates : GoodIn wsL_setRates (wsV RL 15 RX3 yX3_setRates wsX3_setRates) := goodIn_app (goodIn_of _ (by decide +kernel)) ggL_setRates_X3_setRates
theorem dL_setRates_0 : decode cL_setRates 0 = .ok (.aload_n 0, 1) := by decide +kernel
theorem dL_setRates_1 : decode cL_setRates 1 = .ok (.iload_n 1, 1) := by decide +kernel
theorem dL_setRates_2 : decode cL_setRates 2 = .ok (.iload_n 2, 1) := by decide +kernel
theorem dL_setRates_3 : decode cL_setRates 3 = .ok (.iload_n 3, 1) := by decide +kernel
theorem dL_setRates_4 : decode cL_setRates 4 = .ok (.iload 4, 2) := by decide +kernel
theorem dL_setRates_6 : decode cL_setRates 6 = .ok (.invokevirtual 15, 3) := by decide +kernel
theorem dL_setRates_9 : decode cL_setRates 9 = .ok (.goto 7, 3) := by decide +kernel
theorem dL_setRates_12 : decode cL_setRates 12 = .ok (.astore 5, 2) := by decide +kernel
theorem dL_setRates_14 : decode cL_setRates 14 = .ok (.iconst 1, 1) := by decide +kernel
theorem dL_setRates_15 : decode cL_setRates 15 = .ok (.ireturn, 1) := by decide +kernel
theorem dL_setRates_16 : decode cL_setRates 16 = .ok (.iconst 0, 1) := by decide +kernel
theorem dL_setRates_17 : decode cL_setRates 17 = .ok (.ireturn, 1) := by decide +kernel
set_option maxRecDepth 20000 in
theorem ggL_tax_X3_tax : GoodIn wsL_tax wsX3_tax := goodIn_ca (goodIn_r _ [6, 7, 8, 9, 10, 5, 11, 12, 13, 14, 15, 16, 17, 18, 19, 20, 21, 22, 23, 24, 25, 26, 27, 28, 29, 30, 31, 32, 33, 34, 35, 36, 37, 38, 39, 40, 41, 42, 43, 44, 45, 46, 47, 48, 49, 50, 51, 52, 53, 54, 55, 56, 57, 58, 59, 60, 61, 62, 63, 64, 65, 66, 67, 68, 69] (by decide +kernel) (by decide +kernel)) (goodIn_sub (fun _ h => List.mem_cons_of_mem _ (List.mem_append_right _ h)) (by decide +kernel))
set_option maxRecDepth 20000 in
theorem gL_tax_X3_tax : GoodIn wsL_tax (wsV RL 19 RX3 yX3_tax wsX3_tax) := goodIn_app (goodIn_of _ (by decide +kernel)) ggL_tax_X3_tax
theorem dL_tax_0 : decode cL_tax 0 = .ok (.aload_n 3, 1) := by decide +kernel
theorem dL_tax_1 : decode cL_tax 1 = .ok (.iconst 0, 1) := by decide +kernel
theorem dL_tax_2 : decode cL_tax 2 = .ok (.aload_n 0, 1) := by decide +kernel
theorem dL_tax_3 : decode cL_tax 3 = .ok (.iload_n 1, 1) := by decide +kernel
theorem dL_tax_4 : decode cL_tax 4 = .ok (.iload_n 2, 1) := by decide +kernel
theorem dL_tax_5 : decode cL_tax 5 = .ok (.invokevirtual 19, 3) := by decide +kernel
theorem dL_tax_8 : decode cL_tax 8 = .ok (.i2l, 1) := by decide +kernel
theorem dL_tax_9 : decode cL_tax 9 = .ok (.lastore, 1) := by decide +kernel
theorem dL_tax_10 : decode cL_tax 10 = .ok (.goto 7, 3) := by decide +kernel
theorem dL_tax_13 : decode cL_tax 13 = .ok (.astore 4, 2) := by decide +kernel
theorem dL_tax_15 : decode cL_tax 15 = .ok (.iconst 1, 1) := by decide +kernel
theorem dL_tax_16 : decode cL_tax 16 = .ok (.ireturn, 1) := by decide +kernel
theorem dL_tax_17 : decode cL_tax 17 = .ok (.iconst 0, 1) := by decide +kernel
theorem dL_tax_18 : decode cL_tax 18 = .ok (.ireturn, 1) := by decide +kernel
set_option maxRecDepth 20000 in
theorem ggL_grossTax_X3_grossTax : GoodIn wsL_grossTax wsX3_grossTax := goodIn_ca (goodIn_r _ [6, 7, 8, 9, 10, 5, 11, 12, 13, 14, 15, 16, 17, 18, 19, 20, 21, 22, 23, 24, 25, 26, 27, 28, 29, 30, 31, 32, 33, 34, 35, 36, 37, 38, 39, 40, 41, 42, 43, 44, 45, 46, 47, 48, 49, 50, 51, 52, 53, 54, 55, 56, 57, 58, 59, 60, 61, 62, 63, 64, 65, 66, 67, 68, 69, 70, 71, 72, 73, 74, 75, 76] (by decide +kernel) (by decide +kernel)) (goodIn_sub (fun _ h => List.mem_cons_of_mem _ (List.mem_append_right _ h)) (by decide +kernel))
set_option maxRecDepth 20000 in
theorem gL_grossTax_X3_grossTax : GoodIn wsL_grossTax (wsV RL 23 RX3 yX3_grossTax wsX3_grossTax) := goodIn_app (goodIn_of _ (by decide +kernel)) ggL_grossTax_X3_grossTax
theorem dL_grossTax_0 : decode cL_grossTax 0 = .ok (.aload_n 3, 1) := by decide +kernel
theorem dL_grossTax_1 : decode cL_grossTax 1 = .ok (.iconst 0, 1) := by decide +kernel
theorem dL_grossTax_2 : decode cL_grossTax 2 = .ok (.aload_n 0, 1) := by decide +kernel
theorem dL_grossTax_3 : decode cL_grossTax 3 = .ok (.iload_n 1, 1) := by decide +kernel
theorem dL_grossTax_4 : decode cL_grossTax 4 = .ok (.iload_n 2, 1) := by decide +kernel
theorem dL_grossTax_5 : decode cL_grossTax 5 = .ok (.invokevirtual 23, 3) := by decide +kernel
theorem dL_grossTax_8 : decode cL_grossTax 8 = .ok (.i2l, 1) := by decide +kernel
theorem dL_grossTax_9 : decode cL_grossTax 9 = .ok (.lastore, 1) := by decide +kernel
theorem dL_grossTax_10 : decode cL_grossTax 10 = .ok (.goto 7, 3) := by decide +kernel
theorem dL_grossTax_13 : decode cL_grossTax 13 = .ok (.astore 4, 2) := by decide +kernel
theorem dL_grossTax_15 : decode cL_grossTax 15 = .ok (.iconst 1, 1) := by decide +kernel
theorem dL_grossTax_16 : decode cL_grossTax 16 = .ok (.ireturn, 1) := by decide +kernel
theorem dL_grossTax_17 : decode cL_grossTax 17 = .ok (.iconst 0, 1) := by decide +kernel
theorem dL_grossTax_18 : decode cL_grossTax 18 = .ok (.ireturn, 1) := by decide +kernel
set_option maxRecDepth 20000 in
theorem ggL_grossTaxByTrying_X3_grossTaxByTrying : GoodIn wsL_grossTaxByTrying wsX3_grossTaxByTrying := goodIn_ca (goodIn_r _ [6, 7, 8, 9, 5, 10, 11, 12, 13, 14, 15, 16, 17, 18, 19, 20, 21, 22, 23, 24, 25, 26, 27, 28, 29, 30, 31, 32, 33, 34, 35, 36, 37, 38, 39, 40, 41, 42, 43, 44, 45, 46, 47, 48, 49, 50, 51, 52, 53, 54, 55, 56, 57, 58, 59, 60, 61, 62, 63, 64, 65, 66, 67, 68, 69, 70, 71, 72, 73, 74, 75] (by decide +kernel) (by decide +kernel)) (goodIn_sub (fun _ h => List.mem_cons_of_mem _ (List.mem_append_right _ h)) (by decide +kernel))
set_option maxRecDepth 20000 in
theorem gL_grossTaxByTrying_X3_grossTaxByTrying : GoodIn wsL_grossTaxByTrying (wsV RL 26 RX3 yX3_grossTaxByTrying wsX3_grossTaxByTrying) := goodIn_app (goodIn_of _ (by decide +kernel)) ggL_grossTaxByTrying_X3_grossTaxByTrying
theorem dL_grossTaxByTrying_0 : decode cL_grossTaxByTrying 0 = .ok (.aload_n 3, 1) := by decide +kernel
theorem dL_grossTaxByTrying_1 : decode cL_grossTaxByTrying 1 = .ok (.iconst 0, 1) := by decide +kernel
theorem dL_grossTaxByTrying_2 : decode cL_grossTaxByTrying 2 = .ok (.aload_n 0, 1) := by decide +kernel
theorem dL_grossTaxByTrying_3 : decode cL_grossTaxByTrying 3 = .ok (.iload_n 1, 1) := by decide +kernel
theorem dL_grossTaxByTrying_4 : decode cL_grossTaxByTrying 4 = .ok (.iload_n 2, 1) := by decide +kernel
theorem dL_grossTaxByTrying_5 : decode cL_grossTaxByTrying 5 = .ok (.invokevirtual 26, 3) := by decide +kernel
theorem dL_grossTaxByTrying_8 : decode cL_grossTaxByTrying 8 = .ok (.i2l, 1) := by decide +kernel
theorem dL_grossTaxByTrying_9 : decode cL_grossTaxByTrying 9 = .ok (.lastore, 1) := by decide +kernel
theorem dL_grossTaxByTrying_10 : decode cL_grossTaxByTrying 10 = .ok (.goto 7, 3) := by decide +kernel
theorem dL_grossTaxByTrying_13 : decode cL_grossTaxByTrying 13 = .ok (.astore 4, 2) := by decide +kernel
theorem dL_grossTaxByTrying_15 : decode cL_grossTaxByTrying 15 = .ok (.iconst 1, 1) := by decide +kernel
theorem dL_grossTaxByTrying_16 : decode cL_grossTaxByTrying 16 = .ok (.ireturn, 1) := by decide +kernel
theorem dL_grossTaxByTrying_17 : decode cL_grossTaxByTrying 17 = .ok (.iconst 0, 1) := by decide +kernel
theorem dL_grossTaxByTrying_18 : decode cL_grossTaxByTrying 18 = .ok (.ireturn, 1) := by decide +kernel
set_option maxRecDepth 20000 in
theorem ggL_add_X3_add : GoodIn wsL_add wsX3_add := goodIn_ca (goodIn_ca (goodIn_r _ [7, 8, 9, 10, 11, 12, 13, 14, 15, 16, 17, 18, 19, 6, 20, 21, 22, 23, 24, 25, 26, 27, 28, 29, 30, 31, 32, 33, 34, 35, 36, 37, 38, 39, 40, 41, 42, 43, 44, 45, 46, 47, 48, 49, 50, 51, 52, 53, 54, 55, 56, 57, 58, 59, 60, 61, 62, 63, 64, 65, 66, 67, 68, 69, 70, 71, 72, 73, 74, 75, 76, 77, 78, 79, 80, 81, 82, 83, 84, 85, 86, 87, 88, 89, 90, 91, 92, 93, 94, 95, 96, 97, 98, 99, 100, 101, 102, 103, 104, 105, 106, 107, 108, 109, 110, 111, 112, 113, 114, 115, 116, 117, 118, 119, 120, 121, 122, 123, 124, 125, 126, 127, 128, 129, 130, 131, 132, 133, 134, 135, 136, 137, 138, 139, 140, 141, 142, 143] (by decide +kernel) (by decide +kernel)) (goodIn_sub (fun _ h => List.mem_cons_of_mem _ (List.mem_append_left _ (List.mem_append_right _ h))) (by decide +kernel))) (goodIn_sub (fun _ h => List.mem_cons_of_mem _ (List.mem_append_right _ h)) (by decide +kernel))
set_option maxRecDepth 20000 in
theorem gL_add_X3_add : GoodIn wsL_add (wsV RL 29 RX3 yX3_add wsX3_add) := goodIn_app (goodIn_of _ (by decide +kernel)) ggL_add_X3_add
theorem dL_add_0 : decode cL_add 0 = .ok (.aload 4, 2) := by decide +kernel
theorem dL_add_2 : decode cL_add 2 = .ok (.iconst 0, 1) := by decide +kernel
theorem dL_add_3 : decode cL_add 3 = .ok (.aload_n 0, 1) := by decide +kernel
theorem dL_add_4 : decode cL_add 4 = .ok (.iload_n 1, 1) := by decide +kernel
theorem dL_add_5 : decode cL_add 5 = .ok (.iload_n 2, 1) := by decide +kernel
theorem dL_add_6 : decode cL_add 6 = .ok (.iload_n 3, 1) := by decide +kernel
theorem dL_add_7 : decode cL_add 7 = .ok (.invokevirtual 29, 3) := by decide +kernel
theorem dL_add_10 : decode cL_add 10 = .ok (.i2l, 1) := by decide +kernel
theorem dL_add_11 : decode cL_add 11 = .ok (.lastore, 1) := by decide +kernel
theorem dL_add_12 : decode cL_add 12 = .ok (.goto 11, 3) := by decide +kernel
theorem dL_add_15 : decode cL_add 15 = .ok (.astore 5, 2) := by decide +kernel
theorem dL_add_17 : decode cL_add 17 = .ok (.iconst 1, 1) := by decide +kernel
theorem dL_add_18 : decode cL_add 18 = .ok (.ireturn, 1) := by decide +kernel
theorem dL_add_19 : decode cL_add 19 = .ok (.astore 5, 2) := by decide +kernel
theorem dL_add_21 : decode cL_add 21 = .ok (.iconst 2, 1) := by decide +kernel
theorem dL_add_22 : decode cL_add 22 = .ok (.ireturn, 1) := by decide +kernel
theorem dL_add_23 : decode cL_add 23 = .ok (.iconst 0, 1) := by decide +kernel
theorem dL_add_24 : decode cL_add 24 = .ok (.ireturn, 1) := by decide +kernel
set_option maxRecDepth 20000 in
theorem ggL_setAbroad_X3_setAbroad : GoodIn wsL_setAbroad wsX3_setAbroad := goodIn_ca (goodIn_ca (goodIn_r _ [7, 8, 9, 10, 6, 11, 12, 13, 14, 15, 16, 17, 18, 19, 20, 21, 22, 23, 24, 25, 26, 27, 28, 29, 30, 31, 32, 33, 34, 35, 36, 37, 38, 39, 40, 41, 42, 43, 44, 45, 46, 47, 48, 49, 50, 51, 52, 53, 54, 55, 56, 57, 58, 59, 60, 61, 62, 63] (by decide +kernel) (by decide +kernel)) (goodIn_sub (fun _ h => List.mem_cons_of_mem _ (List.mem_append_left _ (List.mem_append_right _ h))) (by decide +kernel))) (goodIn_sub (fun _ h => List.mem_cons_of_mem _ (List.mem_append_right _ h)) (by decide +kernel))
set_option maxRecDepth 20000 in
theorem gL_setAbroad_X3_setAbroad : GoodIn wsL_setAbroad (wsV RL 35 RX3 yX3_setAbroad wsX3_setAbroad) := goodIn_app (goodIn_of _ (by decide +kernel)) ggL_setAbroad_X3_setAbroad
theorem dL_setAbroad_0 : decode cL_setAbroad 0 = .ok (.aload 4, 2) := by decide +kernel
theorem dL_setAbroad_2 : decode cL_setAbroad 2 = .ok (.iconst 0, 1) := by decide +kernel
theorem dL_setAbroad_3 : decode cL_setAbroad 3 = .ok (.aload_n 0, 1) := by decide +kernel
theorem dL_setAbroad_4 : decode cL_setAbroad 4 = .ok (.iload_n 1, 1) := by decide +kernel
theorem dL_setAbroad_5 : decode cL_setAbroad 5 = .ok (.iload_n 2, 1) := by decide +kernel
theorem dL_setAbroad_6 : decode cL_setAbroad 6 = .ok (.iload_n 3, 1) := by decide +kernel
theorem dL_setAbroad_7 : decode cL_setAbroad 7 = .ok (.invokevirtual 35, 3) := by decide +kernel
theorem dL_setAbroad_10 : decode cL_setAbroad 10 = .ok (.i2l, 1) := by decide +kernel
theorem dL_setAbroad_11 : decode cL_setAbroad 11 = .ok (.lastore, 1) := by decide +kernel
theorem dL_setAbroad_12 : decode cL_setAbroad 12 = .ok (.goto 11, 3) := by decide +kernel
theorem dL_setAbroad_15 : decode cL_setAbroad 15 = .ok (.astore 5, 2) := by decide +kernel
theorem dL_setAbroad_17 : decode cL_setAbroad 17 = .ok (.iconst 1, 1) := by decide +kernel
theorem dL_setAbroad_18 : decode cL_setAbroad 18 = .ok (.ireturn, 1) := by decide +kernel
theorem dL_setAbroad_19 : decode cL_setAbroad 19 = .ok (.astore 5, 2) := by decide +kernel
theorem dL_setAbroad_21 : decode cL_setAbroad 21 = .ok (.iconst 2, 1) := by decide +kernel
theorem dL_setAbroad_22 : decode cL_setAbroad 22 = .ok (.ireturn, 1) := by decide +kernel
theorem dL_setAbroad_23 : decode cL_setAbroad 23 = .ok (.iconst 0, 1) := by decide +kernel
theorem dL_setAbroad_24 : decode cL_setAbroad 24 = .ok (.ireturn, 1) := by decide +kernel
set_option maxRecDepth 20000 in
theorem ggL_setPay_X3_setPay : GoodIn wsL_setPay wsX3_setPay := goodIn_ca (goodIn_ca (goodIn_r _ [7, 8, 9, 10, 11, 6, 12, 13, 14, 15, 16, 17, 18, 19, 20, 21, 22, 23, 24, 25, 26, 27, 28, 29, 30, 31, 32, 33, 34, 35, 36, 37, 38, 39, 40, 41, 42, 43, 44, 45, 46, 47, 48, 49, 50, 51, 52, 53, 54, 55, 56, 57] (by decide +kernel) (by decide +kernel)) (goodIn_sub (fun _ h => List.mem_cons_of_mem _ (List.mem_append_left _ (List.mem_append_right _ h))) (by decide +kernel))) (goodIn_sub (fun _ h => List.mem_cons_of_mem _ (List.mem_append_right _ h)) (by decide +kernel))
set_option maxRecDepth 20000 in
theorem gL_setPay_X3_setPay : GoodIn wsL_setPay (wsV RL 40 RX3 yX3_setPay wsX3_setPay) := goodIn_app (goodIn_of _ (by decide +kernel)) ggL_setPay_X3_setPay
theorem dL_setPay_0 : decode cL_setPay 0 = .ok (.aload_n 3, 1) := by decide +kernel
theorem dL_setPay_1 : decode cL_setPay 1 = .ok (.iconst 0, 1) := by decide +kernel
theorem dL_setPay_2 : decode cL_setPay 2 = .ok (.aload_n 0, 1) := by decide +kernel
theorem dL_setPay_3 : decode cL_setPay 3 = .ok (.iload_n 1, 1) := by decide +kernel
theorem dL_setPay_4 : decode cL_setPay 4 = .ok (.iload_n 2, 1) := by decide +kernel
theorem dL_setPay_5 : decode cL_setPay 5 = .ok (.invokevirtual 40, 3) := by decide +kernel
theorem dL_setPay_8 : decode cL_setPay 8 = .ok (.i2l, 1) := by decide +kernel
theorem dL_setPay_9 : decode cL_setPay 9 = .ok (.lastore, 1) := by decide +kernel
theorem dL_setPay_10 : decode cL_setPay 10 = .ok (.goto 11, 3) := by decide +kernel
theorem dL_setPay_13 : decode cL_setPay 13 = .ok (.astore 4, 2) := by decide +kernel
theorem dL_setPay_15 : decode cL_setPay 15 = .ok (.iconst 1, 1) := by decide +kernel
theorem dL_setPay_16 : decode cL_setPay 16 = .ok (.ireturn, 1) := by decide +kernel
theorem dL_setPay_17 : decode cL_setPay 17 = .ok (.astore 4, 2) := by decide +kernel
theorem dL_setPay_19 : decode cL_setPay 19 = .ok (.iconst 2, 1) := by decide +kernel
theorem dL_setPay_20 : decode cL_setPay 20 = .ok (.ireturn, 1) := by decide +kernel
theorem dL_setPay_21 : decode cL_setPay 21 = .ok (.iconst 0, 1) := by decide +kernel
theorem dL_setPay_22 : decode cL_setPay 22 = .ok (.ireturn, 1) := by decide +kernel
set_option maxRecDepth 20000 in
theorem ggL_setHousing_X3_setHousing : GoodIn wsL_setHousing wsX3_setHousing := goodIn_ca (goodIn_ca (goodIn_r _ [7, 8, 9, 10, 11, 6, 12, 13, 14, 15, 16, 17, 18, 19, 20, 21, 22, 23, 24, 25, 26, 27, 28, 29, 30, 31, 32, 33, 34, 35, 36, 37, 38, 39, 40, 41, 42, 43, 44, 45, 46, 47, 48, 49, 50, 51, 52, 53, 54, 55, 56, 57, 58, 59, 60, 61, 62, 63, 64, 65, 66, 67, 68, 69] (by decide +kernel) (by decide +kernel)) (goodIn_sub (fun _ h => List.mem_cons_of_mem _ (List.mem_append_left _ (List.mem_append_right _ h))) (by decide +kernel))) (goodIn_sub (fun _ h => List.mem_cons_of_mem _ (List.mem_append_right _ h)) (by decide +kernel))
set_option maxRecDepth 20000 in
theorem gL_setHousing_X3_setHousing : GoodIn wsL_setHousing (wsV RL 43 RX3 yX3_setHousing wsX3_setHousing) := goodIn_app (goodIn_of _ (by decide +kernel)) ggL_setHousing_X3_setHousing
theorem dL_setHousing_0 : decode cL_setHousing 0 = .ok (.aload 4, 2) := by decide +kernel
theorem dL_setHousing_2 : decode cL_setHousing 2 = .ok (.iconst 0, 1) := by decide +kernel
theorem dL_setHousing_3 : decode cL_setHousing 3 = .ok (.aload_n 0, 1) := by decide +kernel
theorem dL_setHousing_4 : decode cL_setHousing 4 = .ok (.iload_n 1, 1) := by decide +kernel
theorem dL_setHousing_5 : decode cL_setHousing 5 = .ok (.iload_n 2, 1) := by decide +kernel
theorem dL_setHousing_6 : decode cL_setHousing 6 = .ok (.iload_n 3, 1) := by decide +kernel
theorem dL_setHousing_7 : decode cL_setHousing 7 = .ok (.invokevirtual 43, 3) := by decide +kernel
theorem dL_setHousing_10 : decode cL_setHousing 10 = .ok (.i2l, 1) := by decide +kernel
theorem dL_setHousing_11 : decode cL_setHousing 11 = .ok (.lastore, 1) := by decide +kernel
theorem dL_setHousing_12 : decode cL_setHousing 12 = .ok (.goto 11, 3) := by decide +kernel
theorem dL_setHousing_15 : decode cL_setHousing 15 = .ok (.astore 5, 2) := by decide +kernel
theorem dL_setHousing_17 : decode cL_setHousing 17 = .ok (.iconst 1, 1) := by decide +kernel
theorem dL_setHousing_18 : decode cL_setHousing 18 = .ok (.ireturn, 1) := by decide +kernel
theorem dL_setHousing_19 : decode cL_setHousing 19 = .ok (.astore 5, 2) := by decide +kernel
theorem dL_setHousing_21 : decode cL_setHousing 21 = .ok (.iconst 2, 1) := by decide +kernel
theorem dL_setHousing_22 : decode cL_setHousing 22 = .ok (.ireturn, 1) := by decide +kernel
theorem dL_setHousing_23 : decode cL_setHousing 23 = .ok (.iconst 0, 1) := by decide +kernel
theorem dL_setHousing_24 : decode cL_setHousing 24 = .ok (.ireturn, 1) := by decide +kernel
set_option maxRecDepth 20000 in
theorem ggL_addBonus_X3_addBonus : GoodIn wsL_addBonus wsX3_addBonus := goodIn_ca (goodIn_ca (goodIn_ca (goodIn_r _ [8, 9, 10, 11, 12, 13, 14, 15, 16, 17, 7, 18, 19, 20, 21, 22, 23, 24, 25, 26, 27, 28, 29, 30, 31, 32, 33, 34, 35, 36, 37, 38, 39, 40, 41, 42, 43, 44, 45, 46, 47, 48, 49, 50, 51, 52, 53, 54, 55, 56, 57, 58, 59, 60, 61, 62, 63, 64, 65, 66, 67, 68, 69, 70, 71, 72, 73, 74, 75, 76, 77, 78, 79, 80, 81, 82, 83, 84, 85, 86, 87, 88, 89, 90, 91, 92, 93, 94, 95, 96, 97, 98, 99, 100, 101, 102, 103, 104, 105, 106, 107, 108, 109, 110, 111, 112, 113, 114, 115, 116, 117, 118, 119, 120, 121, 122, 123, 124, 125, 126, 127, 128] (by decide +kernel) (by decide +kernel)) (goodIn_sub (fun _ h => List.mem_cons_of_mem _ (List.mem_append_left _ (List.mem_append_left _ (List.mem_append_right _ h)))) (by decide +kernel))) (goodIn_sub (fun _ h => List.mem_cons_of_mem _ (List.mem_append_left _ (List.mem_append_right _ h))) (by decide +kernel))) (goodIn_sub (fun _ h => List.mem_cons_of_mem _ (List.mem_append_right _ h)) (by decide +kernel))
set_option maxRecDepth 20000 in
theorem gL_addBonus_X3_addBonus : GoodIn wsL_addBonus (wsV RL 46 RX3 yX3_addBonus wsX3_addBonus) := goodIn_app (goodIn_of _ (by decide +kernel)) ggL_addBonus_X3_addBonus
theorem dL_addBonus_0 : decode cL_addBonus 0 = .ok (.aload 5, 2) := by decide +kernel
theorem dL_addBonus_2 : decode cL_addBonus 2 = .ok (.iconst 0, 1) := by decide +kernel
theorem dL_addBonus_3 : decode cL_addBonus 3 = .ok (.aload_n 0, 1) := by decide +kernel
theorem dL_addBonus_4 : decode cL_addBonus 4 = .ok (.iload_n 1, 1) := by decide +kernel
theorem dL_addBonus_5 : decode cL_addBonus 5 = .ok (.iload_n 2, 1) := by decide +kernel
theorem dL_addBonus_6 : decode cL_addBonus 6 = .ok (.iload_n 3, 1) := by decide +kernel
theorem dL_addBonus_7 : decode cL_addBonus 7 = .ok (.iload 4, 2) := by decide +kernel
theorem dL_addBonus_9 : decode cL_addBonus 9 = .ok (.invokevirtual 46, 3) := by decide +kernel
theorem dL_addBonus_12 : decode cL_addBonus 12 = .ok (.i2l, 1) := by decide +kernel
theorem dL_addBonus_13 : decode cL_addBonus 13 = .ok (.lastore, 1) := by decide +kernel
theorem dL_addBonus_14 : decode cL_addBonus 14 = .ok (.goto 15, 3) := by decide +kernel
theorem dL_addBonus_17 : decode cL_addBonus 17 = .ok (.astore 6, 2) := by decide +kernel
theorem dL_addBonus_19 : decode cL_addBonus 19 = .ok (.iconst 1, 1) := by decide +kernel
theorem dL_addBonus_20 : decode cL_addBonus 20 = .ok (.ireturn, 1) := by decide +kernel
theorem dL_addBonus_21 : decode cL_addBonus 21 = .ok (.astore 6, 2) := by decide +kernel
theorem dL_addBonus_23 : decode cL_addBonus 23 = .ok (.iconst 2, 1) := by decide +kernel
theorem dL_addBonus_24 : decode cL_addBonus 24 = .ok (.ireturn, 1) := by decide +kernel
theorem dL_addBonus_25 : decode cL_addBonus 25 = .ok (.astore 6, 2) := by decide +kernel
theorem dL_addBonus_27 : decode cL_addBonus 27 = .ok (.iconst 3, 1) := by decide +kernel
theorem dL_addBonus_28 : decode cL_addBonus 28 = .ok (.ireturn, 1) := by decide +kernel
theorem dL_addBonus_29 : decode cL_addBonus 29 = .ok (.iconst 0, 1) := by decide +kernel
theorem dL_addBonus_30 : decode cL_addBonus 30 = .ok (.ireturn, 1) := by decide +kernel
set_option maxRecDepth 20000 in
theorem ggL_abroadPart_X3_abroadPart : GoodIn wsL_abroadPart wsX3_abroadPart := goodIn_ca (goodIn_r _ [6, 7, 8, 9, 10, 11, 12, 5, 13, 14, 15, 16, 17, 18, 19, 20, 21, 22, 23, 24, 25, 26, 27, 28, 29, 30, 31, 32, 33, 34, 35, 36, 37, 38, 39, 40, 41, 42, 43, 44, 45, 46, 47, 48, 49, 50, 51, 52, 53, 54, 55, 56, 57, 58, 59, 60, 61, 62, 63, 64, 65, 66, 67, 68] (by decide +kernel) (by decide +kernel)) (goodIn_sub (fun _ h => List.mem_cons_of_mem _ (List.mem_append_right _ h)) (by decide +kernel))
set_option maxRecDepth 20000 in
theorem gL_abroadPart_X3_abroadPart : GoodIn wsL_abroadPart (wsV RL 50 RX3 yX3_abroadPart wsX3_abroadPart) := goodIn_app (goodIn_of _ (by decide +kernel)) ggL_abroadPart_X3_abroadPart
theorem dL_abroadPart_0 : decode cL_abroadPart 0 = .ok (.aload_n 3, 1) := by decide +kernel
theorem dL_abroadPart_1 : decode cL_abroadPart 1 = .ok (.iconst 0, 1) := by decide +kernel
theorem dL_abroadPart_2 : decode cL_abroadPart 2 = .ok (.aload_n 0, 1) := by decide +kernel
theorem dL_abroadPart_3 : decode cL_abroadPart 3 = .ok (.iload_n 1, 1) := by decide +kernel
theorem dL_abroadPart_4 : decode cL_abroadPart 4 = .ok (.iload_n 2, 1) := by decide +kernel
theorem dL_abroadPart_5 : decode cL_abroadPart 5 = .ok (.invokevirtual 50, 3) := by decide +kernel
theorem dL_abroadPart_8 : decode cL_abroadPart 8 = .ok (.i2l, 1) := by decide +kernel
theorem dL_abroadPart_9 : decode cL_abroadPart 9 = .ok (.lastore, 1) := by decide +kernel
theorem dL_abroadPart_10 : decode cL_abroadPart 10 = .ok (.goto 7, 3) := by decide +kernel
theorem dL_abroadPart_13 : decode cL_abroadPart 13 = .ok (.astore 4, 2) := by decide +kernel
theorem dL_abroadPart_15 : decode cL_abroadPart 15 = .ok (.iconst 1, 1) := by decide +kernel
theorem dL_abroadPart_16 : decode cL_abroadPart 16 = .ok (.ireturn, 1) := by decide +kernel
theorem dL_abroadPart_17 : decode cL_abroadPart 17 = .ok (.iconst 0, 1) := by decide +kernel
theorem dL_abroadPart_18 : decode cL_abroadPart 18 = .ok (.ireturn, 1) := by decide +kernel
set_option maxRecDepth 20000 in
theorem ggL_held_X3_held : GoodIn wsL_held wsX3_held := goodIn_ca (goodIn_ca (goodIn_r _ [7, 8, 9, 10, 6, 11, 12, 13, 14, 15, 16, 17, 18, 19, 20, 21, 22, 23, 24, 25, 26, 27, 28, 29, 30, 31, 32, 33, 34, 35, 36, 37, 38, 39, 40, 41, 42, 43, 44, 45, 46, 47, 48, 49, 50, 51, 52, 53, 54, 55, 56, 57, 58, 59, 60, 61, 62, 63, 64, 65, 66, 67, 68, 69, 70, 71, 72, 73, 74, 75, 76, 77, 78, 79, 80, 81, 82, 83, 84, 85, 86, 87, 88, 89, 90, 91, 92] (by decide +kernel) (by decide +kernel)) (goodIn_sub (fun _ h => List.mem_cons_of_mem _ (List.mem_append_left _ (List.mem_append_right _ h))) (by decide +kernel))) (goodIn_sub (fun _ h => List.mem_cons_of_mem _ (List.mem_append_right _ h)) (by decide +kernel))
set_option maxRecDepth 20000 in
theorem gL_held_X3_held : GoodIn wsL_held (wsV RL 53 RX3 yX3_held wsX3_held) := goodIn_app (goodIn_of _ (by decide +kernel)) ggL_held_X3_held
theorem dL_held_0 : decode cL_held 0 = .ok (.aload_n 3, 1) := by decide +kernel
theorem dL_held_1 : decode cL_held 1 = .ok (.iconst 0, 1) := by decide +kernel
theorem dL_held_2 : decode cL_held 2 = .ok (.aload_n 0, 1) := by decide +kernel
theorem dL_held_3 : decode cL_held 3 = .ok (.iload_n 1, 1) := by decide +kernel
theorem dL_held_4 : decode cL_held 4 = .ok (.iload_n 2, 1) := by decide +kernel
theorem dL_held_5 : decode cL_held 5 = .ok (.invokevirtual 53, 3) := by decide +kernel
theorem dL_held_8 : decode cL_held 8 = .ok (.i2l, 1) := by decide +kernel
theorem dL_held_9 : decode cL_held 9 = .ok (.lastore, 1) := by decide +kernel
theorem dL_held_10 : decode cL_held 10 = .ok (.goto 11, 3) := by decide +kernel
theorem dL_held_13 : decode cL_held 13 = .ok (.astore 4, 2) := by decide +kernel
theorem dL_held_15 : decode cL_held 15 = .ok (.iconst 1, 1) := by decide +kernel
theorem dL_held_16 : decode cL_held 16 = .ok (.ireturn, 1) := by decide +kernel
theorem dL_held_17 : decode cL_held 17 = .ok (.astore 4, 2) := by decide +kernel
theorem dL_held_19 : decode cL_held 19 = .ok (.iconst 2, 1) := by decide +kernel
theorem dL_held_20 : decode cL_held 20 = .ok (.ireturn, 1) := by decide +kernel
theorem dL_held_21 : decode cL_held 21 = .ok (.iconst 0, 1) := by decide +kernel
theorem dL_held_22 : decode cL_held 22 = .ok (.ireturn, 1) := by decide +kernel
set_option maxRecDepth 20000 in
theorem ggL_supposedTax_X3_supposedTax : GoodIn wsL_supposedTax wsX3_supposedTax := goodIn_ca (goodIn_r _ [6, 7, 8, 9, 5, 10, 11, 12, 13, 14, 15, 16, 17, 18, 19, 20, 21, 22, 23, 24, 25, 26, 27, 28, 29, 30, 31, 32, 33, 34, 35, 36, 37, 38, 39, 40, 41, 42, 43, 44, 45, 46, 47, 48, 49, 50, 51, 52, 53, 54, 55, 56, 57, 58, 59, 60, 61, 62, 63, 64, 65, 66, 67, 68, 69, 70, 71, 72, 73, 74, 75, 76, 77, 78, 79, 80, 81, 82, 83, 84, 85, 86, 87, 88, 89, 90, 91] (by decide +kernel) (by decide +kernel)) (goodIn_sub (fun _ h => List.mem_cons_of_mem _ (List.mem_append_right _ h)) (by decide +kernel))
set_option maxRecDepth 20000 in
theorem gL_supposedTax_X3_supposedTax : GoodIn wsL_supposedTax (wsV RL 56 RX3 yX3_supposedTax wsX3_supposedTax) := goodIn_app (goodIn_of _ (by decide +kernel)) ggL_supposedTax_X3_supposedTax
theorem dL_supposedTax_0 : decode cL_supposedTax 0 = .ok (.aload_n 2, 1) := by decide +kernel
theorem dL_supposedTax_1 : decode cL_supposedTax 1 = .ok (.iconst 0, 1) := by decide +kernel
theorem dL_supposedTax_2 : decode cL_supposedTax 2 = .ok (.aload_n 0, 1) := by decide +kernel
theorem dL_supposedTax_3 : decode cL_supposedTax 3 = .ok (.iload_n 1, 1) := by decide +kernel
theorem dL_supposedTax_4 : decode cL_supposedTax 4 = .ok (.invokevirtual 56, 3) := by decide +kernel
theorem dL_supposedTax_7 : decode cL_supposedTax 7 = .ok (.i2l, 1) := by decide +kernel
theorem dL_supposedTax_8 : decode cL_supposedTax 8 = .ok (.lastore, 1) := by decide +kernel
theorem dL_supposedTax_9 : decode cL_supposedTax 9 = .ok (.goto 6, 3) := by decide +kernel
theorem dL_supposedTax_12 : decode cL_supposedTax 12 = .ok (.astore_n 3, 1) := by decide +kernel
theorem dL_supposedTax_13 : decode cL_supposedTax 13 = .ok (.iconst 1, 1) := by decide +kernel
theorem dL_supposedTax_14 : decode cL_supposedTax 14 = .ok (.ireturn, 1) := by decide +kernel
theorem dL_supposedTax_15 : decode cL_supposedTax 15 = .ok (.iconst 0, 1) := by decide +kernel
theorem dL_supposedTax_16 : decode cL_supposedTax 16 = .ok (.ireturn, 1) := by decide +kernel
set_option maxRecDepth 20000 in
theorem ggL_homeIncome_X3_homeIncome : GoodIn wsL_homeIncome wsX3_homeIncome := goodIn_ca (goodIn_r _ [6, 7, 8, 9, 5, 10, 11, 12, 13, 14, 15, 16, 17, 18, 19, 20, 21, 22, 23, 24, 25, 26, 27, 28, 29, 30, 31, 32, 33, 34, 35, 36, 37, 38, 39, 40, 41, 42, 43, 44, 45, 46, 47, 48, 49, 50, 51, 52, 53, 54, 55, 56, 57, 58, 59, 60, 61, 62, 63, 64, 65, 66, 67, 68, 69, 70, 71, 72, 73, 74, 75, 76, 77, 78, 79, 80] (by decide +kernel) (by decide +kernel)) (goodIn_sub (fun _ h => List.mem_cons_of_mem _ (List.mem_append_right _ h)) (by decide +kernel))
set_option maxRecDepth 20000 in
theorem gL_homeIncome_X3_homeIncome : GoodIn wsL_homeIncome (wsV RL 60 RX3 yX3_homeIncome wsX3_homeIncome) := goodIn_app (goodIn_of _ (by decide +kernel)) ggL_homeIncome_X3_homeIncome
theorem dL_homeIncome_0 : decode cL_homeIncome 0 = .ok (.aload_n 2, 1) := by decide +kernel
theorem dL_homeIncome_1 : decode cL_homeIncome 1 = .ok (.iconst 0, 1) := by decide +kernel
theorem dL_homeIncome_2 : decode cL_homeIncome 2 = .ok (.aload_n 0, 1) := by decide +kernel
theorem dL_homeIncome_3 : decode cL_homeIncome 3 = .ok (.iload_n 1, 1) := by decide +kernel
theorem dL_homeIncome_4 : decode cL_homeIncome 4 = .ok (.invokevirtual 60, 3) := by decide +kernel
theorem dL_homeIncome_7 : decode cL_homeIncome 7 = .ok (.i2l, 1) := by decide +kernel
theorem dL_homeIncome_8 : decode cL_homeIncome 8 = .ok (.lastore, 1) := by decide +kernel
theorem dL_homeIncome_9 : decode cL_homeIncome 9 = .ok (.goto 6, 3) := by decide +kernel
theorem dL_homeIncome_12 : decode cL_homeIncome 12 = .ok (.astore_n 3, 1) := by decide +kernel
theorem dL_homeIncome_13 : decode cL_homeIncome 13 = .ok (.iconst 1, 1) := by decide +kernel
theorem dL_homeIncome_14 : decode cL_homeIncome 14 = .ok (.ireturn, 1) := by decide +kernel
theorem dL_homeIncome_15 : decode cL_homeIncome 15 = .ok (.iconst 0, 1) := by decide +kernel
theorem dL_homeIncome_16 : decode cL_homeIncome 16 = .ok (.ireturn, 1) := by decide +kernel
set_option maxRecDepth 20000 in
theorem ggL_homeTax_X3_homeTax : GoodIn wsL_homeTax wsX3_homeTax := goodIn_ca (goodIn_r _ [6, 7, 8, 9, 5, 10, 11, 12, 13, 14, 15, 16, 17, 18, 19, 20, 21, 22, 23, 24, 25, 26, 27, 28, 29, 30, 31, 32, 33, 34, 35, 36, 37, 38, 39, 40, 41, 42, 43, 44, 45, 46, 47, 48, 49, 50, 51, 52, 53, 54, 55, 56, 57, 58, 59, 60, 61, 62, 63, 64, 65, 66, 67, 68, 69, 70, 71, 72, 73, 74, 75, 76, 77, 78, 79, 80, 81, 82, 83, 84, 85, 86, 87, 88, 89, 90, 91, 92, 93, 94, 95, 96, 97, 98, 99, 100, 101, 102, 103, 104, 105, 106, 107] (by decide +kernel) (by decide +kernel)) (goodIn_sub (fun _ h => List.mem_cons_of_mem _ (List.mem_append_right _ h)) (by decide +kernel))
set_option maxRecDepth 20000 in
theorem gL_homeTax_X3_homeTax : GoodIn wsL_homeTax (wsV RL 63 RX3 yX3_homeTax wsX3_homeTax) := goodIn_app (goodIn_of _ (by decide +kernel)) ggL_homeTax_X3_homeTax
theorem dL_homeTax_0 : decode cL_homeTax 0 = .ok (.aload_n 2, 1) := by decide +kernel
theorem dL_homeTax_1 : decode cL_homeTax 1 = .ok (.iconst 0, 1) := by decide +kernel
theorem dL_homeTax_2 : decode cL_homeTax 2 = .ok (.aload_n 0, 1) := by decide +kernel
theorem dL_homeTax_3 : decode cL_homeTax 3 = .ok (.iload_n 1, 1) := by decide +kernel
theorem dL_homeTax_4 : decode cL_homeTax 4 = .ok (.invokevirtual 63, 3) := by decide +kernel
theorem dL_homeTax_7 : decode cL_homeTax 7 = .ok (.i2l, 1) := by decide +kernel
theorem dL_homeTax_8 : decode cL_homeTax 8 = .ok (.lastore, 1) := by decide +kernel
theorem dL_homeTax_9 : decode cL_homeTax 9 = .ok (.goto 6, 3) := by decide +kernel
theorem dL_homeTax_12 : decode cL_homeTax 12 = .ok (.astore_n 3, 1) := by decide +kernel
theorem dL_homeTax_13 : decode cL_homeTax 13 = .ok (.iconst 1, 1) := by decide +kernel
theorem dL_homeTax_14 : decode cL_homeTax 14 = .ok (.ireturn, 1) := by decide +kernel
theorem dL_homeTax_15 : decode cL_homeTax 15 = .ok (.iconst 0, 1) := by decide +kernel
theorem dL_homeTax_16 : decode cL_homeTax 16 = .ok (.ireturn, 1) := by decide +kernel
set_option maxRecDepth 20000 in
theorem ggL_hostIncome_X3_hostIncome : GoodIn wsL_hostIncome wsX3_hostIncome := goodIn_ca (goodIn_r _ [6, 7, 8, 9, 5, 10, 11, 12, 13, 14, 15, 16, 17, 18, 19, 20, 21, 22, 23, 24, 25, 26, 27, 28, 29, 30, 31, 32, 33, 34, 35, 36, 37, 38, 39, 40, 41, 42, 43, 44, 45, 46, 47, 48, 49, 50, 51, 52, 53, 54, 55, 56, 57, 58, 59, 60, 61, 62, 63, 64, 65, 66, 67, 68, 69, 70, 71, 72, 73, 74, 75, 76, 77, 78, 79, 80, 81, 82, 83, 84, 85, 86, 87, 88, 89, 90] (by decide +kernel) (by decide +kernel)) (goodIn_sub (fun _ h => List.mem_cons_of_mem _ (List.mem_append_right _ h)) (by decide +kernel))
set_option maxRecDepth 20000 in
theorem gL_hostIncome_X3_hostIncome : GoodIn wsL_hostIncome (wsV RL 66 RX3 yX3_hostIncome wsX3_hostIncome) := goodIn_app (goodIn_of _ (by decide +kernel)) ggL_hostIncome_X3_hostIncome
theorem dL_hostIncome_0 : decode cL_hostIncome 0 = .ok (.aload_n 2, 1) := by decide +kernel
theorem dL_hostIncome_1 : decode cL_hostIncome 1 = .ok (.iconst 0, 1) := by decide +kernel
theorem dL_hostIncome_2 : decode cL_hostIncome 2 = .ok (.aload_n 0, 1) := by decide +kernel
theorem dL_hostIncome_3 : decode cL_hostIncome 3 = .ok (.iload_n 1, 1) := by decide +kernel
theorem dL_hostIncome_4 : decode cL_hostIncome 4 = .ok (.invokevirtual 66, 3) := by decide +kernel
theorem dL_hostIncome_7 : decode cL_hostIncome 7 = .ok (.i2l, 1) := by decide +kernel
theorem dL_hostIncome_8 : decode cL_hostIncome 8 = .ok (.lastore, 1) := by decide +kernel
theorem dL_hostIncome_9 : decode cL_hostIncome 9 = .ok (.goto 6, 3) := by decide +kernel
theorem dL_hostIncome_12 : decode cL_hostIncome 12 = .ok (.astore_n 3, 1) := by decide +kernel
theorem dL_hostIncome_13 : decode cL_hostIncome 13 = .ok (.iconst 1, 1) := by decide +kernel
theorem dL_hostIncome_14 : decode cL_hostIncome 14 = .ok (.ireturn, 1) := by decide +kernel
theorem dL_hostIncome_15 : decode cL_hostIncome 15 = .ok (.iconst 0, 1) := by decide +kernel
theorem dL_hostIncome_16 : decode cL_hostIncome 16 = .ok (.ireturn, 1) := by decide +kernel
set_option maxRecDepth 20000 in
theorem ggL_hostTax_X3_hostTax : GoodIn wsL_hostTax wsX3_hostTax := goodIn_ca (goodIn_r _ [6, 7, 8, 9, 5, 10, 11, 12, 13, 14, 15, 16, 17, 18, 19, 20, 21, 22, 23, 24, 25, 26, 27, 28, 29, 30, 31, 32, 33, 34, 35, 36, 37, 38, 39, 40, 41, 42, 43, 44, 45, 46, 47, 48, 49, 50, 51, 52, 53, 54, 55, 56, 57, 58, 59, 60, 61, 62, 63, 64, 65, 66, 67, 68, 69, 70, 71, 72, 73, 74, 75, 76, 77, 78, 79, 80, 81, 82, 83, 84, 85, 86, 87, 88, 89, 90, 91, 92, 93, 94, 95, 96, 97, 98, 99, 100, 101, 102, 103, 104, 105, 106, 107, 108, 109, 110, 111, 112, 113, 114, 115, 116, 117, 118, 119, 120] (by decide +kernel) (by decide +kernel)) (goodIn_sub (fun _ h => List.mem_cons_of_mem _ (List.mem_append_right _ h)) (by decide +kernel))
set_option maxRecDepth 20000 in
theorem gL_hostTax_X3_hostTax : GoodIn wsL_hostTax (wsV RL 69 RX3 yX3_hostTax wsX3_hostTax) := goodIn_app (goodIn_of _ (by decide +kernel)) ggL_hostTax_X3_hostTax
theorem dL_hostTax_0 : decode cL_hostTax 0 = .ok (.aload_n 2, 1) := by decide +kernel
theorem dL_hostTax_1 : decode cL_hostTax 1 = .ok (.iconst 0, 1) := by decide +kernel
theorem dL_hostTax_2 : decode cL_hostTax 2 = .ok (.aload_n 0, 1) := by decide +kernel
theorem dL_hostTax_3 : decode cL_hostTax 3 = .ok (.iload_n 1, 1) := by decide +kernel
theorem dL_hostTax_4 : decode cL_hostTax 4 = .ok (.invokevirtual 69, 3) := by decide +kernel
theorem dL_hostTax_7 : decode cL_hostTax 7 = .ok (.i2l, 1) := by decide +kernel
theorem dL_hostTax_8 : decode cL_hostTax 8 = .ok (.lastore, 1) := by decide +kernel
theorem dL_hostTax_9 : decode cL_hostTax 9 = .ok (.goto 6, 3) := by decide +kernel
theorem dL_hostTax_12 : decode cL_hostTax 12 = .ok (.astore_n 3, 1) := by decide +kernel
theorem dL_hostTax_13 : decode cL_hostTax 13 = .ok (.iconst 1, 1) := by decide +kernel
theorem dL_hostTax_14 : decode cL_hostTax 14 = .ok (.ireturn, 1) := by decide +kernel
theorem dL_hostTax_15 : decode cL_hostTax 15 = .ok (.iconst 0, 1) := by decide +kernel
theorem dL_hostTax_16 : decode cL_hostTax 16 = .ok (.ireturn, 1) := by decide +kernel
set_option maxRecDepth 20000 in
theorem ggL_borne_X3_borne : GoodIn wsL_borne wsX3_borne := goodIn_ca (goodIn_r _ [6, 7, 8, 9, 5, 10, 11, 12, 13, 14, 15, 16, 17, 18, 19, 20, 21, 22, 23, 24, 25, 26, 27, 28, 29, 30, 31, 32, 33, 34, 35, 36, 37, 38, 39, 40, 41, 42, 43, 44, 45, 46, 47, 48, 49, 50, 51, 52, 53, 54, 55, 56, 57, 58, 59, 60, 61, 62, 63, 64, 65, 66, 67, 68, 69, 70, 71, 72, 73, 74, 75, 76, 77, 78, 79, 80, 81, 82, 83, 84, 85, 86, 87, 88, 89, 90, 91, 92, 93, 94, 95, 96, 97, 98, 99, 100, 101, 102, 103, 104, 105, 106, 107, 108, 109, 110, 111, 112, 113, 114, 115, 116, 117, 118, 119] (by decide +kernel) (by decide +kernel)) (goodIn_sub (fun _ h => List.mem_cons_of_mem _ (List.mem_append_right _ h)) (by decide +kernel))
set_option maxRecDepth 20000 in
theorem gL_borne_X3_borne : GoodIn wsL_borne (wsV RL 72 RX3 yX3_borne wsX3_borne) := goodIn_app (goodIn_of _ (by decide +kernel)) ggL_borne_X3_borne
theorem dL_borne_0 : decode cL_borne 0 = .ok (.aload_n 2, 1) := by decide +kernel
theorem dL_borne_1 : decode cL_borne 1 = .ok (.iconst 0, 1) := by decide +kernel
theorem dL_borne_2 : decode cL_borne 2 = .ok (.aload_n 0, 1) := by decide +kernel
theorem dL_borne_3 : decode cL_borne 3 = .ok (.iload_n 1, 1) := by decide +kernel
theorem dL_borne_4 : decode cL_borne 4 = .ok (.invokevirtual 72, 3) := by decide +kernel
theorem dL_borne_7 : decode cL_borne 7 = .ok (.i2l, 1) := by decide +kernel
theorem dL_borne_8 : decode cL_borne 8 = .ok (.lastore, 1) := by decide +kernel
theorem dL_borne_9 : decode cL_borne 9 = .ok (.goto 6, 3) := by decide +kernel
theorem dL_borne_12 : decode cL_borne 12 = .ok (.astore_n 3, 1) := by decide +kernel
theorem dL_borne_13 : decode cL_borne 13 = .ok (.iconst 1, 1) := by decide +kernel
theorem dL_borne_14 : decode cL_borne 14 = .ok (.ireturn, 1) := by decide +kernel
theorem dL_borne_15 : decode cL_borne 15 = .ok (.iconst 0, 1) := by decide +kernel
theorem dL_borne_16 : decode cL_borne 16 = .ok (.ireturn, 1) := by decide +kernel
set_option maxRecDepth 20000 in
theorem ggL_settlement_X3_settlement : GoodIn wsL_settlement wsX3_settlement := goodIn_ca (goodIn_r _ [6, 7, 8, 9, 5, 10, 11, 12, 13, 14, 15, 16, 17, 18, 19, 20, 21, 22, 23, 24, 25, 26, 27, 28, 29, 30, 31, 32, 33, 34, 35, 36, 37, 38, 39, 40, 41, 42, 43, 44, 45, 46, 47, 48, 49, 50, 51, 52, 53, 54, 55, 56, 57, 58, 59, 60, 61, 62, 63, 64, 65, 66, 67, 68, 69, 70, 71, 72, 73, 74, 75, 76, 77, 78, 79, 80, 81, 82, 83, 84, 85, 86, 87, 88, 89, 90, 91, 92, 93, 94, 95, 96, 97, 98, 99, 100, 101, 102, 103, 104, 105, 106, 107, 108, 109, 110, 111, 112, 113, 114, 115, 116, 117, 118, 119, 120, 121, 122, 123, 124, 125, 126, 127] (by decide +kernel) (by decide +kernel)) (goodIn_sub (fun _ h => List.mem_cons_of_mem _ (List.mem_append_right _ h)) (by decide +kernel))
set_option maxRecDepth 20000 in
theorem gL_settlement_X3_settlement : GoodIn wsL_settlement (wsV RL 75 RX3 yX3_settlement wsX3_settlement) := goodIn_app (goodIn_of _ (by decide +kernel)) ggL_settlement_X3_settlement
theorem dL_settlement_0 : decode cL_settlement 0 = .ok (.aload_n 2, 1) := by decide +kernel
theorem dL_settlement_1 : decode cL_settlement 1 = .ok (.iconst 0, 1) := by decide +kernel
theorem dL_settlement_2 : decode cL_settlement 2 = .ok (.aload_n 0, 1) := by decide +kernel
theorem dL_settlement_3 : decode cL_settlement 3 = .ok (.iload_n 1, 1) := by decide +kernel
theorem dL_settlement_4 : decode cL_settlement 4 = .ok (.invokevirtual 75, 3) := by decide +kernel
theorem dL_settlement_7 : decode cL_settlement 7 = .ok (.i2l, 1) := by decide +kernel
theorem dL_settlement_8 : decode cL_settlement 8 = .ok (.lastore, 1) := by decide +kernel
theorem dL_settlement_9 : decode cL_settlement 9 = .ok (.goto 6, 3) := by decide +kernel
theorem dL_settlement_12 : decode cL_settlement 12 = .ok (.astore_n 3, 1) := by decide +kernel
theorem dL_settlement_13 : decode cL_settlement 13 = .ok (.iconst 1, 1) := by decide +kernel
theorem dL_settlement_14 : decode cL_settlement 14 = .ok (.ireturn, 1) := by decide +kernel
theorem dL_settlement_15 : decode cL_settlement 15 = .ok (.iconst 0, 1) := by decide +kernel
theorem dL_settlement_16 : decode cL_settlement 16 = .ok (.ireturn, 1) := by decide +kernel
set_option maxRecDepth 20000 in
theorem ggL_cost_X3_cost : GoodIn wsL_cost wsX3_cost := goodIn_ca (goodIn_r _ [6, 7, 8, 9, 5, 10, 11, 12, 13, 14, 15, 16, 17, 18, 19, 20, 21, 22, 23, 24, 25, 26, 27, 28, 29, 30, 31, 32, 33, 34, 35, 36, 37, 38, 39, 40, 41, 42, 43, 44, 45, 46, 47, 48, 49, 50, 51, 52, 53, 54, 55, 56, 57, 58, 59, 60, 61, 62, 63, 64, 65, 66, 67, 68, 69, 70, 71, 72, 73, 74, 75, 76, 77, 78, 79, 80, 81, 82, 83, 84, 85, 86, 87, 88, 89, 90, 91, 92, 93, 94, 95, 96, 97, 98, 99, 100, 101, 102, 103, 104, 105, 106, 107, 108, 109, 110, 111, 112, 113, 114, 115, 116, 117, 118, 119, 120, 121, 122, 123, 124, 125, 126, 127, 128, 129, 130, 131, 132, 133, 134, 135, 136, 137, 138, 139, 140, 141, 142, 143, 144, 145, 146, 147, 148, 149, 150, 151, 152, 153, 154, 155, 156, 157, 158] (by decide +kernel) (by decide +kernel)) (goodIn_sub (fun _ h => List.mem_cons_of_mem _ (List.mem_append_right _ h)) (by decide +kernel))
set_option maxRecDepth 20000 in
theorem gL_cost_X3_cost : GoodIn wsL_cost (wsV RL 78 RX3 yX3_cost wsX3_cost) := goodIn_app (goodIn_of _ (by decide +kernel)) ggL_cost_X3_cost
theorem dL_cost_0 : decode cL_cost 0 = .ok (.aload_n 2, 1) := by decide +kernel
theorem dL_cost_1 : decode cL_cost 1 = .ok (.iconst 0, 1) := by decide +kernel
theorem dL_cost_2 : decode cL_cost 2 = .ok (.aload_n 0, 1) := by decide +kernel
theorem dL_cost_3 : decode cL_cost 3 = .ok (.iload_n 1, 1) := by decide +kernel
theorem dL_cost_4 : decode cL_cost 4 = .ok (.invokevirtual 78, 3) := by decide +kernel
theorem dL_cost_7 : decode cL_cost 7 = .ok (.i2l, 1) := by decide +kernel
theorem dL_cost_8 : decode cL_cost 8 = .ok (.lastore, 1) := by decide +kernel
theorem dL_cost_9 : decode cL_cost 9 = .ok (.goto 6, 3) := by decide +kernel
theorem dL_cost_12 : decode cL_cost 12 = .ok (.astore_n 3, 1) := by decide +kernel
theorem dL_cost_13 : decode cL_cost 13 = .ok (.iconst 1, 1) := by decide +kernel
theorem dL_cost_14 : decode cL_cost 14 = .ok (.ireturn, 1) := by decide +kernel
theorem dL_cost_15 : decode cL_cost 15 = .ok (.iconst 0, 1) := by decide +kernel
theorem dL_cost_16 : decode cL_cost 16 = .ok (.ireturn, 1) := by decide +kernel
set_option maxRecDepth 20000 in
theorem ggL_law_X3_init : GoodIn wsL_law wsX3_init := goodIn_r _ [9, 10, 11, 12, 13, 14, 15, 16, 17, 18, 19, 20, 21, 22, 23, 24, 25, 26, 27, 28, 29, 30, 31, 32, 33, 34, 35, 36, 37, 38, 39, 40, 41, 42, 43, 44, 45, 46, 47, 48, 49, 50, 51, 52, 53, 54, 55, 56, 57, 58, 59, 60, 61, 62, 63, 64, 65, 66, 67, 68, 69, 70, 71, 72, 73, 74, 75, 76, 77, 78, 79, 80, 81, 82, 83, 84, 85, 86, 87, 88, 89, 90, 91, 92, 93, 94, 95, 96, 97, 641, 642, 643, 623, 624, 644, 645, 646, 647, 648] (by decide +kernel) (by decide +kernel)
set_option maxRecDepth 20000 in
theorem gL_law_X3_init : GoodIn wsL_law (wsX3_init) := ggL_law_X3_init
set_option maxRecDepth 20000 in
theorem ggL_law_X4_init : GoodIn wsL_law wsX4_init := goodIn_r _ [100, 101, 11, 12, 102, 103, 104, 105, 106, 107, 108, 109, 110, 111, 112, 113, 114, 115, 116, 117, 625, 626, 627, 628, 629, 630, 631, 632, 633, 634, 635, 636, 637, 638, 639, 640] (by decide +kernel) (by decide +kernel)
set_option maxRecDepth 20000 in
theorem gL_law_X4_init : GoodIn wsL_law (wsX4_init) := ggL_law_X4_init
set_option maxRecDepth 20000 in
theorem ggL_law_L_setLimits : GoodIn wsL_law wsL_setLimits := goodIn_ca (goodIn_r _ [121, 122, 123, 124, 125, 2, 126, 127, 128, 129, 130, 131, 132, 133, 16, 134, 135, 136, 137, 15, 138, 51, 139, 140, 141, 142, 143, 144, 145, 146, 147, 148, 149, 150, 151, 152, 153, 154, 25, 155, 156, 157, 158, 159, 160, 20, 161, 39, 41, 623, 624, 641, 642, 643, 644, 645, 646, 647, 648] (by decide +kernel) (by decide +kernel)) (goodIn_sub (fun _ h => List.mem_append_left _ (List.mem_append_left _ (List.mem_append_right _ h))) (by decide +kernel))
set_option maxRecDepth 20000 in
theorem gL_law_L_setLimits : GoodIn wsL_law (va_wsS RL 85 yL_setLimits wsL_setLimits) := goodIn_app (goodIn_of _ (by decide +kernel)) ggL_law_L_setLimits
set_option maxRecDepth 20000 in
theorem ggL_law_X4_setLimits : GoodIn wsL_law wsX4_setLimits := goodIn_r _ [165, 166, 167, 103, 104, 168, 169, 5, 170, 171, 172, 173, 625, 626, 627, 628, 629, 630, 631, 632, 633, 634, 635, 636, 637, 638, 639, 640] (by decide +kernel) (by decide +kernel)
set_option maxRecDepth 20000 in
theorem gL_law_X4_setLimits : GoodIn wsL_law (wsV RL 90 RX4 yX4_setLimits wsX4_setLimits) := goodIn_app (goodIn_of _ (by decide +kernel)) ggL_law_X4_setLimits
set_option maxRecDepth 20000 in
theorem ggL_law_X4_thrown : GoodIn wsL_law wsX4_thrown := goodIn_r _ [177, 167, 625, 626, 627, 628, 629, 630, 631, 632, 633, 634, 635, 636, 637, 638, 639, 640] (by decide +kernel) (by decide +kernel)
set_option maxRecDepth 20000 in
theorem gL_law_X4_thrown : GoodIn wsL_law (wsV RL 91 RX4 yX4_thrown wsX4_thrown) := goodIn_app (goodIn_of _ (by decide +kernel)) ggL_law_X4_thrown
set_option maxRecDepth 20000 in
theorem ggL_law_L_setRates : GoodIn wsL_law wsL_setRates := goodIn_ca (goodIn_r _ [180, 122, 181, 182, 183, 2, 184, 128, 129, 130, 131, 132, 133, 16, 134, 135, 136, 137, 15, 138, 51, 139, 140, 141, 142, 143, 144, 145, 146, 147, 148, 149, 150, 151, 152, 153, 154, 25, 155, 156, 157, 185, 186, 187, 20, 188, 42, 43, 44, 623, 624, 641, 642, 643, 644, 645, 646, 647, 648] (by decide +kernel) (by decide +kernel)) (goodIn_sub (fun _ h => List.mem_append_left _ (List.mem_append_left _ (List.mem_append_right _ h))) (by decide +kernel))
set_option maxRecDepth 20000 in
theorem gL_law_L_setRates : GoodIn wsL_law (va_wsS RL 95 yL_setRates wsL_setRates) := goodIn_app (goodIn_of _ (by decide +kernel)) ggL_law_L_setRates
set_option maxRecDepth 20000 in
theorem ggL_law_X4_setRates : GoodIn wsL_law wsX4_setRates := goodIn_r _ [192, 167, 105, 168, 169, 5, 170, 171, 172, 173, 625, 626, 627, 628, 629, 630, 631, 632, 633, 634, 635, 636, 637, 638, 639, 640] (by decide +kernel) (by decide +kernel)
set_option maxRecDepth 20000 in
theorem gL_law_X4_setRates : GoodIn wsL_law (wsV RL 98 RX4 yX4_setRates wsX4_setRates) := goodIn_app (goodIn_of _ (by decide +kernel)) ggL_law_X4_setRates
set_option maxRecDepth 20000 in
theorem ggL_law_L_tax : GoodIn wsL_law wsL_tax := goodIn_ca (goodIn_r _ [195, 122, 196, 197, 198, 2, 199, 200, 128, 129, 130, 131, 132, 133, 16, 134, 135, 136, 137, 15, 138, 51, 139, 140, 141, 142, 143, 144, 145, 146, 147, 148, 149, 150, 151, 152, 153, 154, 25, 155, 156, 157, 201, 202, 203, 20, 204, 39, 205, 92, 66, 93, 41, 206, 65, 67, 42, 43, 44, 207, 623, 624, 641, 642, 643, 644, 645, 646, 647, 648] (by decide +kernel) (by decide +kernel)) (goodIn_sub (fun _ h => List.mem_append_left _ (List.mem_append_left _ (List.mem_append_right _ h))) (by decide +kernel))
set_option maxRecDepth 20000 in
theorem gL_law_L_tax : GoodIn wsL_law (va_wsS RL 99 yL_tax wsL_tax) := goodIn_app (goodIn_of _ (by decide +kernel)) ggL_law_L_tax
set_option maxRecDepth 20000 in
theorem ggL_law_X4_tax : GoodIn wsL_law wsX4_tax := goodIn_r _ [211, 167, 212, 168, 169, 5, 170, 171, 172, 173, 213, 214, 215, 216, 103, 104, 105, 217, 218, 219, 220, 221, 625, 626, 627, 628, 629, 630, 631, 632, 633, 634, 635, 636, 637, 638, 639, 640] (by decide +kernel) (by decide +kernel)
set_option maxRecDepth 20000 in
theorem gL_law_X4_tax : GoodIn wsL_law (wsV RL 102 RX4 yX4_tax wsX4_tax) := goodIn_app (goodIn_of _ (by decide +kernel)) ggL_law_X4_tax
set_option maxRecDepth 20000 in
theorem ggL_law_L_grossTax : GoodIn wsL_law wsL_grossTax := goodIn_ca (goodIn_r _ [224, 122, 225, 226, 227, 2, 228, 200, 128, 129, 130, 131, 132, 133, 16, 134, 135, 136, 137, 15, 138, 51, 139, 140, 141, 142, 143, 144, 145, 146, 147, 148, 149, 150, 151, 152, 153, 154, 25, 155, 156, 157, 229, 230, 231, 20, 232, 233, 234, 235, 236, 202, 203, 204, 39, 205, 92, 66, 93, 41, 206, 65, 67, 42, 43, 44, 207, 623, 624, 641, 642, 643, 644, 645, 646, 647, 648] (by decide +kernel) (by decide +kernel)) (goodIn_sub (fun _ h => List.mem_append_left _ (List.mem_append_left _ (List.mem_append_right _ h))) (by decide +kernel))
set_option maxRecDepth 20000 in
theorem gL_law_L_grossTax : GoodIn wsL_law (va_wsS RL 103 yL_grossTax wsL_grossTax) := goodIn_app (goodIn_of _ (by decide +kernel)) ggL_law_L_grossTax
set_option maxRecDepth 20000 in
theorem ggL_law_X4_grossTax : GoodIn wsL_law wsX4_grossTax := goodIn_r _ [240, 167, 212, 168, 169, 5, 170, 171, 172, 173, 241, 242, 243, 244, 245, 213, 214, 215, 216, 103, 104, 105, 217, 218, 219, 220, 221, 625, 626, 627, 628, 629, 630, 631, 632, 633, 634, 635, 636, 637, 638, 639, 640] (by decide +kernel) (by decide +kernel)
set_option maxRecDepth 20000 in
theorem gL_law_X4_grossTax : GoodIn wsL_law (wsV RL 105 RX4 yX4_grossTax wsX4_grossTax) := goodIn_app (goodIn_of _ (by decide +kernel)) ggL_law_X4_grossTax
set_option maxRecDepth 20000 in
theorem ggL_law_L_grossTaxByTrying : GoodIn wsL_law wsL_grossTaxByTrying := goodIn_ca (goodIn_r _ [248, 122, 249, 250, 251, 2, 252, 128, 129, 130, 131, 132, 133, 16, 134, 135, 136, 137, 15, 138, 51, 139, 140, 141, 142, 143, 144, 145, 146, 147, 148, 149, 150, 151, 152, 153, 154, 25, 155, 156, 157, 253, 254, 255, 20, 256, 233, 234, 235, 236, 202, 203, 204, 39, 205, 92, 66, 93, 41, 206, 65, 67, 42, 43, 44, 207, 623, 624, 641, 642, 643, 644, 645, 646, 647, 648] (by decide +kernel) (by decide +kernel)) (goodIn_sub (fun _ h => List.mem_append_left _ (List.mem_append_left _ (List.mem_append_right _ h))) (by decide +kernel))
set_option maxRecDepth 20000 in
theorem gL_law_L_grossTaxByTrying : GoodIn wsL_law (va_wsS RL 106 yL_grossTaxByTrying wsL_grossTaxByTrying) := goodIn_app (goodIn_of _ (by decide +kernel)) ggL_law_L_grossTaxByTrying
set_option maxRecDepth 20000 in
theorem ggL_law_X4_grossTaxByTrying : GoodIn wsL_law wsX4_grossTaxByTrying := goodIn_r _ [260, 167, 168, 169, 5, 170, 171, 172, 173, 241, 242, 243, 244, 245, 213, 214, 215, 216, 103, 104, 105, 217, 218, 219, 220, 221, 625, 626, 627, 628, 629, 630, 631, 632, 633, 634, 635, 636, 637, 638, 639, 640] (by decide +kernel) (by decide +kernel)
set_option maxRecDepth 20000 in
theorem gL_law_X4_grossTaxByTrying : GoodIn wsL_law (wsV RL 108 RX4 yX4_grossTaxByTrying wsX4_grossTaxByTrying) := goodIn_app (goodIn_of _ (by decide +kernel)) ggL_law_X4_grossTaxByTrying
set_option maxRecDepth 20000 in
theorem ggL_law_L_add : GoodIn wsL_law wsL_add := goodIn_ca (goodIn_ca (goodIn_r _ [263, 122, 264, 265, 266, 267, 2, 268, 132, 133, 269, 270, 271, 17, 272, 273, 274, 128, 129, 130, 131, 16, 134, 135, 136, 137, 15, 138, 51, 139, 140, 141, 142, 143, 144, 145, 146, 147, 148, 149, 150, 151, 152, 153, 154, 25, 155, 156, 157, 275, 276, 277, 278, 11, 12, 279, 14, 280, 281, 282, 283, 284, 285, 286, 287, 288, 22, 23, 24, 26, 27, 28, 29, 30, 31, 32, 33, 34, 35, 45, 46, 47, 48, 49, 50, 52, 53, 54, 55, 56, 57, 58, 59, 60, 61, 62, 63, 64, 65, 66, 67, 68, 69, 70, 71, 72, 73, 74, 75, 76, 77, 78, 79, 80, 81, 82, 83, 84, 85, 86, 87, 88, 89, 90, 91, 92, 93, 94, 95, 96, 97, 623, 624, 649, 650, 651, 652, 653, 654, 655, 656, 641, 642, 643] (by decide +kernel) (by decide +kernel)) (goodIn_sub (fun _ h => List.mem_append_left _ (List.mem_append_left _ (List.mem_append_right _ h))) (by decide +kernel))) (goodIn_sub (fun _ h => List.mem_append_left _ (List.mem_append_right _ h)) (by decide +kernel))
set_option maxRecDepth 20000 in
theorem gL_law_L_add : GoodIn wsL_law (va_wsS RL 109 yL_add wsL_add) := goodIn_app (goodIn_of _ (by decide +kernel)) ggL_law_L_add
set_option maxRecDepth 20000 in
theorem ggL_law_X4_add : GoodIn wsL_law wsX4_add := goodIn_r _ [292, 167, 293, 294, 106, 107, 108, 168, 169, 5, 170, 171, 172, 173, 218, 219, 220, 221, 625, 626, 627, 628, 629, 630, 631, 632, 633, 634, 635, 636, 637, 638, 639, 640] (by decide +kernel) (by decide +kernel)
set_option maxRecDepth 20000 in
theorem gL_law_X4_add : GoodIn wsL_law (wsV RL 112 RX4 yX4_add wsX4_add) := goodIn_app (goodIn_of _ (by decide +kernel)) ggL_law_X4_add
set_option maxRecDepth 20000 in
theorem ggL_law_L_setAbroad : GoodIn wsL_law wsL_setAbroad := goodIn_ca (goodIn_ca (goodIn_r _ [297, 298, 122, 299, 300, 301, 2, 302, 303, 304, 305, 306, 307, 308, 17, 309, 135, 136, 137, 15, 138, 51, 139, 140, 141, 142, 143, 144, 145, 146, 147, 148, 149, 150, 151, 152, 153, 154, 25, 155, 156, 157, 132, 133, 310, 311, 312, 274, 313, 282, 281, 649, 650, 651, 652, 653, 654, 655, 656, 623, 624, 641, 642, 643] (by decide +kernel) (by decide +kernel)) (goodIn_sub (fun _ h => List.mem_append_right _ h) (by decide +kernel))) (goodIn_sub (fun _ h => List.mem_append_left _ (List.mem_append_left _ (List.mem_append_right _ h))) (by decide +kernel))
set_option maxRecDepth 20000 in
theorem gL_law_L_setAbroad : GoodIn wsL_law (va_wsS RL 113 yL_setAbroad wsL_setAbroad) := goodIn_app (goodIn_of _ (by decide +kernel)) ggL_law_L_setAbroad
set_option maxRecDepth 20000 in
theorem ggL_law_X4_setAbroad : GoodIn wsL_law wsX4_setAbroad := goodIn_r _ [317, 110, 109, 318, 319, 320, 5, 321, 294, 167, 171, 172, 173, 218, 219, 220, 221, 625, 626, 627, 628, 629, 630, 631, 632, 633, 634, 635, 636, 637, 638, 639, 640] (by decide +kernel) (by decide +kernel)
set_option maxRecDepth 20000 in
theorem gL_law_X4_setAbroad : GoodIn wsL_law (wsV RL 115 RX4 yX4_setAbroad wsX4_setAbroad) := goodIn_app (goodIn_of _ (by decide +kernel)) ggL_law_X4_setAbroad
set_option maxRecDepth 20000 in
theorem ggL_law_L_setPay : GoodIn wsL_law wsL_setPay := goodIn_ca (goodIn_ca (goodIn_r _ [324, 298, 122, 325, 326, 327, 2, 328, 271, 303, 304, 305, 306, 307, 308, 17, 309, 135, 136, 137, 15, 138, 51, 139, 140, 141, 142, 143, 144, 145, 146, 147, 148, 149, 150, 151, 152, 153, 154, 25, 155, 156, 157, 132, 133, 649, 650, 651, 652, 653, 654, 655, 656, 623, 624, 641, 642, 643] (by decide +kernel) (by decide +kernel)) (goodIn_sub (fun _ h => List.mem_append_right _ h) (by decide +kernel))) (goodIn_sub (fun _ h => List.mem_append_left _ (List.mem_append_left _ (List.mem_append_right _ h))) (by decide +kernel))
set_option maxRecDepth 20000 in
theorem gL_law_L_setPay : GoodIn wsL_law (va_wsS RL 116 yL_setPay wsL_setPay) := goodIn_app (goodIn_of _ (by decide +kernel)) ggL_law_L_setPay
set_option maxRecDepth 20000 in
theorem ggL_law_X4_setPay : GoodIn wsL_law wsX4_setPay := goodIn_r _ [332, 293, 108, 318, 319, 320, 5, 321, 294, 167, 171, 172, 173, 218, 219, 220, 221, 625, 626, 627, 628, 629, 630, 631, 632, 633, 634, 635, 636, 637, 638, 639, 640] (by decide +kernel) (by decide +kernel)
set_option maxRecDepth 20000 in
theorem gL_law_X4_setPay : GoodIn wsL_law (wsV RL 118 RX4 yX4_setPay wsX4_setPay) := goodIn_app (goodIn_of _ (by decide +kernel)) ggL_law_X4_setPay
set_option maxRecDepth 20000 in
theorem ggL_law_L_setHousing : GoodIn wsL_law wsL_setHousing := goodIn_ca (goodIn_ca (goodIn_r _ [335, 298, 122, 336, 337, 338, 2, 339, 340, 303, 304, 305, 306, 307, 308, 17, 309, 135, 136, 137, 15, 138, 51, 139, 140, 141, 142, 143, 144, 145, 146, 147, 148, 149, 150, 151, 152, 153, 154, 25, 155, 156, 157, 132, 133, 341, 342, 343, 274, 344, 283, 287, 284, 345, 92, 66, 93, 649, 650, 651, 652, 653, 654, 655, 656, 623, 624, 641, 642, 643] (by decide +kernel) (by decide +kernel)) (goodIn_sub (fun _ h => List.mem_append_right _ h) (by decide +kernel))) (goodIn_sub (fun _ h => List.mem_append_left _ (List.mem_append_left _ (List.mem_append_right _ h))) (by decide +kernel))
set_option maxRecDepth 20000 in
theorem gL_law_L_setHousing : GoodIn wsL_law (va_wsS RL 119 yL_setHousing wsL_setHousing) := goodIn_app (goodIn_of _ (by decide +kernel)) ggL_law_L_setHousing
set_option maxRecDepth 20000 in
theorem ggL_law_X4_setHousing : GoodIn wsL_law wsX4_setHousing := goodIn_r _ [349, 350, 111, 112, 318, 319, 320, 5, 321, 294, 167, 171, 172, 173, 218, 219, 220, 221, 351, 352, 353, 354, 108, 625, 626, 627, 628, 629, 630, 631, 632, 633, 634, 635, 636, 637, 638, 639, 640] (by decide +kernel) (by decide +kernel)
set_option maxRecDepth 20000 in
theorem gL_law_X4_setHousing : GoodIn wsL_law (wsV RL 121 RX4 yX4_setHousing wsX4_setHousing) := goodIn_app (goodIn_of _ (by decide +kernel)) ggL_law_X4_setHousing
set_option maxRecDepth 20000 in
theorem ggL_law_L_addBonus : GoodIn wsL_law wsL_addBonus := goodIn_ca (goodIn_ca (goodIn_ca (goodIn_r _ [357, 298, 122, 264, 358, 359, 360, 2, 361, 269, 270, 362, 363, 364, 365, 303, 304, 305, 306, 307, 308, 17, 309, 135, 136, 137, 15, 138, 51, 139, 140, 141, 142, 143, 144, 145, 146, 147, 148, 149, 150, 151, 152, 153, 154, 25, 155, 156, 157, 132, 133, 366, 367, 368, 369, 11, 12, 370, 371, 372, 45, 46, 47, 48, 49, 50, 52, 53, 54, 55, 56, 57, 58, 59, 60, 61, 62, 63, 24, 64, 65, 66, 67, 68, 69, 70, 71, 72, 73, 74, 75, 76, 77, 78, 79, 80, 81, 82, 83, 84, 85, 86, 87, 88, 89, 90, 91, 92, 93, 94, 95, 96, 97, 649, 650, 651, 652, 653, 654, 655, 656, 657, 658, 659, 623, 624, 641, 642, 643] (by decide +kernel) (by decide +kernel)) (goodIn_sub (fun _ h => List.mem_append_left _ (List.mem_append_right _ h)) (by decide +kernel))) (goodIn_sub (fun _ h => List.mem_append_right _ h) (by decide +kernel))) (goodIn_sub (fun _ h => List.mem_append_left _ (List.mem_append_left _ (List.mem_append_right _ h))) (by decide +kernel))
set_option maxRecDepth 20000 in
theorem gL_law_L_addBonus : GoodIn wsL_law (va_wsS RL 122 yL_addBonus wsL_addBonus) := goodIn_app (goodIn_of _ (by decide +kernel)) ggL_law_L_addBonus
set_option maxRecDepth 20000 in
theorem ggL_law_X4_addBonus : GoodIn wsL_law wsX4_addBonus := goodIn_r _ [376, 377, 113, 114, 115, 116, 318, 319, 320, 5, 321, 294, 167, 171, 172, 173, 218, 219, 220, 221, 625, 626, 627, 628, 629, 630, 631, 632, 633, 634, 635, 636, 637, 638, 639, 640] (by decide +kernel) (by decide +kernel)
set_option maxRecDepth 20000 in
theorem gL_law_X4_addBonus : GoodIn wsL_law (wsV RL 125 RX4 yX4_addBonus wsX4_addBonus) := goodIn_app (goodIn_of _ (by decide +kernel)) ggL_law_X4_addBonus
set_option maxRecDepth 20000 in
theorem ggL_law_X3_people : GoodIn wsL_law wsX3_people := goodIn_r _ [381, 17, 135, 136, 137, 15, 138, 51, 623, 624, 641, 642, 643] (by decide +kernel) (by decide +kernel)
set_option maxRecDepth 20000 in
theorem gL_law_X3_people : GoodIn wsL_law (wsV RL 126 RX3 yX3_people wsX3_people) := goodIn_app (goodIn_of _ (by decide +kernel)) ggL_law_X3_people
set_option maxRecDepth 20000 in
theorem ggL_law_X4_people : GoodIn wsL_law wsX4_people := goodIn_r _ [385, 167, 294, 625, 626, 627, 628, 629, 630, 631, 632, 633, 634, 635, 636, 637, 638, 639, 640] (by decide +kernel) (by decide +kernel)
set_option maxRecDepth 20000 in
theorem gL_law_X4_people : GoodIn wsL_law (wsV RL 129 RX4 yX4_people wsX4_people) := goodIn_app (goodIn_of _ (by decide +kernel)) ggL_law_X4_people
set_option maxRecDepth 20000 in
theorem ggL_law_L_abroadPart : GoodIn wsL_law wsL_abroadPart := goodIn_ca (goodIn_r _ [388, 298, 389, 390, 391, 2, 392, 307, 308, 393, 303, 304, 305, 306, 17, 309, 135, 136, 137, 15, 138, 51, 139, 140, 141, 142, 143, 144, 145, 146, 147, 148, 149, 150, 151, 152, 153, 154, 25, 394, 395, 396, 274, 397, 282, 345, 92, 66, 93, 281, 398, 65, 67, 649, 650, 651, 652, 653, 654, 655, 656, 623, 624, 641, 642, 643, 657, 658, 659] (by decide +kernel) (by decide +kernel)) (goodIn_sub (fun _ h => List.mem_append_right _ h) (by decide +kernel))
set_option maxRecDepth 20000 in
theorem gL_law_L_abroadPart : GoodIn wsL_law (va_wsS RL 130 yL_abroadPart wsL_abroadPart) := goodIn_app (goodIn_of _ (by decide +kernel)) ggL_law_L_abroadPart
set_option maxRecDepth 20000 in
theorem ggL_law_X4_abroadPart : GoodIn wsL_law wsX4_abroadPart := goodIn_r _ [402, 167, 294, 113, 171, 172, 5, 173, 403, 404, 405, 406, 115, 116, 109, 110, 114, 218, 219, 220, 221, 625, 626, 627, 628, 629, 630, 631, 632, 633, 634, 635, 636, 637, 638, 639, 640] (by decide +kernel) (by decide +kernel)
set_option maxRecDepth 20000 in
theorem gL_law_X4_abroadPart : GoodIn wsL_law (wsV RL 132 RX4 yX4_abroadPart wsX4_abroadPart) := goodIn_app (goodIn_of _ (by decide +kernel)) ggL_law_X4_abroadPart
set_option maxRecDepth 20000 in
theorem ggL_law_L_held : GoodIn wsL_law wsL_held := goodIn_ca (goodIn_ca (goodIn_r _ [409, 298, 122, 410, 411, 412, 2, 413, 303, 304, 305, 306, 307, 308, 17, 309, 135, 136, 137, 15, 138, 51, 139, 140, 141, 142, 143, 144, 145, 146, 147, 148, 149, 150, 151, 152, 153, 154, 25, 155, 156, 157, 132, 133, 414, 415, 416, 274, 417, 281, 282, 418, 419, 420, 421, 285, 287, 422, 202, 203, 20, 204, 39, 205, 92, 66, 93, 41, 206, 65, 67, 42, 43, 44, 207, 623, 624, 641, 642, 643, 649, 650, 651, 652, 653, 654, 655, 656, 644, 645, 646, 647, 648] (by decide +kernel) (by decide +kernel)) (goodIn_sub (fun _ h => List.mem_append_right _ h) (by decide +kernel))) (goodIn_sub (fun _ h => List.mem_append_left _ (List.mem_append_left _ (List.mem_append_right _ h))) (by decide +kernel))
set_option maxRecDepth 20000 in
theorem gL_law_L_held : GoodIn wsL_law (va_wsS RL 133 yL_held wsL_held) := goodIn_app (goodIn_of _ (by decide +kernel)) ggL_law_L_held
set_option maxRecDepth 20000 in
theorem ggL_law_X4_held : GoodIn wsL_law wsX4_held := goodIn_r _ [426, 109, 110, 318, 319, 320, 5, 321, 294, 167, 171, 172, 173, 218, 219, 220, 221, 427, 428, 429, 430, 106, 108, 431, 213, 214, 215, 216, 103, 104, 105, 217, 625, 626, 627, 628, 629, 630, 631, 632, 633, 634, 635, 636, 637, 638, 639, 640] (by decide +kernel) (by decide +kernel)
set_option maxRecDepth 20000 in
theorem gL_law_X4_held : GoodIn wsL_law (wsV RL 135 RX4 yX4_held wsX4_held) := goodIn_app (goodIn_of _ (by decide +kernel)) ggL_law_X4_held
set_option maxRecDepth 20000 in
theorem ggL_law_L_supposedTax : GoodIn wsL_law wsL_supposedTax := goodIn_ca (goodIn_r _ [434, 298, 435, 436, 437, 2, 438, 303, 304, 305, 306, 307, 308, 17, 309, 135, 136, 137, 15, 138, 51, 139, 140, 141, 142, 143, 144, 145, 146, 147, 148, 149, 150, 151, 152, 153, 154, 25, 439, 440, 441, 274, 442, 285, 443, 444, 445, 446, 287, 280, 447, 448, 449, 422, 202, 203, 20, 204, 39, 205, 92, 66, 93, 41, 206, 65, 67, 42, 43, 44, 207, 623, 624, 641, 642, 643, 649, 650, 651, 652, 653, 654, 655, 656, 657, 658, 659, 644, 645, 646, 647, 648] (by decide +kernel) (by decide +kernel)) (goodIn_sub (fun _ h => List.mem_append_right _ h) (by decide +kernel))
set_option maxRecDepth 20000 in
theorem gL_law_L_supposedTax : GoodIn wsL_law (va_wsS RL 136 yL_supposedTax wsL_supposedTax) := goodIn_app (goodIn_of _ (by decide +kernel)) ggL_law_L_supposedTax
set_option maxRecDepth 20000 in
theorem ggL_law_X4_supposedTax : GoodIn wsL_law wsX4_supposedTax := goodIn_r _ [453, 318, 319, 320, 5, 321, 294, 167, 171, 172, 173, 454, 455, 456, 457, 106, 458, 459, 460, 461, 108, 113, 114, 213, 214, 215, 216, 103, 104, 105, 217, 625, 626, 627, 628, 629, 630, 631, 632, 633, 634, 635, 636, 637, 638, 639, 640] (by decide +kernel) (by decide +kernel)
set_option maxRecDepth 20000 in
theorem gL_law_X4_supposedTax : GoodIn wsL_law (wsV RL 139 RX4 yX4_supposedTax wsX4_supposedTax) := goodIn_app (goodIn_of _ (by decide +kernel)) ggL_law_X4_supposedTax
set_option maxRecDepth 20000 in
theorem ggL_law_L_homeIncome : GoodIn wsL_law wsL_homeIncome := goodIn_ca (goodIn_r _ [464, 298, 465, 466, 467, 2, 468, 303, 304, 305, 306, 307, 308, 17, 309, 135, 136, 137, 15, 138, 51, 139, 140, 141, 142, 143, 144, 145, 146, 147, 148, 149, 150, 151, 152, 153, 154, 25, 469, 470, 471, 274, 472, 287, 280, 447, 473, 311, 312, 313, 282, 281, 448, 449, 474, 395, 396, 397, 345, 92, 66, 93, 398, 65, 67, 623, 624, 641, 642, 643, 649, 650, 651, 652, 653, 654, 655, 656, 657, 658, 659] (by decide +kernel) (by decide +kernel)) (goodIn_sub (fun _ h => List.mem_append_right _ h) (by decide +kernel))
set_option maxRecDepth 20000 in
theorem gL_law_L_homeIncome : GoodIn wsL_law (va_wsS RL 140 yL_homeIncome wsL_homeIncome) := goodIn_app (goodIn_of _ (by decide +kernel)) ggL_law_L_homeIncome
set_option maxRecDepth 20000 in
theorem ggL_law_X4_homeIncome : GoodIn wsL_law wsX4_homeIncome := goodIn_r _ [478, 318, 319, 320, 5, 321, 294, 167, 171, 172, 173, 479, 480, 481, 482, 108, 458, 459, 460, 461, 113, 114, 483, 484, 485, 486, 110, 109, 487, 488, 489, 490, 403, 404, 405, 406, 115, 116, 625, 626, 627, 628, 629, 630, 631, 632, 633, 634, 635, 636, 637, 638, 639, 640] (by decide +kernel) (by decide +kernel)
set_option maxRecDepth 20000 in
theorem gL_law_X4_homeIncome : GoodIn wsL_law (wsV RL 142 RX4 yX4_homeIncome wsX4_homeIncome) := goodIn_app (goodIn_of _ (by decide +kernel)) ggL_law_X4_homeIncome
set_option maxRecDepth 20000 in
theorem ggL_law_L_homeTax : GoodIn wsL_law wsL_homeTax := goodIn_ca (goodIn_r _ [493, 298, 494, 495, 496, 2, 497, 303, 304, 305, 306, 307, 308, 17, 309, 135, 136, 137, 15, 138, 51, 139, 140, 141, 142, 143, 144, 145, 146, 147, 148, 149, 150, 151, 152, 153, 154, 25, 498, 499, 500, 274, 501, 285, 443, 444, 445, 446, 287, 280, 447, 448, 449, 422, 202, 203, 20, 204, 39, 205, 92, 66, 93, 41, 206, 65, 67, 42, 43, 44, 207, 502, 470, 471, 472, 473, 311, 312, 313, 282, 281, 474, 395, 396, 397, 345, 398, 623, 624, 641, 642, 643, 649, 650, 651, 652, 653, 654, 655, 656, 657, 658, 659, 644, 645, 646, 647, 648] (by decide +kernel) (by decide +kernel)) (goodIn_sub (fun _ h => List.mem_append_right _ h) (by decide +kernel))
set_option maxRecDepth 20000 in
theorem gL_law_L_homeTax : GoodIn wsL_law (va_wsS RL 143 yL_homeTax wsL_homeTax) := goodIn_app (goodIn_of _ (by decide +kernel)) ggL_law_L_homeTax
set_option maxRecDepth 20000 in
theorem ggL_law_X4_homeTax : GoodIn wsL_law wsX4_homeTax := goodIn_r _ [506, 318, 319, 320, 5, 321, 294, 167, 171, 172, 173, 507, 508, 509, 510, 106, 458, 459, 460, 461, 108, 113, 114, 213, 214, 215, 216, 103, 104, 105, 217, 479, 480, 481, 482, 483, 484, 485, 486, 110, 109, 487, 488, 489, 490, 403, 404, 405, 406, 115, 116, 625, 626, 627, 628, 629, 630, 631, 632, 633, 634, 635, 636, 637, 638, 639, 640] (by decide +kernel) (by decide +kernel)
set_option maxRecDepth 20000 in
theorem gL_law_X4_homeTax : GoodIn wsL_law (wsV RL 145 RX4 yX4_homeTax wsX4_homeTax) := goodIn_app (goodIn_of _ (by decide +kernel)) ggL_law_X4_homeTax
set_option maxRecDepth 20000 in
theorem ggL_law_L_hostIncome : GoodIn wsL_law wsL_hostIncome := goodIn_ca (goodIn_r _ [513, 298, 514, 515, 516, 2, 517, 303, 304, 305, 306, 307, 308, 17, 309, 135, 136, 137, 15, 138, 51, 139, 140, 141, 142, 143, 144, 145, 146, 147, 148, 149, 150, 151, 152, 153, 154, 25, 518, 519, 520, 274, 521, 287, 280, 447, 473, 311, 312, 313, 282, 281, 522, 523, 524, 525, 283, 526, 342, 343, 344, 284, 345, 92, 66, 93, 448, 449, 474, 395, 396, 397, 398, 65, 67, 623, 624, 641, 642, 643, 649, 650, 651, 652, 653, 654, 655, 656, 657, 658, 659] (by decide +kernel) (by decide +kernel)) (goodIn_sub (fun _ h => List.mem_append_right _ h) (by decide +kernel))
set_option maxRecDepth 20000 in
theorem gL_law_L_hostIncome : GoodIn wsL_law (va_wsS RL 146 yL_hostIncome wsL_hostIncome) := goodIn_app (goodIn_of _ (by decide +kernel)) ggL_law_L_hostIncome
set_option maxRecDepth 20000 in
theorem ggL_law_X4_hostIncome : GoodIn wsL_law wsX4_hostIncome := goodIn_r _ [530, 318, 319, 320, 5, 321, 294, 167, 171, 172, 173, 531, 532, 533, 534, 108, 111, 483, 484, 485, 486, 110, 109, 487, 488, 489, 490, 113, 403, 404, 405, 406, 115, 116, 114, 351, 352, 353, 354, 112, 625, 626, 627, 628, 629, 630, 631, 632, 633, 634, 635, 636, 637, 638, 639, 640] (by decide +kernel) (by decide +kernel)
set_option maxRecDepth 20000 in
theorem gL_law_X4_hostIncome : GoodIn wsL_law (wsV RL 148 RX4 yX4_hostIncome wsX4_hostIncome) := goodIn_app (goodIn_of _ (by decide +kernel)) ggL_law_X4_hostIncome
set_option maxRecDepth 20000 in
theorem ggL_law_L_hostTax : GoodIn wsL_law wsL_hostTax := goodIn_ca (goodIn_r _ [537, 298, 538, 539, 540, 2, 541, 303, 304, 305, 306, 307, 308, 17, 309, 135, 136, 137, 15, 138, 51, 139, 140, 141, 142, 143, 144, 145, 146, 147, 148, 149, 150, 151, 152, 153, 154, 25, 542, 543, 544, 274, 545, 286, 546, 519, 520, 521, 287, 280, 447, 473, 311, 312, 313, 282, 281, 522, 523, 524, 525, 283, 526, 342, 343, 344, 284, 345, 92, 66, 93, 448, 449, 474, 395, 396, 397, 398, 65, 67, 547, 230, 231, 20, 232, 233, 234, 235, 236, 202, 203, 204, 39, 205, 41, 206, 42, 43, 44, 207, 623, 624, 641, 642, 643, 649, 650, 651, 652, 653, 654, 655, 656, 657, 658, 659, 644, 645, 646, 647, 648] (by decide +kernel) (by decide +kernel)) (goodIn_sub (fun _ h => List.mem_append_right _ h) (by decide +kernel))
set_option maxRecDepth 20000 in
theorem gL_law_L_hostTax : GoodIn wsL_law (va_wsS RL 149 yL_hostTax wsL_hostTax) := goodIn_app (goodIn_of _ (by decide +kernel)) ggL_law_L_hostTax
set_option maxRecDepth 20000 in
theorem ggL_law_X4_hostTax : GoodIn wsL_law wsX4_hostTax := goodIn_r _ [551, 107, 318, 319, 320, 5, 321, 294, 167, 171, 172, 173, 531, 532, 533, 534, 108, 111, 483, 484, 485, 486, 110, 109, 487, 488, 489, 490, 113, 403, 404, 405, 406, 115, 116, 114, 351, 352, 353, 354, 112, 241, 242, 243, 244, 245, 213, 214, 215, 216, 103, 104, 105, 217, 625, 626, 627, 628, 629, 630, 631, 632, 633, 634, 635, 636, 637, 638, 639, 640] (by decide +kernel) (by decide +kernel)
set_option maxRecDepth 20000 in
theorem gL_law_X4_hostTax : GoodIn wsL_law (wsV RL 151 RX4 yX4_hostTax wsX4_hostTax) := goodIn_app (goodIn_of _ (by decide +kernel)) ggL_law_X4_hostTax
set_option maxRecDepth 20000 in
theorem ggL_law_L_borne : GoodIn wsL_law wsL_borne := goodIn_ca (goodIn_r _ [554, 298, 555, 556, 557, 2, 558, 303, 304, 305, 306, 307, 308, 17, 309, 135, 136, 137, 15, 138, 51, 139, 140, 141, 142, 143, 144, 145, 146, 147, 148, 149, 150, 151, 152, 153, 154, 25, 559, 560, 561, 274, 562, 563, 564, 565, 566, 473, 311, 312, 313, 282, 281, 567, 419, 420, 421, 285, 287, 422, 202, 203, 20, 204, 39, 205, 92, 66, 93, 41, 206, 65, 67, 42, 43, 44, 207, 568, 499, 500, 501, 443, 444, 445, 446, 280, 447, 448, 449, 502, 470, 471, 472, 474, 395, 396, 397, 345, 398, 623, 624, 641, 642, 643, 649, 650, 651, 652, 653, 654, 655, 656, 644, 645, 646, 647, 648, 657, 658, 659] (by decide +kernel) (by decide +kernel)) (goodIn_sub (fun _ h => List.mem_append_right _ h) (by decide +kernel))
set_option maxRecDepth 20000 in
theorem gL_law_L_borne : GoodIn wsL_law (va_wsS RL 152 yL_borne wsL_borne) := goodIn_app (goodIn_of _ (by decide +kernel)) ggL_law_L_borne
set_option maxRecDepth 20000 in
theorem ggL_law_X4_borne : GoodIn wsL_law wsX4_borne := goodIn_r _ [572, 318, 319, 320, 5, 321, 294, 167, 171, 172, 173, 573, 574, 575, 576, 427, 428, 429, 430, 106, 108, 431, 213, 214, 215, 216, 103, 104, 105, 217, 483, 484, 485, 486, 110, 109, 507, 508, 509, 510, 458, 459, 460, 461, 113, 114, 479, 480, 481, 482, 487, 488, 489, 490, 403, 404, 405, 406, 115, 116, 625, 626, 627, 628, 629, 630, 631, 632, 633, 634, 635, 636, 637, 638, 639, 640] (by decide +kernel) (by decide +kernel)
set_option maxRecDepth 20000 in
theorem gL_law_X4_borne : GoodIn wsL_law (wsV RL 154 RX4 yX4_borne wsX4_borne) := goodIn_app (goodIn_of _ (by decide +kernel)) ggL_law_X4_borne
set_option maxRecDepth 20000 in
theorem ggL_law_L_settlement : GoodIn wsL_law wsL_settlement := goodIn_ca (goodIn_r _ [579, 298, 580, 581, 582, 2, 583, 303, 304, 305, 306, 307, 308, 17, 309, 135, 136, 137, 15, 138, 51, 139, 140, 141, 142, 143, 144, 145, 146, 147, 148, 149, 150, 151, 152, 153, 154, 25, 584, 585, 586, 274, 587, 588, 440, 441, 442, 285, 443, 444, 445, 446, 287, 280, 447, 448, 449, 422, 202, 203, 20, 204, 39, 205, 92, 66, 93, 41, 206, 65, 67, 42, 43, 44, 207, 589, 560, 561, 562, 563, 564, 565, 566, 473, 311, 312, 313, 282, 281, 567, 419, 420, 421, 568, 499, 500, 501, 502, 470, 471, 472, 474, 395, 396, 397, 345, 398, 623, 624, 641, 642, 643, 649, 650, 651, 652, 653, 654, 655, 656, 657, 658, 659, 644, 645, 646, 647, 648] (by decide +kernel) (by decide +kernel)) (goodIn_sub (fun _ h => List.mem_append_right _ h) (by decide +kernel))
set_option maxRecDepth 20000 in
theorem gL_law_L_settlement : GoodIn wsL_law (va_wsS RL 155 yL_settlement wsL_settlement) := goodIn_app (goodIn_of _ (by decide +kernel)) ggL_law_L_settlement
set_option maxRecDepth 20000 in
theorem ggL_law_X4_settlement : GoodIn wsL_law wsX4_settlement := goodIn_r _ [593, 318, 319, 320, 5, 321, 294, 167, 171, 172, 173, 454, 455, 456, 457, 106, 458, 459, 460, 461, 108, 113, 114, 213, 214, 215, 216, 103, 104, 105, 217, 573, 574, 575, 576, 427, 428, 429, 430, 431, 483, 484, 485, 486, 110, 109, 507, 508, 509, 510, 479, 480, 481, 482, 487, 488, 489, 490, 403, 404, 405, 406, 115, 116, 625, 626, 627, 628, 629, 630, 631, 632, 633, 634, 635, 636, 637, 638, 639, 640] (by decide +kernel) (by decide +kernel)
set_option maxRecDepth 20000 in
theorem gL_law_X4_settlement : GoodIn wsL_law (wsV RL 157 RX4 yX4_settlement wsX4_settlement) := goodIn_app (goodIn_of _ (by decide +kernel)) ggL_law_X4_settlement
set_option maxRecDepth 20000 in
theorem ggL_law_L_cost : GoodIn wsL_law wsL_cost := goodIn_ca (goodIn_r _ [596, 298, 597, 598, 599, 2, 600, 303, 304, 305, 306, 307, 308, 17, 309, 135, 136, 137, 15, 138, 51, 139, 140, 141, 142, 143, 144, 145, 146, 147, 148, 149, 150, 151, 152, 153, 154, 25, 601, 602, 603, 274, 604, 605, 543, 544, 545, 286, 546, 519, 520, 521, 287, 280, 447, 473, 311, 312, 313, 282, 281, 522, 523, 524, 525, 283, 526, 342, 343, 344, 284, 345, 92, 66, 93, 448, 449, 474, 395, 396, 397, 398, 65, 67, 547, 230, 231, 20, 232, 233, 234, 235, 236, 202, 203, 204, 39, 205, 41, 206, 42, 43, 44, 207, 563, 564, 565, 566, 567, 419, 420, 421, 285, 422, 606, 585, 586, 587, 588, 440, 441, 442, 443, 444, 445, 446, 589, 560, 561, 562, 568, 499, 500, 501, 502, 470, 471, 472, 623, 624, 641, 642, 643, 649, 650, 651, 652, 653, 654, 655, 656, 657, 658, 659, 644, 645, 646, 647, 648] (by decide +kernel) (by decide +kernel)) (goodIn_sub (fun _ h => List.mem_append_right _ h) (by decide +kernel))
set_option maxRecDepth 20000 in
theorem gL_law_L_cost : GoodIn wsL_law (va_wsS RL 158 yL_cost wsL_cost) := goodIn_app (goodIn_of _ (by decide +kernel)) ggL_law_L_cost
set_option maxRecDepth 20000 in
theorem ggL_law_X4_cost : GoodIn wsL_law wsX4_cost := goodIn_r _ [610, 318, 319, 320, 5, 321, 294, 167, 171, 172, 173, 611, 612, 613, 614, 107, 111, 531, 532, 533, 534, 108, 483, 484, 485, 486, 110, 109, 487, 488, 489, 490, 113, 403, 404, 405, 406, 115, 116, 114, 351, 352, 353, 354, 112, 241, 242, 243, 244, 245, 213, 214, 215, 216, 103, 104, 105, 217, 427, 428, 429, 430, 106, 431, 454, 455, 456, 457, 458, 459, 460, 461, 573, 574, 575, 576, 507, 508, 509, 510, 479, 480, 481, 482, 625, 626, 627, 628, 629, 630, 631, 632, 633, 634, 635, 636, 637, 638, 639, 640] (by decide +kernel) (by decide +kernel)
set_option maxRecDepth 20000 in
theorem gL_law_X4_cost : GoodIn wsL_law (wsV RL 160 RX4 yX4_cost wsX4_cost) := goodIn_app (goodIn_of _ (by decide +kernel)) ggL_law_X4_cost
set_option maxRecDepth 20000 in
theorem ggL_law_X3_dearest : GoodIn wsL_law wsX3_dearest := goodIn_r _ [618, 17, 309, 135, 136, 137, 15, 138, 51, 139, 140, 141, 142, 143, 144, 145, 146, 147, 148, 149, 150, 151, 152, 153, 154, 25, 601, 602, 603, 274, 604, 605, 543, 544, 545, 286, 546, 519, 520, 521, 287, 280, 447, 473, 311, 312, 313, 282, 281, 522, 523, 524, 525, 283, 526, 342, 343, 344, 284, 345, 92, 66, 93, 448, 449, 474, 395, 396, 397, 398, 65, 67, 547, 230, 231, 20, 232, 233, 234, 235, 236, 202, 203, 204, 39, 205, 41, 206, 42, 43, 44, 207, 563, 564, 565, 566, 567, 419, 420, 421, 285, 422, 606, 585, 586, 587, 588, 440, 441, 442, 443, 444, 445, 446, 589, 560, 561, 562, 568, 499, 500, 501, 502, 470, 471, 472, 623, 624, 641, 642, 643, 649, 650, 651, 652, 653, 654, 655, 656, 657, 658, 659, 644, 645, 646, 647, 648] (by decide +kernel) (by decide +kernel)
set_option maxRecDepth 20000 in
theorem gL_law_X3_dearest : GoodIn wsL_law (wsV RL 161 RX3 yX3_dearest wsX3_dearest) := goodIn_app (goodIn_of _ (by decide +kernel)) ggL_law_X3_dearest
set_option maxRecDepth 20000 in
theorem ggL_law_X4_dearest : GoodIn wsL_law wsX4_dearest := goodIn_r _ [622, 167, 294, 611, 612, 613, 5, 614, 107, 111, 531, 532, 533, 534, 108, 483, 484, 485, 486, 110, 109, 487, 488, 489, 490, 113, 403, 404, 405, 406, 115, 116, 114, 351, 352, 353, 354, 112, 241, 242, 243, 244, 245, 213, 214, 215, 216, 103, 104, 105, 217, 427, 428, 429, 430, 106, 431, 454, 455, 456, 457, 458, 459, 460, 461, 573, 574, 575, 576, 507, 508, 509, 510, 479, 480, 481, 482, 625, 626, 627, 628, 629, 630, 631, 632, 633, 634, 635, 636, 637, 638, 639, 640] (by decide +kernel) (by decide +kernel)
set_option maxRecDepth 20000 in
theorem gL_law_X4_dearest : GoodIn wsL_law (wsV RL 164 RX4 yX4_dearest wsX4_dearest) := goodIn_app (goodIn_of _ (by decide +kernel)) ggL_law_X4_dearest
theorem dL_law_0 : decode cL_law 0 = .ok (.new 8, 3) := by decide +kernel
theorem dL_law_3 : decode cL_law 3 = .ok (.dup, 1) := by decide +kernel
theorem dL_law_4 : decode cL_law 4 = .ok (.invokespecial 81, 3) := by decide +kernel
theorem dL_law_7 : decode cL_law 7 = .ok (.astore_n 1, 1) := by decide +kernel
theorem dL_law_8 : decode cL_law 8 = .ok (.new 82, 3) := by decide +kernel
theorem dL_law_11 : decode cL_law 11 = .ok (.dup, 1) := by decide +kernel
theorem dL_law_12 : decode cL_law 12 = .ok (.invokespecial 84, 3) := by decide +kernel
theorem dL_law_15 : decode cL_law 15 = .ok (.astore_n 2, 1) := by decide +kernel
theorem dL_law_16 : decode cL_law 16 = .ok (.iconst 1, 1) := by decide +kernel
theorem dL_law_17 : decode cL_law 17 = .ok (.newarray .long, 2) := by decide +kernel
theorem dL_law_19 : decode cL_law 19 = .ok (.astore_n 3, 1) := by decide +kernel
theorem dL_law_20 : decode cL_law 20 = .ok (.iconst 0, 1) := by decide +kernel
theorem dL_law_21 : decode cL_law 21 = .ok (.istore 4, 2) := by decide +kernel
theorem dL_law_23 : decode cL_law 23 = .ok (.iload 4, 2) := by decide +kernel
theorem dL_law_25 : decode cL_law 25 = .ok (.aload_n 0, 1) := by decide +kernel
theorem dL_law_26 : decode cL_law 26 = .ok (.arraylength, 1) := by decide +kernel
theorem dL_law_27 : decode cL_law 27 = .ok (.iconst 5, 1) := by decide +kernel
theorem dL_law_28 : decode cL_law 28 = .ok (.isub, 1) := by decide +kernel
theorem dL_law_29 : decode cL_law 29 = .ok (.if_icmp .gt 1463, 3) := by decide +kernel
theorem dL_law_32 : decode cL_law 32 = .ok (.aload_n 0, 1) := by decide +kernel
theorem dL_law_33 : decode cL_law 33 = .ok (.iload 4, 2) := by decide +kernel
theorem dL_law_35 : decode cL_law 35 = .ok (.iaload, 1) := by decide +kernel
theorem dL_law_36 : decode cL_law 36 = .ok (.bipush 31, 2) := by decide +kernel
theorem dL_law_38 : decode cL_law 38 = .ok (.iand, 1) := by decide +kernel
theorem dL_law_39 : decode cL_law 39 = .ok (.tableswitch 1447 0 21 #[101, 161, 233, 301, 369, 437, 517, 597, 665, 745, 837, 850, 918, 986, 1042, 1098, 1154, 1210, 1266, 1322, 1378, 1434], 101) := by decide +kernel
theorem dL_law_140 : decode cL_law 140 = .ok (.aload_n 1, 1) := by decide +kernel
