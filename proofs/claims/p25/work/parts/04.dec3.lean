theorem dX3_landAt_0 : decode cX3_landAt 0 = .ok (.iload_n 1, 1) := by decide +kernel
theorem dX3_landAt_1 : decode cX3_landAt 1 = .ok (.ifCond .lt 16, 3) := by decide +kernel
theorem dX3_landAt_4 : decode cX3_landAt 4 = .ok (.iload_n 1, 1) := by decide +kernel
theorem dX3_landAt_5 : decode cX3_landAt 5 = .ok (.aload_n 0, 1) := by decide +kernel
theorem dX3_landAt_6 : decode cX3_landAt 6 = .ok (.getfield 10, 3) := by decide +kernel
theorem dX3_landAt_9 : decode cX3_landAt 9 = .ok (.invokeinterface 63 1, 5) := by decide +kernel
theorem dX3_landAt_14 : decode cX3_landAt 14 = .ok (.if_icmp .lt 13, 3) := by decide +kernel
theorem dX3_landAt_17 : decode cX3_landAt 17 = .ok (.new 55, 3) := by decide +kernel
theorem dX3_landAt_20 : decode cX3_landAt 20 = .ok (.dup, 1) := by decide +kernel
theorem dX3_landAt_21 : decode cX3_landAt 21 = .ok (.ldc 158, 2) := by decide +kernel
theorem dX3_landAt_23 : decode cX3_landAt 23 = .ok (.invokespecial 59, 3) := by decide +kernel
theorem dX3_landAt_26 : decode cX3_landAt 26 = .ok (.athrow, 1) := by decide +kernel
theorem dX3_landAt_27 : decode cX3_landAt 27 = .ok (.aload_n 0, 1) := by decide +kernel
theorem dX3_landAt_28 : decode cX3_landAt 28 = .ok (.getfield 10, 3) := by decide +kernel
theorem dX3_landAt_31 : decode cX3_landAt 31 = .ok (.iload_n 1, 1) := by decide +kernel
theorem dX3_landAt_32 : decode cX3_landAt 32 = .ok (.invokeinterface 119 2, 5) := by decide +kernel
theorem dX3_landAt_37 : decode cX3_landAt 37 = .ok (.checkcast 19, 3) := by decide +kernel
theorem dX3_landAt_40 : decode cX3_landAt 40 = .ok (.areturn, 1) := by decide +kernel
set_option maxRecDepth 20000 in
theorem ggX3_personAt_Jx4a65c_size_8abf5 : GoodIn wsX3_personAt wsJx4a65c_size_8abf5 := goodIn_r _ [9, 10, 30, 31, 32] (by decide +kernel) (by decide +kernel)
set_option maxRecDepth 20000 in
theorem gX3_personAt_Jx4a65c_size_8abf5_f63Jx4a65c : GoodIn wsX3_personAt (va_wsF RX3 63 RJx4a65c ⟨"java/util/List", "size", "()I"⟩ yJx4a65c_size_8abf5 wsJx4a65c_size_8abf5) := goodIn_app (goodIn_of _ (by decide +kernel)) ggX3_personAt_Jx4a65c_size_8abf5
set_option maxRecDepth 20000 in
theorem ggX3_personAt_Jx4a65c_get_915e3 : GoodIn wsX3_personAt wsJx4a65c_get_915e3 := goodIn_r _ [14, 10, 15, 16, 17, 18, 19, 20, 21, 22, 23, 24, 25, 8, 26, 27, 30, 31, 32] (by decide +kernel) (by decide +kernel)
set_option maxRecDepth 20000 in
theorem gX3_personAt_Jx4a65c_get_915e3_f119Jx4a65c : GoodIn wsX3_personAt (va_wsF RX3 119 RJx4a65c ⟨"java/util/List", "get", "(I)Ljava/lang/Object;"⟩ yJx4a65c_get_915e3 wsJx4a65c_get_915e3) := goodIn_app (goodIn_of _ (by decide +kernel)) ggX3_personAt_Jx4a65c_get_915e3
theorem dX3_personAt_0 : decode cX3_personAt 0 = .ok (.iload_n 1, 1) := by decide +kernel
theorem dX3_personAt_1 : decode cX3_personAt 1 = .ok (.ifCond .lt 16, 3) := by decide +kernel
theorem dX3_personAt_4 : decode cX3_personAt 4 = .ok (.iload_n 1, 1) := by decide +kernel
theorem dX3_personAt_5 : decode cX3_personAt 5 = .ok (.aload_n 0, 1) := by decide +kernel
theorem dX3_personAt_6 : decode cX3_personAt 6 = .ok (.getfield 16, 3) := by decide +kernel
theorem dX3_personAt_9 : decode cX3_personAt 9 = .ok (.invokeinterface 63 1, 5) := by decide +kernel
theorem dX3_personAt_14 : decode cX3_personAt 14 = .ok (.if_icmp .lt 13, 3) := by decide +kernel
theorem dX3_personAt_17 : decode cX3_personAt 17 = .ok (.new 114, 3) := by decide +kernel
theorem dX3_personAt_20 : decode cX3_personAt 20 = .ok (.dup, 1) := by decide +kernel
theorem dX3_personAt_21 : decode cX3_personAt 21 = .ok (.ldc 160, 2) := by decide +kernel
theorem dX3_personAt_23 : decode cX3_personAt 23 = .ok (.invokespecial 118, 3) := by decide +kernel
theorem dX3_personAt_26 : decode cX3_personAt 26 = .ok (.athrow, 1) := by decide +kernel
theorem dX3_personAt_27 : decode cX3_personAt 27 = .ok (.aload_n 0, 1) := by decide +kernel
theorem dX3_personAt_28 : decode cX3_personAt 28 = .ok (.getfield 16, 3) := by decide +kernel
theorem dX3_personAt_31 : decode cX3_personAt 31 = .ok (.iload_n 1, 1) := by decide +kernel
theorem dX3_personAt_32 : decode cX3_personAt 32 = .ok (.invokeinterface 119 2, 5) := by decide +kernel
theorem dX3_personAt_37 : decode cX3_personAt 37 = .ok (.checkcast 72, 3) := by decide +kernel
theorem dX3_personAt_40 : decode cX3_personAt 40 = .ok (.areturn, 1) := by decide +kernel
theorem dX3_requireRange_0 : decode cX3_requireRange 0 = .ok (.iload_n 0, 1) := by decide +kernel
theorem dX3_requireRange_1 : decode cX3_requireRange 1 = .ok (.iload_n 1, 1) := by decide +kernel
theorem dX3_requireRange_2 : decode cX3_requireRange 2 = .ok (.if_icmp .lt 8, 3) := by decide +kernel
theorem dX3_requireRange_5 : decode cX3_requireRange 5 = .ok (.iload_n 0, 1) := by decide +kernel
theorem dX3_requireRange_6 : decode cX3_requireRange 6 = .ok (.iload_n 2, 1) := by decide +kernel
theorem dX3_requireRange_7 : decode cX3_requireRange 7 = .ok (.if_icmp .le 13, 3) := by decide +kernel
theorem dX3_requireRange_10 : decode cX3_requireRange 10 = .ok (.new 55, 3) := by decide +kernel
theorem dX3_requireRange_13 : decode cX3_requireRange 13 = .ok (.dup, 1) := by decide +kernel
theorem dX3_requireRange_14 : decode cX3_requireRange 14 = .ok (.ldc 162, 2) := by decide +kernel
theorem dX3_requireRange_16 : decode cX3_requireRange 16 = .ok (.invokespecial 59, 3) := by decide +kernel
theorem dX3_requireRange_19 : decode cX3_requireRange 19 = .ok (.athrow, 1) := by decide +kernel
theorem dX3_requireRange_20 : decode cX3_requireRange 20 = .ok (.return_, 1) := by decide +kernel
theorem dJ9_max_7cf53_0 : decode cJ9_max_7cf53 0 = .ok (.iload_n 0, 1) := by decide +kernel
theorem dJ9_max_7cf53_1 : decode cJ9_max_7cf53 1 = .ok (.iload_n 1, 1) := by decide +kernel
theorem dJ9_max_7cf53_2 : decode cJ9_max_7cf53 2 = .ok (.if_icmp .lt 7, 3) := by decide +kernel
theorem dJ9_max_7cf53_5 : decode cJ9_max_7cf53 5 = .ok (.iload_n 0, 1) := by decide +kernel
theorem dJ9_max_7cf53_6 : decode cJ9_max_7cf53 6 = .ok (.goto 4, 3) := by decide +kernel
theorem dJ9_max_7cf53_9 : decode cJ9_max_7cf53 9 = .ok (.iload_n 1, 1) := by decide +kernel
theorem dJ9_max_7cf53_10 : decode cJ9_max_7cf53 10 = .ok (.ireturn, 1) := by decide +kernel
theorem dJ9_min_7cf53_0 : decode cJ9_min_7cf53 0 = .ok (.iload_n 0, 1) := by decide +kernel
theorem dJ9_min_7cf53_1 : decode cJ9_min_7cf53 1 = .ok (.iload_n 1, 1) := by decide +kernel
theorem dJ9_min_7cf53_2 : decode cJ9_min_7cf53 2 = .ok (.if_icmp .gt 7, 3) := by decide +kernel
theorem dJ9_min_7cf53_5 : decode cJ9_min_7cf53 5 = .ok (.iload_n 0, 1) := by decide +kernel
theorem dJ9_min_7cf53_6 : decode cJ9_min_7cf53 6 = .ok (.goto 4, 3) := by decide +kernel
theorem dJ9_min_7cf53_9 : decode cJ9_min_7cf53 9 = .ok (.iload_n 1, 1) := by decide +kernel
theorem dJ9_min_7cf53_10 : decode cJ9_min_7cf53 10 = .ok (.ireturn, 1) := by decide +kernel
theorem dJxa1e45_init_da8c8_0 : decode cJxa1e45_init_da8c8 0 = .ok (.aload_n 0, 1) := by decide +kernel
theorem dJxa1e45_init_da8c8_1 : decode cJxa1e45_init_da8c8 1 = .ok (.invokespecial 1, 3) := by decide +kernel
theorem dJxa1e45_init_da8c8_4 : decode cJxa1e45_init_da8c8 4 = .ok (.return_, 1) := by decide +kernel
set_option maxRecDepth 20000 in
theorem ggJxc12de_init_da8c8_Jxa1e45_init_da8c8 : GoodIn wsJxc12de_init_da8c8 wsJxa1e45_init_da8c8 := goodIn_r _ [5, 6, 7, 8] (by decide +kernel) (by decide +kernel)
set_option maxRecDepth 20000 in
theorem gJxc12de_init_da8c8_Jxa1e45_init_da8c8 : GoodIn wsJxc12de_init_da8c8 (wsJxa1e45_init_da8c8) := ggJxc12de_init_da8c8_Jxa1e45_init_da8c8
theorem dJxc12de_init_da8c8_0 : decode cJxc12de_init_da8c8 0 = .ok (.aload_n 0, 1) := by decide +kernel
theorem dJxc12de_init_da8c8_1 : decode cJxc12de_init_da8c8 1 = .ok (.invokespecial 1, 3) := by decide +kernel
theorem dJxc12de_init_da8c8_4 : decode cJxc12de_init_da8c8 4 = .ok (.aload_n 0, 1) := by decide +kernel
theorem dJxc12de_init_da8c8_5 : decode cJxc12de_init_da8c8 5 = .ok (.iconst 0, 1) := by decide +kernel
theorem dJxc12de_init_da8c8_6 : decode cJxc12de_init_da8c8 6 = .ok (.putfield 7, 3) := by decide +kernel
theorem dJxc12de_init_da8c8_9 : decode cJxc12de_init_da8c8 9 = .ok (.return_, 1) := by decide +kernel
set_option maxRecDepth 20000 in
theorem ggJx4a65c_init_da8c8_Jxc12de_init_da8c8 : GoodIn wsJx4a65c_init_da8c8 wsJxc12de_init_da8c8 := goodIn_r _ [6, 7, 8, 9, 10, 11, 12, 13, 14, 15, 16, 17] (by decide +kernel) (by decide +kernel)
set_option maxRecDepth 20000 in
theorem gJx4a65c_init_da8c8_Jxc12de_init_da8c8 : GoodIn wsJx4a65c_init_da8c8 (wsJxc12de_init_da8c8) := ggJx4a65c_init_da8c8_Jxc12de_init_da8c8
theorem dJx4a65c_init_da8c8_0 : decode cJx4a65c_init_da8c8 0 = .ok (.aload_n 0, 1) := by decide +kernel
theorem dJx4a65c_init_da8c8_1 : decode cJx4a65c_init_da8c8 1 = .ok (.invokespecial 1, 3) := by decide +kernel
theorem dJx4a65c_init_da8c8_4 : decode cJx4a65c_init_da8c8 4 = .ok (.aload_n 0, 1) := by decide +kernel
theorem dJx4a65c_init_da8c8_5 : decode cJx4a65c_init_da8c8 5 = .ok (.getstatic 39, 3) := by decide +kernel
theorem dJx4a65c_init_da8c8_8 : decode cJx4a65c_init_da8c8 8 = .ok (.putfield 9, 3) := by decide +kernel
theorem dJx4a65c_init_da8c8_11 : decode cJx4a65c_init_da8c8 11 = .ok (.return_, 1) := by decide +kernel
set_option maxRecDepth 20000 in
theorem ggJx4a65c_grow_92f84_J8_newLength_cabcc : GoodIn wsJx4a65c_grow_92f84 wsJ8_newLength_cabcc := goodIn_r _ [11, 12, 4, 5, 6, 13, 14, 15, 10, 16] (by decide +kernel) (by decide +kernel)
set_option maxRecDepth 20000 in
theorem gJx4a65c_grow_92f84_J8_newLength_cabcc : GoodIn wsJx4a65c_grow_92f84 (va_wsS RJx4a65c 73 yJ8_newLength_cabcc wsJ8_newLength_cabcc) := goodIn_app (goodIn_of _ (by decide +kernel)) ggJx4a65c_grow_92f84_J8_newLength_cabcc
set_option maxRecDepth 20000 in
theorem ggJx4a65c_grow_92f84_J7_copyOf_1904c : GoodIn wsJx4a65c_grow_92f84 wsJ7_copyOf_1904c := goodIn_r _ [20, 21, 22, 23, 24, 25, 26, 19, 27, 28, 29, 30, 31, 5, 32, 33, 34, 35, 36] (by decide +kernel) (by decide +kernel)
set_option maxRecDepth 20000 in
theorem gJx4a65c_grow_92f84_J7_copyOf_1904c : GoodIn wsJx4a65c_grow_92f84 (va_wsS RJx4a65c 66 yJ7_copyOf_1904c wsJ7_copyOf_1904c) := goodIn_app (goodIn_of _ (by decide +kernel)) ggJx4a65c_grow_92f84_J7_copyOf_1904c
theorem dJx4a65c_grow_92f84_0 : decode cJx4a65c_grow_92f84 0 = .ok (.aload_n 0, 1) := by decide +kernel
theorem dJx4a65c_grow_92f84_1 : decode cJx4a65c_grow_92f84 1 = .ok (.getfield 9, 3) := by decide +kernel
theorem dJx4a65c_grow_92f84_4 : decode cJx4a65c_grow_92f84 4 = .ok (.arraylength, 1) := by decide +kernel
theorem dJx4a65c_grow_92f84_5 : decode cJx4a65c_grow_92f84 5 = .ok (.istore_n 2, 1) := by decide +kernel
theorem dJx4a65c_grow_92f84_6 : decode cJx4a65c_grow_92f84 6 = .ok (.iload_n 2, 1) := by decide +kernel
theorem dJx4a65c_grow_92f84_7 : decode cJx4a65c_grow_92f84 7 = .ok (.ifCond .gt 13, 3) := by decide +kernel
theorem dJx4a65c_grow_92f84_10 : decode cJx4a65c_grow_92f84 10 = .ok (.aload_n 0, 1) := by decide +kernel
theorem dJx4a65c_grow_92f84_11 : decode cJx4a65c_grow_92f84 11 = .ok (.getfield 9, 3) := by decide +kernel
theorem dJx4a65c_grow_92f84_14 : decode cJx4a65c_grow_92f84 14 = .ok (.getstatic 39, 3) := by decide +kernel
theorem dJx4a65c_grow_92f84_17 : decode cJx4a65c_grow_92f84 17 = .ok (.if_acmp .eq 28, 3) := by decide +kernel
theorem dJx4a65c_grow_92f84_20 : decode cJx4a65c_grow_92f84 20 = .ok (.iload_n 2, 1) := by decide +kernel
theorem dJx4a65c_grow_92f84_21 : decode cJx4a65c_grow_92f84 21 = .ok (.iload_n 1, 1) := by decide +kernel
theorem dJx4a65c_grow_92f84_22 : decode cJx4a65c_grow_92f84 22 = .ok (.iload_n 2, 1) := by decide +kernel
theorem dJx4a65c_grow_92f84_23 : decode cJx4a65c_grow_92f84 23 = .ok (.isub, 1) := by decide +kernel
theorem dJx4a65c_grow_92f84_24 : decode cJx4a65c_grow_92f84 24 = .ok (.iload_n 2, 1) := by decide +kernel
theorem dJx4a65c_grow_92f84_25 : decode cJx4a65c_grow_92f84 25 = .ok (.iconst 1, 1) := by decide +kernel
theorem dJx4a65c_grow_92f84_26 : decode cJx4a65c_grow_92f84 26 = .ok (.ishr, 1) := by decide +kernel
theorem dJx4a65c_grow_92f84_27 : decode cJx4a65c_grow_92f84 27 = .ok (.invokestatic 73, 3) := by decide +kernel
theorem dJx4a65c_grow_92f84_30 : decode cJx4a65c_grow_92f84 30 = .ok (.istore_n 3, 1) := by decide +kernel
theorem dJx4a65c_grow_92f84_31 : decode cJx4a65c_grow_92f84 31 = .ok (.aload_n 0, 1) := by decide +kernel
theorem dJx4a65c_grow_92f84_32 : decode cJx4a65c_grow_92f84 32 = .ok (.aload_n 0, 1) := by decide +kernel
theorem dJx4a65c_grow_92f84_33 : decode cJx4a65c_grow_92f84 33 = .ok (.getfield 9, 3) := by decide +kernel
theorem dJx4a65c_grow_92f84_36 : decode cJx4a65c_grow_92f84 36 = .ok (.iload_n 3, 1) := by decide +kernel
theorem dJx4a65c_grow_92f84_37 : decode cJx4a65c_grow_92f84 37 = .ok (.invokestatic 66, 3) := by decide +kernel
theorem dJx4a65c_grow_92f84_40 : decode cJx4a65c_grow_92f84 40 = .ok (.dup_x1, 1) := by decide +kernel
theorem dJx4a65c_grow_92f84_41 : decode cJx4a65c_grow_92f84 41 = .ok (.putfield 9, 3) := by decide +kernel
theorem dJx4a65c_grow_92f84_44 : decode cJx4a65c_grow_92f84 44 = .ok (.areturn, 1) := by decide +kernel
theorem dJx4a65c_grow_92f84_45 : decode cJx4a65c_grow_92f84 45 = .ok (.aload_n 0, 1) := by decide +kernel
theorem dJx4a65c_grow_92f84_46 : decode cJx4a65c_grow_92f84 46 = .ok (.bipush 10, 2) := by decide +kernel
theorem dJx4a65c_grow_92f84_48 : decode cJx4a65c_grow_92f84 48 = .ok (.iload_n 1, 1) := by decide +kernel
theorem dJx4a65c_grow_92f84_49 : decode cJx4a65c_grow_92f84 49 = .ok (.invokestatic 79, 3) := by decide +kernel
theorem dJx4a65c_grow_92f84_52 : decode cJx4a65c_grow_92f84 52 = .ok (.anewarray 7, 3) := by decide +kernel
theorem dJx4a65c_grow_92f84_55 : decode cJx4a65c_grow_92f84 55 = .ok (.dup_x1, 1) := by decide +kernel
theorem dJx4a65c_grow_92f84_56 : decode cJx4a65c_grow_92f84 56 = .ok (.putfield 9, 3) := by decide +kernel
theorem dJx4a65c_grow_92f84_59 : decode cJx4a65c_grow_92f84 59 = .ok (.areturn, 1) := by decide +kernel
set_option maxRecDepth 20000 in
theorem ggJx4a65c_grow_d5877_Jx4a65c_grow_92f84 : GoodIn wsJx4a65c_grow_d5877 wsJx4a65c_grow_92f84 := goodIn_r _ [6, 7, 8, 9, 10, 11, 12, 13, 14, 15, 16, 17, 18, 19, 20, 21, 22, 23, 24, 25, 26, 27, 28, 29, 30, 31, 32, 33, 34, 35, 36, 37, 38, 39, 40, 41, 42, 43, 44, 45] (by decide +kernel) (by decide +kernel)
set_option maxRecDepth 20000 in
theorem gJx4a65c_grow_d5877_Jx4a65c_grow_92f84 : GoodIn wsJx4a65c_grow_d5877 (wsV RJx4a65c 69 RJx4a65c yJx4a65c_grow_92f84 wsJx4a65c_grow_92f84) := goodIn_app (goodIn_of _ (by decide +kernel)) ggJx4a65c_grow_d5877_Jx4a65c_grow_92f84
theorem dJx4a65c_grow_d5877_0 : decode cJx4a65c_grow_d5877 0 = .ok (.aload_n 0, 1) := by decide +kernel
theorem dJx4a65c_grow_d5877_1 : decode cJx4a65c_grow_d5877 1 = .ok (.aload_n 0, 1) := by decide +kernel
theorem dJx4a65c_grow_d5877_2 : decode cJx4a65c_grow_d5877 2 = .ok (.getfield 48, 3) := by decide +kernel
theorem dJx4a65c_grow_d5877_5 : decode cJx4a65c_grow_d5877 5 = .ok (.iconst 1, 1) := by decide +kernel
theorem dJx4a65c_grow_d5877_6 : decode cJx4a65c_grow_d5877 6 = .ok (.iadd, 1) := by decide +kernel
theorem dJx4a65c_grow_d5877_7 : decode cJx4a65c_grow_d5877 7 = .ok (.invokevirtual 69, 3) := by decide +kernel
theorem dJx4a65c_grow_d5877_10 : decode cJx4a65c_grow_d5877 10 = .ok (.areturn, 1) := by decide +kernel
theorem dJx4a65c_size_8abf5_0 : decode cJx4a65c_size_8abf5 0 = .ok (.aload_n 0, 1) := by decide +kernel
theorem dJx4a65c_size_8abf5_1 : decode cJx4a65c_size_8abf5 1 = .ok (.getfield 48, 3) := by decide +kernel
theorem dJx4a65c_size_8abf5_4 : decode cJx4a65c_size_8abf5 4 = .ok (.ireturn, 1) := by decide +kernel
theorem dJx4a65c_elementData_915e3_0 : decode cJx4a65c_elementData_915e3 0 = .ok (.aload_n 0, 1) := by decide +kernel
theorem dJx4a65c_elementData_915e3_1 : decode cJx4a65c_elementData_915e3 1 = .ok (.getfield 9, 3) := by decide +kernel
theorem dJx4a65c_elementData_915e3_4 : decode cJx4a65c_elementData_915e3 4 = .ok (.iload_n 1, 1) := by decide +kernel
theorem dJx4a65c_elementData_915e3_5 : decode cJx4a65c_elementData_915e3 5 = .ok (.aaload, 1) := by decide +kernel
theorem dJx4a65c_elementData_915e3_6 : decode cJx4a65c_elementData_915e3 6 = .ok (.areturn, 1) := by decide +kernel
set_option maxRecDepth 20000 in
theorem ggJx4a65c_get_915e3_J15_checkIndex_7cf53 : GoodIn wsJx4a65c_get_915e3 wsJ15_checkIndex_7cf53 := goodIn_r _ [5, 6, 7, 8, 9] (by decide +kernel) (by decide +kernel)
set_option maxRecDepth 20000 in
theorem gJx4a65c_get_915e3_J15_checkIndex_7cf53 : GoodIn wsJx4a65c_get_915e3 (va_wsS RJx4a65c 118 yJ15_checkIndex_7cf53 wsJ15_checkIndex_7cf53) := goodIn_app (goodIn_of _ (by decide +kernel)) ggJx4a65c_get_915e3_J15_checkIndex_7cf53
set_option maxRecDepth 20000 in
theorem ggJx4a65c_get_915e3_Jx4a65c_elementData_915e3 : GoodIn wsJx4a65c_get_915e3 wsJx4a65c_elementData_915e3 := goodIn_r _ [14, 15, 16, 17, 18] (by decide +kernel) (by decide +kernel)
set_option maxRecDepth 20000 in
theorem gJx4a65c_get_915e3_Jx4a65c_elementData_915e3 : GoodIn wsJx4a65c_get_915e3 (wsV RJx4a65c 123 RJx4a65c yJx4a65c_elementData_915e3 wsJx4a65c_elementData_915e3) := goodIn_app (goodIn_of _ (by decide +kernel)) ggJx4a65c_get_915e3_Jx4a65c_elementData_915e3
theorem dJx4a65c_get_915e3_0 : decode cJx4a65c_get_915e3 0 = .ok (.iload_n 1, 1) := by decide +kernel
theorem dJx4a65c_get_915e3_1 : decode cJx4a65c_get_915e3 1 = .ok (.aload_n 0, 1) := by decide +kernel
theorem dJx4a65c_get_915e3_2 : decode cJx4a65c_get_915e3 2 = .ok (.getfield 48, 3) := by decide +kernel
theorem dJx4a65c_get_915e3_5 : decode cJx4a65c_get_915e3 5 = .ok (.invokestatic 118, 3) := by decide +kernel
theorem dJx4a65c_get_915e3_8 : decode cJx4a65c_get_915e3 8 = .ok (.pop, 1) := by decide +kernel
theorem dJx4a65c_get_915e3_9 : decode cJx4a65c_get_915e3 9 = .ok (.aload_n 0, 1) := by decide +kernel
theorem dJx4a65c_get_915e3_10 : decode cJx4a65c_get_915e3 10 = .ok (.iload_n 1, 1) := by decide +kernel
theorem dJx4a65c_get_915e3_11 : decode cJx4a65c_get_915e3 11 = .ok (.invokevirtual 123, 3) := by decide +kernel
theorem dJx4a65c_get_915e3_14 : decode cJx4a65c_get_915e3 14 = .ok (.areturn, 1) := by decide +kernel
set_option maxRecDepth 20000 in
theorem ggJx4a65c_add_72be8_Jx4a65c_grow_d5877 : GoodIn wsJx4a65c_add_72be8 wsJx4a65c_grow_d5877 := goodIn_r _ [6, 1, 7, 8, 9, 5, 10, 11, 12, 13, 14, 15, 16, 17, 18, 19, 20, 21, 22, 23, 24, 25, 26, 27, 28, 29, 30, 31, 32, 33, 34, 35, 36, 37, 38, 39, 40, 41, 42, 43, 44, 45, 46, 47, 48, 49] (by decide +kernel) (by decide +kernel)
set_option maxRecDepth 20000 in
theorem gJx4a65c_add_72be8_Jx4a65c_grow_d5877 : GoodIn wsJx4a65c_add_72be8 (wsV RJx4a65c 129 RJx4a65c yJx4a65c_grow_d5877 wsJx4a65c_grow_d5877) := goodIn_app (goodIn_of _ (by decide +kernel)) ggJx4a65c_add_72be8_Jx4a65c_grow_d5877
theorem dJx4a65c_add_72be8_0 : decode cJx4a65c_add_72be8 0 = .ok (.iload_n 3, 1) := by decide +kernel
theorem dJx4a65c_add_72be8_1 : decode cJx4a65c_add_72be8 1 = .ok (.aload_n 2, 1) := by decide +kernel
theorem dJx4a65c_add_72be8_2 : decode cJx4a65c_add_72be8 2 = .ok (.arraylength, 1) := by decide +kernel
theorem dJx4a65c_add_72be8_3 : decode cJx4a65c_add_72be8 3 = .ok (.if_icmp .ne 8, 3) := by decide +kernel
theorem dJx4a65c_add_72be8_6 : decode cJx4a65c_add_72be8 6 = .ok (.aload_n 0, 1) := by decide +kernel
theorem dJx4a65c_add_72be8_7 : decode cJx4a65c_add_72be8 7 = .ok (.invokevirtual 129, 3) := by decide +kernel
theorem dJx4a65c_add_72be8_10 : decode cJx4a65c_add_72be8 10 = .ok (.astore_n 2, 1) := by decide +kernel
theorem dJx4a65c_add_72be8_11 : decode cJx4a65c_add_72be8 11 = .ok (.aload_n 2, 1) := by decide +kernel
theorem dJx4a65c_add_72be8_12 : decode cJx4a65c_add_72be8 12 = .ok (.iload_n 3, 1) := by decide +kernel
theorem dJx4a65c_add_72be8_13 : decode cJx4a65c_add_72be8 13 = .ok (.aload_n 1, 1) := by decide +kernel
theorem dJx4a65c_add_72be8_14 : decode cJx4a65c_add_72be8 14 = .ok (.aastore, 1) := by decide +kernel
theorem dJx4a65c_add_72be8_15 : decode cJx4a65c_add_72be8 15 = .ok (.aload_n 0, 1) := by decide +kernel
theorem dJx4a65c_add_72be8_16 : decode cJx4a65c_add_72be8 16 = .ok (.iload_n 3, 1) := by decide +kernel
theorem dJx4a65c_add_72be8_17 : decode cJx4a65c_add_72be8 17 = .ok (.iconst 1, 1) := by decide +kernel
theorem dJx4a65c_add_72be8_18 : decode cJx4a65c_add_72be8 18 = .ok (.iadd, 1) := by decide +kernel
theorem dJx4a65c_add_72be8_19 : decode cJx4a65c_add_72be8 19 = .ok (.putfield 48, 3) := by decide +kernel
theorem dJx4a65c_add_72be8_22 : decode cJx4a65c_add_72be8 22 = .ok (.return_, 1) := by decide +kernel
set_option maxRecDepth 20000 in
theorem ggJx4a65c_add_9ea2d_Jx4a65c_add_72be8 : GoodIn wsJx4a65c_add_9ea2d wsJx4a65c_add_72be8 := goodIn_r _ [9, 4, 10, 11, 12, 8, 13, 14, 15, 16, 17, 3, 18, 19, 20, 21, 22, 23, 24, 25, 26, 27, 28, 29, 30, 31, 32, 33, 34, 35, 36, 37, 38, 39, 40, 41, 42, 43, 44, 45, 46, 47, 48, 49, 50, 51, 52, 53, 54, 55] (by decide +kernel) (by decide +kernel)
set_option maxRecDepth 20000 in
theorem gJx4a65c_add_9ea2d_Jx4a65c_add_72be8 : GoodIn wsJx4a65c_add_9ea2d (wsV RJx4a65c 131 RJx4a65c yJx4a65c_add_72be8 wsJx4a65c_add_72be8) := goodIn_app (goodIn_of _ (by decide +kernel)) ggJx4a65c_add_9ea2d_Jx4a65c_add_72be8
theorem dJx4a65c_add_9ea2d_0 : decode cJx4a65c_add_9ea2d 0 = .ok (.aload_n 0, 1) := by decide +kernel
theorem dJx4a65c_add_9ea2d_1 : decode cJx4a65c_add_9ea2d 1 = .ok (.dup, 1) := by decide +kernel
theorem dJx4a65c_add_9ea2d_2 : decode cJx4a65c_add_9ea2d 2 = .ok (.getfield 63, 3) := by decide +kernel
theorem dJx4a65c_add_9ea2d_5 : decode cJx4a65c_add_9ea2d 5 = .ok (.iconst 1, 1) := by decide +kernel
theorem dJx4a65c_add_9ea2d_6 : decode cJx4a65c_add_9ea2d 6 = .ok (.iadd, 1) := by decide +kernel
theorem dJx4a65c_add_9ea2d_7 : decode cJx4a65c_add_9ea2d 7 = .ok (.putfield 63, 3) := by decide +kernel
theorem dJx4a65c_add_9ea2d_10 : decode cJx4a65c_add_9ea2d 10 = .ok (.aload_n 0, 1) := by decide +kernel
theorem dJx4a65c_add_9ea2d_11 : decode cJx4a65c_add_9ea2d 11 = .ok (.aload_n 1, 1) := by decide +kernel
theorem dJx4a65c_add_9ea2d_12 : decode cJx4a65c_add_9ea2d 12 = .ok (.aload_n 0, 1) := by decide +kernel
theorem dJx4a65c_add_9ea2d_13 : decode cJx4a65c_add_9ea2d 13 = .ok (.getfield 9, 3) := by decide +kernel
theorem dJx4a65c_add_9ea2d_16 : decode cJx4a65c_add_9ea2d 16 = .ok (.aload_n 0, 1) := by decide +kernel
theorem dJx4a65c_add_9ea2d_17 : decode cJx4a65c_add_9ea2d 17 = .ok (.getfield 48, 3) := by decide +kernel
theorem dJx4a65c_add_9ea2d_20 : decode cJx4a65c_add_9ea2d 20 = .ok (.invokevirtual 131, 3) := by decide +kernel
theorem dJx4a65c_add_9ea2d_23 : decode cJx4a65c_add_9ea2d 23 = .ok (.iconst 1, 1) := by decide +kernel
theorem dJx4a65c_add_9ea2d_24 : decode cJx4a65c_add_9ea2d 24 = .ok (.ireturn, 1) := by decide +kernel
set_option maxRecDepth 20000 in
theorem ggJ7_copyOf_1904c_J7_copyOf_6403c : GoodIn wsJ7_copyOf_1904c wsJ7_copyOf_6403c := goodIn_r _ [8, 9, 10, 11, 12, 13, 14, 15, 16, 17, 18] (by decide +kernel) (by decide +kernel)
set_option maxRecDepth 20000 in
theorem gJ7_copyOf_1904c_J7_copyOf_6403c : GoodIn wsJ7_copyOf_1904c (va_wsS RJ7 300 yJ7_copyOf_6403c wsJ7_copyOf_6403c) := goodIn_app (goodIn_of _ (by decide +kernel)) ggJ7_copyOf_1904c_J7_copyOf_6403c
theorem dJ7_copyOf_1904c_0 : decode cJ7_copyOf_1904c 0 = .ok (.aload_n 0, 1) := by decide +kernel
theorem dJ7_copyOf_1904c_1 : decode cJ7_copyOf_1904c 1 = .ok (.iload_n 1, 1) := by decide +kernel
theorem dJ7_copyOf_1904c_2 : decode cJ7_copyOf_1904c 2 = .ok (.aload_n 0, 1) := by decide +kernel
theorem dJ7_copyOf_1904c_3 : decode cJ7_copyOf_1904c 3 = .ok (.invokevirtual 86, 3) := by decide +kernel
theorem dJ7_copyOf_1904c_6 : decode cJ7_copyOf_1904c 6 = .ok (.invokestatic 300, 3) := by decide +kernel
theorem dJ7_copyOf_1904c_9 : decode cJ7_copyOf_1904c 9 = .ok (.areturn, 1) := by decide +kernel
theorem dJ7_copyOf_6403c_0 : decode cJ7_copyOf_6403c 0 = .ok (.aload_n 2, 1) := by decide +kernel
theorem dJ7_copyOf_6403c_1 : decode cJ7_copyOf_6403c 1 = .ok (.ldc 110, 2) := by decide +kernel
theorem dJ7_copyOf_6403c_3 : decode cJ7_copyOf_6403c 3 = .ok (.if_acmp .ne 10, 3) := by decide +kernel
theorem dJ7_copyOf_6403c_6 : decode cJ7_copyOf_6403c 6 = .ok (.iload_n 1, 1) := by decide +kernel
theorem dJ7_copyOf_6403c_7 : decode cJ7_copyOf_6403c 7 = .ok (.anewarray 2, 3) := by decide +kernel
theorem dJ7_copyOf_6403c_10 : decode cJ7_copyOf_6403c 10 = .ok (.goto 14, 3) := by decide +kernel
theorem dJ7_copyOf_6403c_13 : decode cJ7_copyOf_6403c 13 = .ok (.aload_n 2, 1) := by decide +kernel
theorem dJ7_copyOf_6403c_14 : decode cJ7_copyOf_6403c 14 = .ok (.invokevirtual 90, 3) := by decide +kernel
theorem dJ7_copyOf_6403c_17 : decode cJ7_copyOf_6403c 17 = .ok (.iload_n 1, 1) := by decide +kernel
theorem dJ7_copyOf_6403c_18 : decode cJ7_copyOf_6403c 18 = .ok (.invokestatic 95, 3) := by decide +kernel
theorem dJ7_copyOf_6403c_21 : decode cJ7_copyOf_6403c 21 = .ok (.checkcast 110, 3) := by decide +kernel
theorem dJ7_copyOf_6403c_24 : decode cJ7_copyOf_6403c 24 = .ok (.astore_n 3, 1) := by decide +kernel
theorem dJ7_copyOf_6403c_25 : decode cJ7_copyOf_6403c 25 = .ok (.aload_n 0, 1) := by decide +kernel
theorem dJ7_copyOf_6403c_26 : decode cJ7_copyOf_6403c 26 = .ok (.iconst 0, 1) := by decide +kernel
theorem dJ7_copyOf_6403c_27 : decode cJ7_copyOf_6403c 27 = .ok (.aload_n 3, 1) := by decide +kernel
theorem dJ7_copyOf_6403c_28 : decode cJ7_copyOf_6403c 28 = .ok (.iconst 0, 1) := by decide +kernel
theorem dJ7_copyOf_6403c_29 : decode cJ7_copyOf_6403c 29 = .ok (.aload_n 0, 1) := by decide +kernel
theorem dJ7_copyOf_6403c_30 : decode cJ7_copyOf_6403c 30 = .ok (.arraylength, 1) := by decide +kernel
theorem dJ7_copyOf_6403c_31 : decode cJ7_copyOf_6403c 31 = .ok (.iload_n 1, 1) := by decide +kernel
theorem dJ7_copyOf_6403c_32 : decode cJ7_copyOf_6403c 32 = .ok (.invokestatic 304, 3) := by decide +kernel
theorem dJ7_copyOf_6403c_35 : decode cJ7_copyOf_6403c 35 = .ok (.invokestatic 150, 3) := by decide +kernel
theorem dJ7_copyOf_6403c_38 : decode cJ7_copyOf_6403c 38 = .ok (.aload_n 3, 1) := by decide +kernel
theorem dJ7_copyOf_6403c_39 : decode cJ7_copyOf_6403c 39 = .ok (.areturn, 1) := by decide +kernel
set_option maxRecDepth 20000 in
theorem ggJ15_checkIndex_7cf53_J3_checkIndex_8e157 : GoodIn wsJ15_checkIndex_7cf53 wsJ3_checkIndex_8e157 := goodIn_r _ [4] (by decide +kernel) (by decide +kernel)
set_option maxRecDepth 20000 in
theorem gJ15_checkIndex_7cf53_J3_checkIndex_8e157 : GoodIn wsJ15_checkIndex_7cf53 (va_wsS RJ15 105 yJ3_checkIndex_8e157 wsJ3_checkIndex_8e157) := goodIn_app (goodIn_of _ (by decide +kernel)) ggJ15_checkIndex_7cf53_J3_checkIndex_8e157
theorem dJ15_checkIndex_7cf53_0 : decode cJ15_checkIndex_7cf53 0 = .ok (.iload_n 0, 1) := by decide +kernel
theorem dJ15_checkIndex_7cf53_1 : decode cJ15_checkIndex_7cf53 1 = .ok (.iload_n 1, 1) := by decide +kernel
theorem dJ15_checkIndex_7cf53_2 : decode cJ15_checkIndex_7cf53 2 = .ok (.aconst_null, 1) := by decide +kernel
theorem dJ15_checkIndex_7cf53_3 : decode cJ15_checkIndex_7cf53 3 = .ok (.invokestatic 105, 3) := by decide +kernel
theorem dJ15_checkIndex_7cf53_6 : decode cJ15_checkIndex_7cf53 6 = .ok (.ireturn, 1) := by decide +kernel
set_option maxRecDepth 20000 in
theorem ggJ8_newLength_cabcc_J8_hugeLength_7cf53 : GoodIn wsJ8_newLength_cabcc wsJ8_hugeLength_7cf53 := goodIn_r _ [9, 5] (by decide +kernel) (by decide +kernel)
set_option maxRecDepth 20000 in
theorem gJ8_newLength_cabcc_J8_hugeLength_7cf53 : GoodIn wsJ8_newLength_cabcc (va_wsS RJ8 201 yJ8_hugeLength_7cf53 wsJ8_hugeLength_7cf53) := goodIn_app (goodIn_of _ (by decide +kernel)) ggJ8_newLength_cabcc_J8_hugeLength_7cf53
theorem dJ8_newLength_cabcc_0 : decode cJ8_newLength_cabcc 0 = .ok (.iload_n 0, 1) := by decide +kernel
theorem dJ8_newLength_cabcc_1 : decode cJ8_newLength_cabcc 1 = .ok (.iload_n 1, 1) := by decide +kernel
theorem dJ8_newLength_cabcc_2 : decode cJ8_newLength_cabcc 2 = .ok (.iload_n 2, 1) := by decide +kernel
theorem dJ8_newLength_cabcc_3 : decode cJ8_newLength_cabcc 3 = .ok (.invokestatic 194, 3) := by decide +kernel
theorem dJ8_newLength_cabcc_6 : decode cJ8_newLength_cabcc 6 = .ok (.iadd, 1) := by decide +kernel
theorem dJ8_newLength_cabcc_7 : decode cJ8_newLength_cabcc 7 = .ok (.istore_n 3, 1) := by decide +kernel
theorem dJ8_newLength_cabcc_8 : decode cJ8_newLength_cabcc 8 = .ok (.iconst 0, 1) := by decide +kernel
theorem dJ8_newLength_cabcc_9 : decode cJ8_newLength_cabcc 9 = .ok (.iload_n 3, 1) := by decide +kernel
theorem dJ8_newLength_cabcc_10 : decode cJ8_newLength_cabcc 10 = .ok (.if_icmp .ge 11, 3) := by decide +kernel
theorem dJ8_newLength_cabcc_13 : decode cJ8_newLength_cabcc 13 = .ok (.iload_n 3, 1) := by decide +kernel
theorem dJ8_newLength_cabcc_14 : decode cJ8_newLength_cabcc 14 = .ok (.ldc 200, 2) := by decide +kernel
theorem dJ8_newLength_cabcc_16 : decode cJ8_newLength_cabcc 16 = .ok (.if_icmp .gt 5, 3) := by decide +kernel
theorem dJ8_newLength_cabcc_19 : decode cJ8_newLength_cabcc 19 = .ok (.iload_n 3, 1) := by decide +kernel
theorem dJ8_newLength_cabcc_20 : decode cJ8_newLength_cabcc 20 = .ok (.ireturn, 1) := by decide +kernel
theorem dJ8_newLength_cabcc_21 : decode cJ8_newLength_cabcc 21 = .ok (.iload_n 0, 1) := by decide +kernel
theorem dJ8_newLength_cabcc_22 : decode cJ8_newLength_cabcc 22 = .ok (.iload_n 1, 1) := by decide +kernel
theorem dJ8_newLength_cabcc_23 : decode cJ8_newLength_cabcc 23 = .ok (.invokestatic 201, 3) := by decide +kernel
theorem dJ8_newLength_cabcc_26 : decode cJ8_newLength_cabcc 26 = .ok (.ireturn, 1) := by decide +kernel
theorem dJ8_hugeLength_7cf53_0 : decode cJ8_hugeLength_7cf53 0 = .ok (.iload_n 0, 1) := by decide +kernel
theorem dJ8_hugeLength_7cf53_1 : decode cJ8_hugeLength_7cf53 1 = .ok (.iload_n 1, 1) := by decide +kernel
theorem dJ8_hugeLength_7cf53_2 : decode cJ8_hugeLength_7cf53 2 = .ok (.iadd, 1) := by decide +kernel
theorem dJ8_hugeLength_7cf53_3 : decode cJ8_hugeLength_7cf53 3 = .ok (.istore_n 2, 1) := by decide +kernel
theorem dJ8_hugeLength_7cf53_4 : decode cJ8_hugeLength_7cf53 4 = .ok (.iload_n 2, 1) := by decide +kernel
theorem dJ8_hugeLength_7cf53_5 : decode cJ8_hugeLength_7cf53 5 = .ok (.ifCond .ge 44, 3) := by decide +kernel
theorem dJ8_hugeLength_7cf53_8 : decode cJ8_hugeLength_7cf53 8 = .ok (.new 204, 3) := by decide +kernel
theorem dJ8_hugeLength_7cf53_11 : decode cJ8_hugeLength_7cf53 11 = .ok (.dup, 1) := by decide +kernel
theorem dJ8_hugeLength_7cf53_12 : decode cJ8_hugeLength_7cf53 12 = .ok (.new 89, 3) := by decide +kernel
theorem dJ8_hugeLength_7cf53_15 : decode cJ8_hugeLength_7cf53 15 = .ok (.dup, 1) := by decide +kernel
theorem dJ8_hugeLength_7cf53_16 : decode cJ8_hugeLength_7cf53 16 = .ok (.invokespecial 91, 3) := by decide +kernel
theorem dJ8_hugeLength_7cf53_19 : decode cJ8_hugeLength_7cf53 19 = .ok (.ldc 206, 2) := by decide +kernel
theorem dJ8_hugeLength_7cf53_21 : decode cJ8_hugeLength_7cf53 21 = .ok (.invokevirtual 94, 3) := by decide +kernel
theorem dJ8_hugeLength_7cf53_24 : decode cJ8_hugeLength_7cf53 24 = .ok (.iload_n 0, 1) := by decide +kernel
theorem dJ8_hugeLength_7cf53_25 : decode cJ8_hugeLength_7cf53 25 = .ok (.invokevirtual 98, 3) := by decide +kernel
theorem dJ8_hugeLength_7cf53_28 : decode cJ8_hugeLength_7cf53 28 = .ok (.ldc 208, 2) := by decide +kernel
theorem dJ8_hugeLength_7cf53_30 : decode cJ8_hugeLength_7cf53 30 = .ok (.invokevirtual 94, 3) := by decide +kernel
theorem dJ8_hugeLength_7cf53_33 : decode cJ8_hugeLength_7cf53 33 = .ok (.iload_n 1, 1) := by decide +kernel
theorem dJ8_hugeLength_7cf53_34 : decode cJ8_hugeLength_7cf53 34 = .ok (.invokevirtual 98, 3) := by decide +kernel
theorem dJ8_hugeLength_7cf53_37 : decode cJ8_hugeLength_7cf53 37 = .ok (.ldc 210, 2) := by decide +kernel
theorem dJ8_hugeLength_7cf53_39 : decode cJ8_hugeLength_7cf53 39 = .ok (.invokevirtual 94, 3) := by decide +kernel
theorem dJ8_hugeLength_7cf53_42 : decode cJ8_hugeLength_7cf53 42 = .ok (.invokevirtual 101, 3) := by decide +kernel
theorem dJ8_hugeLength_7cf53_45 : decode cJ8_hugeLength_7cf53 45 = .ok (.invokespecial 212, 3) := by decide +kernel
theorem dJ8_hugeLength_7cf53_48 : decode cJ8_hugeLength_7cf53 48 = .ok (.athrow, 1) := by decide +kernel
theorem dJ8_hugeLength_7cf53_49 : decode cJ8_hugeLength_7cf53 49 = .ok (.iload_n 2, 1) := by decide +kernel
theorem dJ8_hugeLength_7cf53_50 : decode cJ8_hugeLength_7cf53 50 = .ok (.ldc 200, 2) := by decide +kernel
theorem dJ8_hugeLength_7cf53_52 : decode cJ8_hugeLength_7cf53 52 = .ok (.if_icmp .gt 6, 3) := by decide +kernel
theorem dJ8_hugeLength_7cf53_55 : decode cJ8_hugeLength_7cf53 55 = .ok (.ldc 200, 2) := by decide +kernel
theorem dJ8_hugeLength_7cf53_57 : decode cJ8_hugeLength_7cf53 57 = .ok (.ireturn, 1) := by decide +kernel
theorem dJ8_hugeLength_7cf53_58 : decode cJ8_hugeLength_7cf53 58 = .ok (.iload_n 2, 1) := by decide +kernel
theorem dJ8_hugeLength_7cf53_59 : decode cJ8_hugeLength_7cf53 59 = .ok (.ireturn, 1) := by decide +kernel
theorem dJ3_checkIndex_8e157_0 : decode cJ3_checkIndex_8e157 0 = .ok (.iload_n 0, 1) := by decide +kernel
theorem dJ3_checkIndex_8e157_1 : decode cJ3_checkIndex_8e157 1 = .ok (.ifCond .lt 8, 3) := by decide +kernel
theorem dJ3_checkIndex_8e157_4 : decode cJ3_checkIndex_8e157 4 = .ok (.iload_n 0, 1) := by decide +kernel
theorem dJ3_checkIndex_8e157_5 : decode cJ3_checkIndex_8e157 5 = .ok (.iload_n 1, 1) := by decide +kernel
theorem dJ3_checkIndex_8e157_6 : decode cJ3_checkIndex_8e157 6 = .ok (.if_icmp .lt 10, 3) := by decide +kernel
theorem dJ3_checkIndex_8e157_9 : decode cJ3_checkIndex_8e157 9 = .ok (.aload_n 2, 1) := by decide +kernel
theorem dJ3_checkIndex_8e157_10 : decode cJ3_checkIndex_8e157 10 = .ok (.iload_n 0, 1) := by decide +kernel
theorem dJ3_checkIndex_8e157_11 : decode cJ3_checkIndex_8e157 11 = .ok (.iload_n 1, 1) := by decide +kernel
theorem dJ3_checkIndex_8e157_12 : decode cJ3_checkIndex_8e157 12 = .ok (.invokestatic 95, 3) := by decide +kernel
theorem dJ3_checkIndex_8e157_15 : decode cJ3_checkIndex_8e157 15 = .ok (.athrow, 1) := by decide +kernel
theorem dJ3_checkIndex_8e157_16 : decode cJ3_checkIndex_8e157 16 = .ok (.iload_n 0, 1) := by decide +kernel
theorem dJ3_checkIndex_8e157_17 : decode cJ3_checkIndex_8e157 17 = .ok (.ireturn, 1) := by decide +kernel
theorem dL_cell_0 : decode cL_cell 0 = .ok (.iload_n 1, 1) := by decide +kernel
theorem dL_cell_1 : decode cL_cell 1 = .ok (.aload_n 0, 1) := by decide +kernel
theorem dL_cell_2 : decode cL_cell 2 = .ok (.arraylength, 1) := by decide +kernel
theorem dL_cell_3 : decode cL_cell 3 = .ok (.if_icmp .ge 9, 3) := by decide +kernel
theorem dL_cell_6 : decode cL_cell 6 = .ok (.aload_n 0, 1) := by decide +kernel
theorem dL_cell_7 : decode cL_cell 7 = .ok (.iload_n 1, 1) := by decide +kernel
theorem dL_cell_8 : decode cL_cell 8 = .ok (.iaload, 1) := by decide +kernel
theorem dL_cell_9 : decode cL_cell 9 = .ok (.goto 13, 3) := by decide +kernel
theorem dL_cell_12 : decode cL_cell 12 = .ok (.ldc 7, 2) := by decide +kernel
theorem dL_cell_14 : decode cL_cell 14 = .ok (.iload_n 1, 1) := by decide +kernel
theorem dL_cell_15 : decode cL_cell 15 = .ok (.bipush 29, 2) := by decide +kernel
theorem dL_cell_17 : decode cL_cell 17 = .ok (.iadd, 1) := by decide +kernel
theorem dL_cell_18 : decode cL_cell 18 = .ok (.imul, 1) := by decide +kernel
theorem dL_cell_19 : decode cL_cell 19 = .ok (.ldc 8, 2) := by decide +kernel
theorem dL_cell_21 : decode cL_cell 21 = .ok (.iadd, 1) := by decide +kernel
theorem dL_cell_22 : decode cL_cell 22 = .ok (.ireturn, 1) := by decide +kernel
theorem dL_low_0 : decode cL_low 0 = .ok (.iload_n 0, 1) := by decide +kernel
theorem dL_low_1 : decode cL_low 1 = .ok (.ldc 9, 2) := by decide +kernel
theorem dL_low_3 : decode cL_low 3 = .ok (.iand, 1) := by decide +kernel
theorem dL_low_4 : decode cL_low 4 = .ok (.iload_n 1, 1) := by decide +kernel
theorem dL_low_5 : decode cL_low 5 = .ok (.irem, 1) := by decide +kernel
theorem dL_low_6 : decode cL_low 6 = .ok (.ireturn, 1) := by decide +kernel
set_option maxRecDepth 20000 in
theorem ggL_bonus_X3_addBonus : GoodIn wsL_bonus wsX3_addBonus := goodIn_ca (goodIn_ca (goodIn_ca (goodIn_r _ [6, 7, 8, 9, 10, 11, 12, 13, 14, 15, 5, 16, 17, 18, 19, 20, 21, 22, 23, 24, 25, 26, 27, 28, 29, 30, 31, 32, 33, 34, 35, 36, 37, 38, 39, 40, 41, 42, 43, 44, 45, 46, 47, 48, 49, 50, 51, 52, 53, 54, 55, 56, 57, 58, 59, 60, 61, 62, 63, 64, 65, 66, 67, 68, 69, 70, 71, 72, 73, 74, 75, 76, 77, 78, 79, 80, 81, 82, 83, 84, 85, 86, 87, 88, 89, 90, 91, 92, 93, 94, 95, 96, 97, 98, 99, 100, 101, 102, 103, 104, 105, 106, 107, 108, 109, 110, 111, 112, 113, 114, 115, 116, 117, 118, 119, 120, 121, 122, 123, 124, 125, 126] (by decide +kernel) (by decide +kernel)) (goodIn_sub (fun _ h => List.mem_cons_of_mem _ (List.mem_append_left _ (List.mem_append_left _ (List.mem_append_right _ h)))) (by decide +kernel))) (goodIn_sub (fun _ h => List.mem_cons_of_mem _ (List.mem_append_left _ (List.mem_append_right _ h))) (by decide +kernel))) (goodIn_sub (fun _ h => List.mem_cons_of_mem _ (List.mem_append_right _ h)) (by decide +kernel))
set_option maxRecDepth 20000 in
theorem gL_bonus_X3_addBonus : GoodIn wsL_bonus (wsV RL 10 RX3 yX3_addBonus wsX3_addBonus) := goodIn_app (goodIn_of _ (by decide +kernel)) ggL_bonus_X3_addBonus
theorem dL_bonus_0 : decode cL_bonus 0 = .ok (.aload_n 0, 1) := by decide +kernel
theorem dL_bonus_1 : decode cL_bonus 1 = .ok (.iload_n 1, 1) := by decide +kernel
theorem dL_bonus_2 : decode cL_bonus 2 = .ok (.iload_n 2, 1) := by decide +kernel
theorem dL_bonus_3 : decode cL_bonus 3 = .ok (.iload_n 3, 1) := by decide +kernel
theorem dL_bonus_4 : decode cL_bonus 4 = .ok (.iload 4, 2) := by decide +kernel
theorem dL_bonus_6 : decode cL_bonus 6 = .ok (.invokevirtual 10, 3) := by decide +kernel
theorem dL_bonus_9 : decode cL_bonus 9 = .ok (.ireturn, 1) := by decide +kernel
theorem dL_bonus_10 : decode cL_bonus 10 = .ok (.astore 5, 2) := by decide +kernel
theorem dL_bonus_12 : decode cL_bonus 12 = .ok (.bipush (-3), 2) := by decide +kernel
theorem dL_bonus_14 : decode cL_bonus 14 = .ok (.ireturn, 1) := by decide +kernel
set_option maxRecDepth 20000 in
theorem ggL_part_X3_abroadPart : GoodIn wsL_part wsX3_abroadPart := goodIn_ca (goodIn_r _ [6, 7, 8, 9, 10, 11, 12, 5, 13, 14, 15, 16, 17, 18, 19, 20, 21, 22, 23, 24, 25, 26, 27, 28, 29, 30, 31, 32, 33, 34, 35, 36, 37, 38, 39, 40, 41, 42, 43, 44, 45, 46, 47, 48, 49, 50, 51, 52, 53, 54, 55, 56, 57, 58, 59, 60, 61, 62, 63, 64, 65, 66, 67, 68] (by decide +kernel) (by decide +kernel)) (goodIn_sub (fun _ h => List.mem_cons_of_mem _ (List.mem_append_right _ h)) (by decide +kernel))
set_option maxRecDepth 20000 in
theorem gL_part_X3_abroadPart : GoodIn wsL_part (wsV RL 18 RX3 yX3_abroadPart wsX3_abroadPart) := goodIn_app (goodIn_of _ (by decide +kernel)) ggL_part_X3_abroadPart
theorem dL_part_0 : decode cL_part 0 = .ok (.aload_n 0, 1) := by decide +kernel
theorem dL_part_1 : decode cL_part 1 = .ok (.iload_n 1, 1) := by decide +kernel
theorem dL_part_2 : decode cL_part 2 = .ok (.iload_n 2, 1) := by decide +kernel
theorem dL_part_3 : decode cL_part 3 = .ok (.invokevirtual 18, 3) := by decide +kernel
theorem dL_part_6 : decode cL_part 6 = .ok (.ireturn, 1) := by decide +kernel
theorem dL_part_7 : decode cL_part 7 = .ok (.astore_n 3, 1) := by decide +kernel
theorem dL_part_8 : decode cL_part 8 = .ok (.bipush (-4), 2) := by decide +kernel
theorem dL_part_10 : decode cL_part 10 = .ok (.ireturn, 1) := by decide +kernel
theorem dL_tax_0 : decode cL_tax 0 = .ok (.lconst 0, 1) := by decide +kernel
theorem dL_tax_1 : decode cL_tax 1 = .ok (.lstore 4, 2) := by decide +kernel
theorem dL_tax_3 : decode cL_tax 3 = .ok (.lload_n 1, 1) := by decide +kernel
theorem dL_tax_4 : decode cL_tax 4 = .ok (.lstore 6, 2) := by decide +kernel
theorem dL_tax_6 : decode cL_tax 6 = .ok (.iconst 2, 1) := by decide +kernel
theorem dL_tax_7 : decode cL_tax 7 = .ok (.istore 8, 2) := by decide +kernel
theorem dL_tax_9 : decode cL_tax 9 = .ok (.iload 8, 2) := by decide +kernel
theorem dL_tax_11 : decode cL_tax 11 = .ok (.ifCond .lt 65, 3) := by decide +kernel
theorem dL_tax_14 : decode cL_tax 14 = .ok (.iload 8, 2) := by decide +kernel
theorem dL_tax_16 : decode cL_tax 16 = .ok (.ifCond .ne 7, 3) := by decide +kernel
theorem dL_tax_19 : decode cL_tax 19 = .ok (.lconst 0, 1) := by decide +kernel
theorem dL_tax_20 : decode cL_tax 20 = .ok (.goto 14, 3) := by decide +kernel
theorem dL_tax_23 : decode cL_tax 23 = .ok (.aload_n 3, 1) := by decide +kernel
theorem dL_tax_24 : decode cL_tax 24 = .ok (.iconst 5, 1) := by decide +kernel
theorem dL_tax_25 : decode cL_tax 25 = .ok (.iload_n 0, 1) := by decide +kernel
theorem dL_tax_26 : decode cL_tax 26 = .ok (.imul, 1) := by decide +kernel
theorem dL_tax_27 : decode cL_tax 27 = .ok (.iload 8, 2) := by decide +kernel
theorem dL_tax_29 : decode cL_tax 29 = .ok (.iadd, 1) := by decide +kernel
theorem dL_tax_30 : decode cL_tax 30 = .ok (.iconst 1, 1) := by decide +kernel
theorem dL_tax_31 : decode cL_tax 31 = .ok (.isub, 1) := by decide +kernel
theorem dL_tax_32 : decode cL_tax 32 = .ok (.iaload, 1) := by decide +kernel
theorem dL_tax_33 : decode cL_tax 33 = .ok (.i2l, 1) := by decide +kernel
theorem dL_tax_34 : decode cL_tax 34 = .ok (.lstore 9, 2) := by decide +kernel
theorem dL_tax_36 : decode cL_tax 36 = .ok (.lload 6, 2) := by decide +kernel
theorem dL_tax_38 : decode cL_tax 38 = .ok (.lload 9, 2) := by decide +kernel
theorem dL_tax_40 : decode cL_tax 40 = .ok (.lcmp, 1) := by decide +kernel
theorem dL_tax_41 : decode cL_tax 41 = .ok (.ifCond .le 29, 3) := by decide +kernel
theorem dL_tax_44 : decode cL_tax 44 = .ok (.lload 4, 2) := by decide +kernel
theorem dL_tax_46 : decode cL_tax 46 = .ok (.lload 6, 2) := by decide +kernel
theorem dL_tax_48 : decode cL_tax 48 = .ok (.lload 9, 2) := by decide +kernel
theorem dL_tax_50 : decode cL_tax 50 = .ok (.lsub, 1) := by decide +kernel
theorem dL_tax_51 : decode cL_tax 51 = .ok (.aload_n 3, 1) := by decide +kernel
theorem dL_tax_52 : decode cL_tax 52 = .ok (.iconst 5, 1) := by decide +kernel
theorem dL_tax_53 : decode cL_tax 53 = .ok (.iload_n 0, 1) := by decide +kernel
theorem dL_tax_54 : decode cL_tax 54 = .ok (.imul, 1) := by decide +kernel
theorem dL_tax_55 : decode cL_tax 55 = .ok (.iconst 2, 1) := by decide +kernel
theorem dL_tax_56 : decode cL_tax 56 = .ok (.iadd, 1) := by decide +kernel
theorem dL_tax_57 : decode cL_tax 57 = .ok (.iload 8, 2) := by decide +kernel
theorem dL_tax_59 : decode cL_tax 59 = .ok (.iadd, 1) := by decide +kernel
theorem dL_tax_60 : decode cL_tax 60 = .ok (.iaload, 1) := by decide +kernel
theorem dL_tax_61 : decode cL_tax 61 = .ok (.i2l, 1) := by decide +kernel
theorem dL_tax_62 : decode cL_tax 62 = .ok (.lmul, 1) := by decide +kernel
theorem dL_tax_63 : decode cL_tax 63 = .ok (.ladd, 1) := by decide +kernel
theorem dL_tax_64 : decode cL_tax 64 = .ok (.lstore 4, 2) := by decide +kernel
theorem dL_tax_66 : decode cL_tax 66 = .ok (.lload 9, 2) := by decide +kernel
theorem dL_tax_68 : decode cL_tax 68 = .ok (.lstore 6, 2) := by decide +kernel
theorem dL_tax_70 : decode cL_tax 70 = .ok (.iinc 8 (-1), 3) := by decide +kernel
theorem dL_tax_73 : decode cL_tax 73 = .ok (.goto (-64), 3) := by decide +kernel
theorem dL_tax_76 : decode cL_tax 76 = .ok (.lload 4, 2) := by decide +kernel
theorem dL_tax_78 : decode cL_tax 78 = .ok (.ldc2_w 24, 3) := by decide +kernel
theorem dL_tax_81 : decode cL_tax 81 = .ok (.ldiv, 1) := by decide +kernel
theorem dL_tax_82 : decode cL_tax 82 = .ok (.lreturn, 1) := by decide +kernel
set_option maxRecDepth 20000 in
theorem ggL_gross_L_tax : GoodIn wsL_gross wsL_tax := goodIn_r _ [4, 5] (by decide +kernel) (by decide +kernel)
set_option maxRecDepth 20000 in
theorem gL_gross_L_tax : GoodIn wsL_gross (va_wsS RL 26 yL_tax wsL_tax) := goodIn_app (goodIn_of _ (by decide +kernel)) ggL_gross_L_tax
theorem dL_gross_0 : decode cL_gross 0 = .ok (.lconst 0, 1) := by decide +kernel
theorem dL_gross_1 : decode cL_gross 1 = .ok (.lstore 4, 2) := by decide +kernel
theorem dL_gross_3 : decode cL_gross 3 = .ok (.iload_n 0, 1) := by decide +kernel
theorem dL_gross_4 : decode cL_gross 4 = .ok (.lload_n 1, 1) := by decide +kernel
theorem dL_gross_5 : decode cL_gross 5 = .ok (.aload_n 3, 1) := by decide +kernel
theorem dL_gross_6 : decode cL_gross 6 = .ok (.invokestatic 26, 3) := by decide +kernel
theorem dL_gross_9 : decode cL_gross 9 = .ok (.lstore 6, 2) := by decide +kernel
theorem dL_gross_11 : decode cL_gross 11 = .ok (.lload 6, 2) := by decide +kernel
theorem dL_gross_13 : decode cL_gross 13 = .ok (.lload 4, 2) := by decide +kernel
theorem dL_gross_15 : decode cL_gross 15 = .ok (.lcmp, 1) := by decide +kernel
theorem dL_gross_16 : decode cL_gross 16 = .ok (.ifCond .eq 21, 3) := by decide +kernel
theorem dL_gross_19 : decode cL_gross 19 = .ok (.lload 6, 2) := by decide +kernel
theorem dL_gross_21 : decode cL_gross 21 = .ok (.lstore 4, 2) := by decide +kernel
theorem dL_gross_23 : decode cL_gross 23 = .ok (.iload_n 0, 1) := by decide +kernel
theorem dL_gross_24 : decode cL_gross 24 = .ok (.lload_n 1, 1) := by decide +kernel
theorem dL_gross_25 : decode cL_gross 25 = .ok (.lload 4, 2) := by decide +kernel
theorem dL_gross_27 : decode cL_gross 27 = .ok (.ladd, 1) := by decide +kernel
theorem dL_gross_28 : decode cL_gross 28 = .ok (.aload_n 3, 1) := by decide +kernel
theorem dL_gross_29 : decode cL_gross 29 = .ok (.invokestatic 26, 3) := by decide +kernel
theorem dL_gross_32 : decode cL_gross 32 = .ok (.lstore 6, 2) := by decide +kernel
theorem dL_gross_34 : decode cL_gross 34 = .ok (.goto (-23), 3) := by decide +kernel
theorem dL_gross_37 : decode cL_gross 37 = .ok (.lload 4, 2) := by decide +kernel
theorem dL_gross_39 : decode cL_gross 39 = .ok (.lreturn, 1) := by decide +kernel
theorem dL_abroad_0 : decode cL_abroad 0 = .ok (.bipush 18, 2) := by decide +kernel
theorem dL_abroad_2 : decode cL_abroad 2 = .ok (.iload_n 0, 1) := by decide +kernel
theorem dL_abroad_3 : decode cL_abroad 3 = .ok (.imul, 1) := by decide +kernel
theorem dL_abroad_4 : decode cL_abroad 4 = .ok (.iconst 3, 1) := by decide +kernel
theorem dL_abroad_5 : decode cL_abroad 5 = .ok (.iload_n 1, 1) := by decide +kernel
theorem dL_abroad_6 : decode cL_abroad 6 = .ok (.imul, 1) := by decide +kernel
theorem dL_abroad_7 : decode cL_abroad 7 = .ok (.iadd, 1) := by decide +kernel
theorem dL_abroad_8 : decode cL_abroad 8 = .ok (.istore 4, 2) := by decide +kernel
theorem dL_abroad_10 : decode cL_abroad 10 = .ok (.aload_n 3, 1) := by decide +kernel
theorem dL_abroad_11 : decode cL_abroad 11 = .ok (.iload 4, 2) := by decide +kernel
theorem dL_abroad_13 : decode cL_abroad 13 = .ok (.iconst 1, 1) := by decide +kernel
theorem dL_abroad_14 : decode cL_abroad 14 = .ok (.iadd, 1) := by decide +kernel
theorem dL_abroad_15 : decode cL_abroad 15 = .ok (.iaload, 1) := by decide +kernel
theorem dL_abroad_16 : decode cL_abroad 16 = .ok (.aload_n 2, 1) := by decide +kernel
theorem dL_abroad_17 : decode cL_abroad 17 = .ok (.bipush 8, 2) := by decide +kernel
theorem dL_abroad_19 : decode cL_abroad 19 = .ok (.iload_n 0, 1) := by decide +kernel
theorem dL_abroad_20 : decode cL_abroad 20 = .ok (.imul, 1) := by decide +kernel
theorem dL_abroad_21 : decode cL_abroad 21 = .ok (.iconst 3, 1) := by decide +kernel
theorem dL_abroad_22 : decode cL_abroad 22 = .ok (.iadd, 1) := by decide +kernel
theorem dL_abroad_23 : decode cL_abroad 23 = .ok (.iaload, 1) := by decide +kernel
theorem dL_abroad_24 : decode cL_abroad 24 = .ok (.if_icmp .le 12, 3) := by decide +kernel
theorem dL_abroad_27 : decode cL_abroad 27 = .ok (.aload_n 3, 1) := by decide +kernel
theorem dL_abroad_28 : decode cL_abroad 28 = .ok (.iload 4, 2) := by decide +kernel
theorem dL_abroad_30 : decode cL_abroad 30 = .ok (.iconst 1, 1) := by decide +kernel
theorem dL_abroad_31 : decode cL_abroad 31 = .ok (.iadd, 1) := by decide +kernel
theorem dL_abroad_32 : decode cL_abroad 32 = .ok (.iaload, 1) := by decide +kernel
theorem dL_abroad_33 : decode cL_abroad 33 = .ok (.goto 11, 3) := by decide +kernel
theorem dL_abroad_36 : decode cL_abroad 36 = .ok (.aload_n 2, 1) := by decide +kernel
theorem dL_abroad_37 : decode cL_abroad 37 = .ok (.bipush 8, 2) := by decide +kernel
theorem dL_abroad_39 : decode cL_abroad 39 = .ok (.iload_n 0, 1) := by decide +kernel
theorem dL_abroad_40 : decode cL_abroad 40 = .ok (.imul, 1) := by decide +kernel
theorem dL_abroad_41 : decode cL_abroad 41 = .ok (.iconst 3, 1) := by decide +kernel
theorem dL_abroad_42 : decode cL_abroad 42 = .ok (.iadd, 1) := by decide +kernel
theorem dL_abroad_43 : decode cL_abroad 43 = .ok (.iaload, 1) := by decide +kernel
theorem dL_abroad_44 : decode cL_abroad 44 = .ok (.istore 5, 2) := by decide +kernel
theorem dL_abroad_46 : decode cL_abroad 46 = .ok (.aload_n 3, 1) := by decide +kernel
theorem dL_abroad_47 : decode cL_abroad 47 = .ok (.iload 4, 2) := by decide +kernel
theorem dL_abroad_49 : decode cL_abroad 49 = .ok (.iconst 2, 1) := by decide +kernel
theorem dL_abroad_50 : decode cL_abroad 50 = .ok (.iadd, 1) := by decide +kernel
theorem dL_abroad_51 : decode cL_abroad 51 = .ok (.iaload, 1) := by decide +kernel
theorem dL_abroad_52 : decode cL_abroad 52 = .ok (.aload_n 2, 1) := by decide +kernel
theorem dL_abroad_53 : decode cL_abroad 53 = .ok (.bipush 8, 2) := by decide +kernel
theorem dL_abroad_55 : decode cL_abroad 55 = .ok (.iload_n 0, 1) := by decide +kernel
theorem dL_abroad_56 : decode cL_abroad 56 = .ok (.imul, 1) := by decide +kernel
theorem dL_abroad_57 : decode cL_abroad 57 = .ok (.iconst 4, 1) := by decide +kernel
theorem dL_abroad_58 : decode cL_abroad 58 = .ok (.iadd, 1) := by decide +kernel
theorem dL_abroad_59 : decode cL_abroad 59 = .ok (.iaload, 1) := by decide +kernel
theorem dL_abroad_60 : decode cL_abroad 60 = .ok (.if_icmp .ge 12, 3) := by decide +kernel
theorem dL_abroad_63 : decode cL_abroad 63 = .ok (.aload_n 3, 1) := by decide +kernel
theorem dL_abroad_64 : decode cL_abroad 64 = .ok (.iload 4, 2) := by decide +kernel
theorem dL_abroad_66 : decode cL_abroad 66 = .ok (.iconst 2, 1) := by decide +kernel
theorem dL_abroad_67 : decode cL_abroad 67 = .ok (.iadd, 1) := by decide +kernel
theorem dL_abroad_68 : decode cL_abroad 68 = .ok (.iaload, 1) := by decide +kernel
theorem dL_abroad_69 : decode cL_abroad 69 = .ok (.goto 11, 3) := by decide +kernel
theorem dL_abroad_72 : decode cL_abroad 72 = .ok (.aload_n 2, 1) := by decide +kernel
theorem dL_abroad_73 : decode cL_abroad 73 = .ok (.bipush 8, 2) := by decide +kernel
theorem dL_abroad_75 : decode cL_abroad 75 = .ok (.iload_n 0, 1) := by decide +kernel
theorem dL_abroad_76 : decode cL_abroad 76 = .ok (.imul, 1) := by decide +kernel
theorem dL_abroad_77 : decode cL_abroad 77 = .ok (.iconst 4, 1) := by decide +kernel
theorem dL_abroad_78 : decode cL_abroad 78 = .ok (.iadd, 1) := by decide +kernel
theorem dL_abroad_79 : decode cL_abroad 79 = .ok (.iaload, 1) := by decide +kernel
theorem dL_abroad_80 : decode cL_abroad 80 = .ok (.istore 6, 2) := by decide +kernel
theorem dL_abroad_82 : decode cL_abroad 82 = .ok (.iload 6, 2) := by decide +kernel
theorem dL_abroad_84 : decode cL_abroad 84 = .ok (.iload 5, 2) := by decide +kernel
theorem dL_abroad_86 : decode cL_abroad 86 = .ok (.if_icmp .le 30, 3) := by decide +kernel
theorem dL_abroad_89 : decode cL_abroad 89 = .ok (.aload_n 3, 1) := by decide +kernel
theorem dL_abroad_90 : decode cL_abroad 90 = .ok (.iload 4, 2) := by decide +kernel
theorem dL_abroad_92 : decode cL_abroad 92 = .ok (.iaload, 1) := by decide +kernel
theorem dL_abroad_93 : decode cL_abroad 93 = .ok (.iload 6, 2) := by decide +kernel
theorem dL_abroad_95 : decode cL_abroad 95 = .ok (.iload 5, 2) := by decide +kernel
theorem dL_abroad_97 : decode cL_abroad 97 = .ok (.isub, 1) := by decide +kernel
theorem dL_abroad_98 : decode cL_abroad 98 = .ok (.imul, 1) := by decide +kernel
theorem dL_abroad_99 : decode cL_abroad 99 = .ok (.aload_n 3, 1) := by decide +kernel
theorem dL_abroad_100 : decode cL_abroad 100 = .ok (.iload 4, 2) := by decide +kernel
theorem dL_abroad_102 : decode cL_abroad 102 = .ok (.iconst 2, 1) := by decide +kernel
theorem dL_abroad_103 : decode cL_abroad 103 = .ok (.iadd, 1) := by decide +kernel
theorem dL_abroad_104 : decode cL_abroad 104 = .ok (.iaload, 1) := by decide +kernel
theorem dL_abroad_105 : decode cL_abroad 105 = .ok (.aload_n 3, 1) := by decide +kernel
theorem dL_abroad_106 : decode cL_abroad 106 = .ok (.iload 4, 2) := by decide +kernel
theorem dL_abroad_108 : decode cL_abroad 108 = .ok (.iconst 1, 1) := by decide +kernel
theorem dL_abroad_109 : decode cL_abroad 109 = .ok (.iadd, 1) := by decide +kernel
theorem dL_abroad_110 : decode cL_abroad 110 = .ok (.iaload, 1) := by decide +kernel
theorem dL_abroad_111 : decode cL_abroad 111 = .ok (.isub, 1) := by decide +kernel
theorem dL_abroad_112 : decode cL_abroad 112 = .ok (.idiv, 1) := by decide +kernel
theorem dL_abroad_113 : decode cL_abroad 113 = .ok (.goto 4, 3) := by decide +kernel
theorem dL_abroad_116 : decode cL_abroad 116 = .ok (.iconst 0, 1) := by decide +kernel
theorem dL_abroad_117 : decode cL_abroad 117 = .ok (.ireturn, 1) := by decide +kernel
theorem dL_own_0 : decode cL_own 0 = .ok (.aload_n 1, 1) := by decide +kernel
theorem dL_own_1 : decode cL_own 1 = .ok (.bipush 8, 2) := by decide +kernel
theorem dL_own_3 : decode cL_own 3 = .ok (.iload_n 0, 1) := by decide +kernel
theorem dL_own_4 : decode cL_own 4 = .ok (.imul, 1) := by decide +kernel
theorem dL_own_5 : decode cL_own 5 = .ok (.iconst 2, 1) := by decide +kernel
theorem dL_own_6 : decode cL_own 6 = .ok (.iadd, 1) := by decide +kernel
theorem dL_own_7 : decode cL_own 7 = .ok (.iaload, 1) := by decide +kernel
theorem dL_own_8 : decode cL_own 8 = .ok (.aload_n 1, 1) := by decide +kernel
theorem dL_own_9 : decode cL_own 9 = .ok (.bipush 8, 2) := by decide +kernel
theorem dL_own_11 : decode cL_own 11 = .ok (.iload_n 0, 1) := by decide +kernel
theorem dL_own_12 : decode cL_own 12 = .ok (.imul, 1) := by decide +kernel
theorem dL_own_13 : decode cL_own 13 = .ok (.bipush 6, 2) := by decide +kernel
theorem dL_own_15 : decode cL_own 15 = .ok (.iadd, 1) := by decide +kernel
theorem dL_own_16 : decode cL_own 16 = .ok (.iaload, 1) := by decide +kernel
theorem dL_own_17 : decode cL_own 17 = .ok (.imul, 1) := by decide +kernel
theorem dL_own_18 : decode cL_own 18 = .ok (.bipush 100, 2) := by decide +kernel
theorem dL_own_20 : decode cL_own 20 = .ok (.idiv, 1) := by decide +kernel
theorem dL_own_21 : decode cL_own 21 = .ok (.istore_n 2, 1) := by decide +kernel
theorem dL_own_22 : decode cL_own 22 = .ok (.iload_n 2, 1) := by decide +kernel
theorem dL_own_23 : decode cL_own 23 = .ok (.aload_n 1, 1) := by decide +kernel
theorem dL_own_24 : decode cL_own 24 = .ok (.bipush 8, 2) := by decide +kernel
theorem dL_own_26 : decode cL_own 26 = .ok (.iload_n 0, 1) := by decide +kernel
theorem dL_own_27 : decode cL_own 27 = .ok (.imul, 1) := by decide +kernel
theorem dL_own_28 : decode cL_own 28 = .ok (.iconst 5, 1) := by decide +kernel
theorem dL_own_29 : decode cL_own 29 = .ok (.iadd, 1) := by decide +kernel
theorem dL_own_30 : decode cL_own 30 = .ok (.iaload, 1) := by decide +kernel
theorem dL_own_31 : decode cL_own 31 = .ok (.if_icmp .le 14, 3) := by decide +kernel
theorem dL_own_34 : decode cL_own 34 = .ok (.aload_n 1, 1) := by decide +kernel
theorem dL_own_35 : decode cL_own 35 = .ok (.bipush 8, 2) := by decide +kernel
theorem dL_own_37 : decode cL_own 37 = .ok (.iload_n 0, 1) := by decide +kernel
theorem dL_own_38 : decode cL_own 38 = .ok (.imul, 1) := by decide +kernel
theorem dL_own_39 : decode cL_own 39 = .ok (.iconst 5, 1) := by decide +kernel
theorem dL_own_40 : decode cL_own 40 = .ok (.iadd, 1) := by decide +kernel
theorem dL_own_41 : decode cL_own 41 = .ok (.iaload, 1) := by decide +kernel
theorem dL_own_42 : decode cL_own 42 = .ok (.goto 4, 3) := by decide +kernel
theorem dL_own_45 : decode cL_own 45 = .ok (.iload_n 2, 1) := by decide +kernel
theorem dL_own_46 : decode cL_own 46 = .ok (.ireturn, 1) := by decide +kernel
set_option maxRecDepth 20000 in
theorem ggL_isPerson_L_abroad : GoodIn wsL_isPerson wsL_abroad := goodIn_r _ [5] (by decide +kernel) (by decide +kernel)
set_option maxRecDepth 20000 in
theorem gL_isPerson_L_abroad : GoodIn wsL_isPerson (va_wsS RL 32 yL_abroad wsL_abroad) := goodIn_app (goodIn_of _ (by decide +kernel)) ggL_isPerson_L_abroad
set_option maxRecDepth 20000 in
theorem ggL_isPerson_L_part : GoodIn wsL_isPerson wsL_part := goodIn_ca (goodIn_r _ [8, 9, 10, 11, 12, 13, 14, 15, 16, 17, 18, 19, 20, 21, 22, 23, 24, 25, 26, 27, 28, 29, 30, 31, 32, 33, 34, 35, 36, 37, 38, 39, 40, 41, 42, 43, 44, 45, 46, 47, 48, 49, 50, 51, 52, 53, 54, 55, 56, 57, 58, 59, 60, 215, 216, 217, 218, 219, 220, 221, 222, 223, 224, 225, 226, 227, 228, 229, 230] (by decide +kernel) (by decide +kernel)) (goodIn_sub (fun _ h => List.mem_cons_of_mem _ (List.mem_append_left _ (List.mem_append_right _ h))) (by decide +kernel))
set_option maxRecDepth 20000 in
theorem gL_isPerson_L_part : GoodIn wsL_isPerson (va_wsS RL 36 yL_part wsL_part) := goodIn_app (goodIn_of _ (by decide +kernel)) ggL_isPerson_L_part
set_option maxRecDepth 20000 in
theorem ggL_isPerson_L_own : GoodIn wsL_isPerson wsL_own := goodIn_r _ [63] (by decide +kernel) (by decide +kernel)
set_option maxRecDepth 20000 in
theorem gL_isPerson_L_own : GoodIn wsL_isPerson (va_wsS RL 40 yL_own wsL_own) := goodIn_app (goodIn_of _ (by decide +kernel)) ggL_isPerson_L_own
set_option maxRecDepth 20000 in
theorem ggL_isPerson_L_tax : GoodIn wsL_isPerson wsL_tax := goodIn_r _ [66, 67] (by decide +kernel) (by decide +kernel)
set_option maxRecDepth 20000 in
theorem gL_isPerson_L_tax : GoodIn wsL_isPerson (va_wsS RL 26 yL_tax wsL_tax) := goodIn_app (goodIn_of _ (by decide +kernel)) ggL_isPerson_L_tax
set_option maxRecDepth 20000 in
theorem ggL_isPerson_L_gross : GoodIn wsL_isPerson wsL_gross := goodIn_r _ [70, 64, 65, 4, 66, 67] (by decide +kernel) (by decide +kernel)
set_option maxRecDepth 20000 in
theorem gL_isPerson_L_gross : GoodIn wsL_isPerson (va_wsS RL 46 yL_gross wsL_gross) := goodIn_app (goodIn_of _ (by decide +kernel)) ggL_isPerson_L_gross
set_option maxRecDepth 20000 in
theorem ggL_isPerson_L_low : GoodIn wsL_isPerson wsL_low := goodIn_r _ [73, 74] (by decide +kernel) (by decide +kernel)
set_option maxRecDepth 20000 in
theorem gL_isPerson_L_low : GoodIn wsL_isPerson (va_wsS RL 49 yL_low wsL_low) := goodIn_app (goodIn_of _ (by decide +kernel)) ggL_isPerson_L_low
set_option maxRecDepth 20000 in
theorem ggL_isPerson_X3_held : GoodIn wsL_isPerson wsX3_held := goodIn_ca (goodIn_ca (goodIn_r _ [78, 18, 19, 20, 13, 21, 15, 16, 22, 23, 24, 25, 26, 27, 28, 29, 30, 31, 32, 33, 34, 35, 36, 37, 38, 39, 40, 41, 42, 43, 44, 45, 46, 79, 80, 81, 82, 83, 84, 85, 86, 50, 87, 57, 52, 88, 89, 90, 91, 92, 93, 94, 95, 96, 97, 98, 99, 100, 54, 55, 56, 101, 102, 59, 60, 103, 104, 105, 106, 223, 224, 225, 226, 227, 215, 216, 217, 218, 219, 220, 221, 222, 231, 232, 233, 234, 235] (by decide +kernel) (by decide +kernel)) (goodIn_sub (fun _ h => List.mem_cons_of_mem _ (List.mem_append_left _ (List.mem_append_right _ h))) (by decide +kernel))) (goodIn_sub (fun _ h => List.mem_cons_of_mem _ (List.mem_append_right _ h)) (by decide +kernel))
set_option maxRecDepth 20000 in
theorem gL_isPerson_X3_held : GoodIn wsL_isPerson (wsV RL 52 RX3 yX3_held wsX3_held) := goodIn_app (goodIn_of _ (by decide +kernel)) ggL_isPerson_X3_held
set_option maxRecDepth 20000 in
theorem ggL_isPerson_X3_supposedTax : GoodIn wsL_isPerson wsX3_supposedTax := goodIn_ca (goodIn_r _ [110, 18, 19, 20, 13, 21, 15, 16, 22, 23, 24, 25, 26, 27, 28, 29, 30, 31, 32, 33, 34, 35, 36, 37, 38, 39, 40, 41, 42, 43, 44, 45, 46, 111, 112, 113, 50, 114, 92, 115, 116, 117, 118, 93, 119, 120, 121, 122, 94, 95, 96, 97, 98, 99, 100, 54, 55, 56, 101, 102, 59, 60, 103, 104, 105, 106, 223, 224, 225, 226, 227, 215, 216, 217, 218, 219, 220, 221, 222, 228, 229, 230, 231, 232, 233, 234, 235] (by decide +kernel) (by decide +kernel)) (goodIn_sub (fun _ h => List.mem_cons_of_mem _ (List.mem_append_left _ (List.mem_append_right _ h))) (by decide +kernel))
set_option maxRecDepth 20000 in
theorem gL_isPerson_X3_supposedTax : GoodIn wsL_isPerson (wsV RL 55 RX3 yX3_supposedTax wsX3_supposedTax) := goodIn_app (goodIn_of _ (by decide +kernel)) ggL_isPerson_X3_supposedTax
set_option maxRecDepth 20000 in
theorem ggL_isPerson_X3_homeIncome : GoodIn wsL_isPerson wsX3_homeIncome := goodIn_ca (goodIn_r _ [126, 18, 19, 20, 13, 21, 15, 16, 22, 23, 24, 25, 26, 27, 28, 29, 30, 31, 32, 33, 34, 35, 36, 37, 38, 39, 40, 41, 42, 43, 44, 45, 46, 127, 128, 129, 50, 130, 93, 119, 120, 131, 132, 133, 134, 52, 57, 121, 122, 135, 48, 49, 51, 53, 54, 55, 56, 58, 59, 60, 223, 224, 225, 226, 227, 215, 216, 217, 218, 219, 220, 221, 222, 228, 229, 230] (by decide +kernel) (by decide +kernel)) (goodIn_sub (fun _ h => List.mem_cons_of_mem _ (List.mem_append_left _ (List.mem_append_right _ h))) (by decide +kernel))
set_option maxRecDepth 20000 in
theorem gL_isPerson_X3_homeIncome : GoodIn wsL_isPerson (wsV RL 59 RX3 yX3_homeIncome wsX3_homeIncome) := goodIn_app (goodIn_of _ (by decide +kernel)) ggL_isPerson_X3_homeIncome
set_option maxRecDepth 20000 in
theorem ggL_isPerson_X3_homeTax : GoodIn wsL_isPerson wsX3_homeTax := goodIn_ca (goodIn_r _ [139, 18, 19, 20, 13, 21, 15, 16, 22, 23, 24, 25, 26, 27, 28, 29, 30, 31, 32, 33, 34, 35, 36, 37, 38, 39, 40, 41, 42, 43, 44, 45, 46, 140, 141, 142, 50, 143, 92, 115, 116, 117, 118, 93, 119, 120, 121, 122, 94, 95, 96, 97, 98, 99, 100, 54, 55, 56, 101, 102, 59, 60, 103, 104, 105, 106, 144, 128, 129, 130, 131, 132, 133, 134, 52, 57, 135, 48, 49, 51, 53, 58, 223, 224, 225, 226, 227, 215, 216, 217, 218, 219, 220, 221, 222, 228, 229, 230, 231, 232, 233, 234, 235] (by decide +kernel) (by decide +kernel)) (goodIn_sub (fun _ h => List.mem_cons_of_mem _ (List.mem_append_left _ (List.mem_append_right _ h))) (by decide +kernel))
set_option maxRecDepth 20000 in
theorem gL_isPerson_X3_homeTax : GoodIn wsL_isPerson (wsV RL 62 RX3 yX3_homeTax wsX3_homeTax) := goodIn_app (goodIn_of _ (by decide +kernel)) ggL_isPerson_X3_homeTax
set_option maxRecDepth 20000 in
theorem ggL_isPerson_X3_hostIncome : GoodIn wsL_isPerson wsX3_hostIncome := goodIn_ca (goodIn_r _ [148, 18, 19, 20, 13, 21, 15, 16, 22, 23, 24, 25, 26, 27, 28, 29, 30, 31, 32, 33, 34, 35, 36, 37, 38, 39, 40, 41, 42, 43, 44, 45, 46, 149, 150, 151, 50, 152, 93, 119, 120, 131, 132, 133, 134, 52, 57, 153, 154, 155, 156, 157, 158, 159, 160, 161, 162, 53, 54, 55, 56, 121, 122, 135, 48, 49, 51, 58, 59, 60, 223, 224, 225, 226, 227, 215, 216, 217, 218, 219, 220, 221, 222, 228, 229, 230] (by decide +kernel) (by decide +kernel)) (goodIn_sub (fun _ h => List.mem_cons_of_mem _ (List.mem_append_left _ (List.mem_append_right _ h))) (by decide +kernel))
set_option maxRecDepth 20000 in
theorem gL_isPerson_X3_hostIncome : GoodIn wsL_isPerson (wsV RL 65 RX3 yX3_hostIncome wsX3_hostIncome) := goodIn_app (goodIn_of _ (by decide +kernel)) ggL_isPerson_X3_hostIncome
set_option maxRecDepth 20000 in
theorem ggL_isPerson_X3_hostTax : GoodIn wsL_isPerson wsX3_hostTax := goodIn_ca (goodIn_r _ [166, 18, 19, 20, 13, 21, 15, 16, 22, 23, 24, 25, 26, 27, 28, 29, 30, 31, 32, 33, 34, 35, 36, 37, 38, 39, 40, 41, 42, 43, 44, 45, 46, 167, 168, 169, 50, 170, 171, 172, 150, 151, 152, 93, 119, 120, 131, 132, 133, 134, 52, 57, 153, 154, 155, 156, 157, 158, 159, 160, 161, 162, 53, 54, 55, 56, 121, 122, 135, 48, 49, 51, 58, 59, 60, 173, 174, 175, 97, 176, 177, 178, 179, 180, 95, 96, 98, 99, 100, 101, 102, 103, 104, 105, 106, 223, 224, 225, 226, 227, 215, 216, 217, 218, 219, 220, 221, 222, 228, 229, 230, 231, 232, 233, 234, 235] (by decide +kernel) (by decide +kernel)) (goodIn_sub (fun _ h => List.mem_cons_of_mem _ (List.mem_append_left _ (List.mem_append_right _ h))) (by decide +kernel))
set_option maxRecDepth 20000 in
theorem gL_isPerson_X3_hostTax : GoodIn wsL_isPerson (wsV RL 68 RX3 yX3_hostTax wsX3_hostTax) := goodIn_app (goodIn_of _ (by decide +kernel)) ggL_isPerson_X3_hostTax
set_option maxRecDepth 20000 in
theorem ggL_isPerson_X3_borne : GoodIn wsL_isPerson wsX3_borne := goodIn_ca (goodIn_r _ [184, 18, 19, 20, 13, 21, 15, 16, 22, 23, 24, 25, 26, 27, 28, 29, 30, 31, 32, 33, 34, 35, 36, 37, 38, 39, 40, 41, 42, 43, 44, 45, 46, 185, 186, 187, 50, 188, 189, 190, 191, 192, 131, 132, 133, 134, 52, 57, 193, 89, 90, 91, 92, 93, 94, 95, 96, 97, 98, 99, 100, 54, 55, 56, 101, 102, 59, 60, 103, 104, 105, 106, 194, 141, 142, 143, 115, 116, 117, 118, 119, 120, 121, 122, 144, 128, 129, 130, 135, 48, 49, 51, 53, 58, 223, 224, 225, 226, 227, 215, 216, 217, 218, 219, 220, 221, 222, 231, 232, 233, 234, 235, 228, 229, 230] (by decide +kernel) (by decide +kernel)) (goodIn_sub (fun _ h => List.mem_cons_of_mem _ (List.mem_append_left _ (List.mem_append_right _ h))) (by decide +kernel))
set_option maxRecDepth 20000 in
theorem gL_isPerson_X3_borne : GoodIn wsL_isPerson (wsV RL 71 RX3 yX3_borne wsX3_borne) := goodIn_app (goodIn_of _ (by decide +kernel)) ggL_isPerson_X3_borne
set_option maxRecDepth 20000 in
theorem ggL_isPerson_X3_settlement : GoodIn wsL_isPerson wsX3_settlement := goodIn_ca (goodIn_r _ [198, 18, 19, 20, 13, 21, 15, 16, 22, 23, 24, 25, 26, 27, 28, 29, 30, 31, 32, 33, 34, 35, 36, 37, 38, 39, 40, 41, 42, 43, 44, 45, 46, 199, 200, 201, 50, 202, 203, 112, 113, 114, 92, 115, 116, 117, 118, 93, 119, 120, 121, 122, 94, 95, 96, 97, 98, 99, 100, 54, 55, 56, 101, 102, 59, 60, 103, 104, 105, 106, 204, 186, 187, 188, 189, 190, 191, 192, 131, 132, 133, 134, 52, 57, 193, 89, 90, 91, 194, 141, 142, 143, 144, 128, 129, 130, 135, 48, 49, 51, 53, 58, 223, 224, 225, 226, 227, 215, 216, 217, 218, 219, 220, 221, 222, 228, 229, 230, 231, 232, 233, 234, 235] (by decide +kernel) (by decide +kernel)) (goodIn_sub (fun _ h => List.mem_cons_of_mem _ (List.mem_append_left _ (List.mem_append_right _ h))) (by decide +kernel))
set_option maxRecDepth 20000 in
theorem gL_isPerson_X3_settlement : GoodIn wsL_isPerson (wsV RL 74 RX3 yX3_settlement wsX3_settlement) := goodIn_app (goodIn_of _ (by decide +kernel)) ggL_isPerson_X3_settlement
set_option maxRecDepth 20000 in
theorem ggL_isPerson_X3_cost : GoodIn wsL_isPerson wsX3_cost := goodIn_ca (goodIn_r _ [208, 18, 19, 20, 13, 21, 15, 16, 22, 23, 24, 25, 26, 27, 28, 29, 30, 31, 32, 33, 34, 35, 36, 37, 38, 39, 40, 41, 42, 43, 44, 45, 46, 209, 210, 211, 50, 212, 213, 168, 169, 170, 171, 172, 150, 151, 152, 93, 119, 120, 131, 132, 133, 134, 52, 57, 153, 154, 155, 156, 157, 158, 159, 160, 161, 162, 53, 54, 55, 56, 121, 122, 135, 48, 49, 51, 58, 59, 60, 173, 174, 175, 97, 176, 177, 178, 179, 180, 95, 96, 98, 99, 100, 101, 102, 103, 104, 105, 106, 189, 190, 191, 192, 193, 89, 90, 91, 92, 94, 214, 200, 201, 202, 203, 112, 113, 114, 115, 116, 117, 118, 204, 186, 187, 188, 194, 141, 142, 143, 144, 128, 129, 130, 223, 224, 225, 226, 227, 215, 216, 217, 218, 219, 220, 221, 222, 228, 229, 230, 231, 232, 233, 234, 235] (by decide +kernel) (by decide +kernel)) (goodIn_sub (fun _ h => List.mem_cons_of_mem _ (List.mem_append_left _ (List.mem_append_right _ h))) (by decide +kernel))
set_option maxRecDepth 20000 in
theorem gL_isPerson_X3_cost : GoodIn wsL_isPerson (wsV RL 77 RX3 yX3_cost wsX3_cost) := goodIn_app (goodIn_of _ (by decide +kernel)) ggL_isPerson_X3_cost
