theorem dX4_add_55 : decode cX4_add 55 = .ok (.aload_n 0, 1) := by decide +kernel
theorem dX4_add_56 : decode cX4_add 56 = .ok (.getfield 19, 3) := by decide +kernel
theorem dX4_add_59 : decode cX4_add 59 = .ok (.aload_n 0, 1) := by decide +kernel
theorem dX4_add_60 : decode cX4_add 60 = .ok (.getfield 61, 3) := by decide +kernel
theorem dX4_add_63 : decode cX4_add 63 = .ok (.iload_n 1, 1) := by decide +kernel
theorem dX4_add_64 : decode cX4_add 64 = .ok (.iastore, 1) := by decide +kernel
theorem dX4_add_65 : decode cX4_add 65 = .ok (.aload_n 0, 1) := by decide +kernel
theorem dX4_add_66 : decode cX4_add 66 = .ok (.getfield 22, 3) := by decide +kernel
theorem dX4_add_69 : decode cX4_add 69 = .ok (.aload_n 0, 1) := by decide +kernel
theorem dX4_add_70 : decode cX4_add 70 = .ok (.getfield 61, 3) := by decide +kernel
theorem dX4_add_73 : decode cX4_add 73 = .ok (.iload_n 2, 1) := by decide +kernel
theorem dX4_add_74 : decode cX4_add 74 = .ok (.iastore, 1) := by decide +kernel
theorem dX4_add_75 : decode cX4_add 75 = .ok (.aload_n 0, 1) := by decide +kernel
theorem dX4_add_76 : decode cX4_add 76 = .ok (.getfield 25, 3) := by decide +kernel
theorem dX4_add_79 : decode cX4_add 79 = .ok (.aload_n 0, 1) := by decide +kernel
theorem dX4_add_80 : decode cX4_add 80 = .ok (.getfield 61, 3) := by decide +kernel
theorem dX4_add_83 : decode cX4_add 83 = .ok (.iload_n 3, 1) := by decide +kernel
theorem dX4_add_84 : decode cX4_add 84 = .ok (.iastore, 1) := by decide +kernel
theorem dX4_add_85 : decode cX4_add 85 = .ok (.aload_n 0, 1) := by decide +kernel
theorem dX4_add_86 : decode cX4_add 86 = .ok (.dup, 1) := by decide +kernel
theorem dX4_add_87 : decode cX4_add 87 = .ok (.getfield 61, 3) := by decide +kernel
theorem dX4_add_90 : decode cX4_add 90 = .ok (.iconst 1, 1) := by decide +kernel
theorem dX4_add_91 : decode cX4_add 91 = .ok (.iadd, 1) := by decide +kernel
theorem dX4_add_92 : decode cX4_add 92 = .ok (.putfield 61, 3) := by decide +kernel
theorem dX4_add_95 : decode cX4_add 95 = .ok (.aload_n 0, 1) := by decide +kernel
theorem dX4_add_96 : decode cX4_add 96 = .ok (.getfield 61, 3) := by decide +kernel
theorem dX4_add_99 : decode cX4_add 99 = .ok (.iconst 1, 1) := by decide +kernel
theorem dX4_add_100 : decode cX4_add 100 = .ok (.isub, 1) := by decide +kernel
theorem dX4_add_101 : decode cX4_add 101 = .ok (.ireturn, 1) := by decide +kernel
set_option maxRecDepth 20000 in
theorem ggX4_setAbroad_X4_isAsked : GoodIn wsX4_setAbroad wsX4_isAsked := goodIn_r _ [7, 8, 9, 10, 11, 6, 12, 17, 18, 19, 20, 21, 22, 23, 24, 25, 26, 27, 28, 29, 30, 31, 32] (by decide +kernel) (by decide +kernel)
set_option maxRecDepth 20000 in
theorem gX4_setAbroad_X4_isAsked : GoodIn wsX4_setAbroad (wsV RX4 86 RX4 yX4_isAsked wsX4_isAsked) := goodIn_app (goodIn_of _ (by decide +kernel)) ggX4_setAbroad_X4_isAsked
set_option maxRecDepth 20000 in
theorem ggX4_setAbroad_X4_in : GoodIn wsX4_setAbroad wsX4_in := goodIn_r _ [12] (by decide +kernel) (by decide +kernel)
set_option maxRecDepth 20000 in
theorem gX4_setAbroad_X4_in : GoodIn wsX4_setAbroad (va_wsS RX4 57 yX4_in wsX4_in) := goodIn_app (goodIn_of _ (by decide +kernel)) ggX4_setAbroad_X4_in
set_option maxRecDepth 20000 in
theorem ggX4_setAbroad_X4_fails : GoodIn wsX4_setAbroad wsX4_fails := goodIn_r _ [16, 9, 17, 18, 19, 20, 21, 22, 23, 24, 25, 26, 27, 28, 29, 30, 31, 32] (by decide +kernel) (by decide +kernel)
set_option maxRecDepth 20000 in
theorem gX4_setAbroad_X4_fails : GoodIn wsX4_setAbroad (wsV RX4 77 RX4 yX4_fails wsX4_fails) := goodIn_app (goodIn_of _ (by decide +kernel)) ggX4_setAbroad_X4_fails
theorem dX4_setAbroad_0 : decode cX4_setAbroad 0 = .ok (.aload_n 0, 1) := by decide +kernel
theorem dX4_setAbroad_1 : decode cX4_setAbroad 1 = .ok (.iload_n 1, 1) := by decide +kernel
theorem dX4_setAbroad_2 : decode cX4_setAbroad 2 = .ok (.invokevirtual 86, 3) := by decide +kernel
theorem dX4_setAbroad_5 : decode cX4_setAbroad 5 = .ok (.ifCond .ne 5, 3) := by decide +kernel
theorem dX4_setAbroad_8 : decode cX4_setAbroad 8 = .ok (.iconst 0, 1) := by decide +kernel
theorem dX4_setAbroad_9 : decode cX4_setAbroad 9 = .ok (.ireturn, 1) := by decide +kernel
theorem dX4_setAbroad_10 : decode cX4_setAbroad 10 = .ok (.iload_n 2, 1) := by decide +kernel
theorem dX4_setAbroad_11 : decode cX4_setAbroad 11 = .ok (.iconst 0, 1) := by decide +kernel
theorem dX4_setAbroad_12 : decode cX4_setAbroad 12 = .ok (.bipush 12, 2) := by decide +kernel
theorem dX4_setAbroad_14 : decode cX4_setAbroad 14 = .ok (.invokestatic 57, 3) := by decide +kernel
theorem dX4_setAbroad_17 : decode cX4_setAbroad 17 = .ok (.ifCond .eq 13, 3) := by decide +kernel
theorem dX4_setAbroad_20 : decode cX4_setAbroad 20 = .ok (.iload_n 3, 1) := by decide +kernel
theorem dX4_setAbroad_21 : decode cX4_setAbroad 21 = .ok (.iload_n 2, 1) := by decide +kernel
theorem dX4_setAbroad_22 : decode cX4_setAbroad 22 = .ok (.bipush 12, 2) := by decide +kernel
theorem dX4_setAbroad_24 : decode cX4_setAbroad 24 = .ok (.invokestatic 57, 3) := by decide +kernel
theorem dX4_setAbroad_27 : decode cX4_setAbroad 27 = .ok (.ifCond .ne 9, 3) := by decide +kernel
theorem dX4_setAbroad_30 : decode cX4_setAbroad 30 = .ok (.aload_n 0, 1) := by decide +kernel
theorem dX4_setAbroad_31 : decode cX4_setAbroad 31 = .ok (.iconst 2, 1) := by decide +kernel
theorem dX4_setAbroad_32 : decode cX4_setAbroad 32 = .ok (.invokevirtual 77, 3) := by decide +kernel
theorem dX4_setAbroad_35 : decode cX4_setAbroad 35 = .ok (.ireturn, 1) := by decide +kernel
theorem dX4_setAbroad_36 : decode cX4_setAbroad 36 = .ok (.aload_n 0, 1) := by decide +kernel
theorem dX4_setAbroad_37 : decode cX4_setAbroad 37 = .ok (.getfield 31, 3) := by decide +kernel
theorem dX4_setAbroad_40 : decode cX4_setAbroad 40 = .ok (.iload_n 1, 1) := by decide +kernel
theorem dX4_setAbroad_41 : decode cX4_setAbroad 41 = .ok (.iaload, 1) := by decide +kernel
theorem dX4_setAbroad_42 : decode cX4_setAbroad 42 = .ok (.aload_n 0, 1) := by decide +kernel
theorem dX4_setAbroad_43 : decode cX4_setAbroad 43 = .ok (.getfield 28, 3) := by decide +kernel
theorem dX4_setAbroad_46 : decode cX4_setAbroad 46 = .ok (.iload_n 1, 1) := by decide +kernel
theorem dX4_setAbroad_47 : decode cX4_setAbroad 47 = .ok (.iaload, 1) := by decide +kernel
theorem dX4_setAbroad_48 : decode cX4_setAbroad 48 = .ok (.isub, 1) := by decide +kernel
theorem dX4_setAbroad_49 : decode cX4_setAbroad 49 = .ok (.istore 4, 2) := by decide +kernel
theorem dX4_setAbroad_51 : decode cX4_setAbroad 51 = .ok (.aload_n 0, 1) := by decide +kernel
theorem dX4_setAbroad_52 : decode cX4_setAbroad 52 = .ok (.getfield 28, 3) := by decide +kernel
theorem dX4_setAbroad_55 : decode cX4_setAbroad 55 = .ok (.iload_n 1, 1) := by decide +kernel
theorem dX4_setAbroad_56 : decode cX4_setAbroad 56 = .ok (.iload_n 2, 1) := by decide +kernel
theorem dX4_setAbroad_57 : decode cX4_setAbroad 57 = .ok (.iastore, 1) := by decide +kernel
theorem dX4_setAbroad_58 : decode cX4_setAbroad 58 = .ok (.aload_n 0, 1) := by decide +kernel
theorem dX4_setAbroad_59 : decode cX4_setAbroad 59 = .ok (.getfield 31, 3) := by decide +kernel
theorem dX4_setAbroad_62 : decode cX4_setAbroad 62 = .ok (.iload_n 1, 1) := by decide +kernel
theorem dX4_setAbroad_63 : decode cX4_setAbroad 63 = .ok (.iload_n 3, 1) := by decide +kernel
theorem dX4_setAbroad_64 : decode cX4_setAbroad 64 = .ok (.iastore, 1) := by decide +kernel
theorem dX4_setAbroad_65 : decode cX4_setAbroad 65 = .ok (.iload 4, 2) := by decide +kernel
theorem dX4_setAbroad_67 : decode cX4_setAbroad 67 = .ok (.ireturn, 1) := by decide +kernel
set_option maxRecDepth 20000 in
theorem ggX4_setPay_X4_isAsked : GoodIn wsX4_setPay wsX4_isAsked := goodIn_r _ [7, 8, 9, 10, 11, 6, 12, 17, 18, 19, 20, 21, 22, 23, 24, 25, 26, 27, 28, 29, 30, 31, 32] (by decide +kernel) (by decide +kernel)
set_option maxRecDepth 20000 in
theorem gX4_setPay_X4_isAsked : GoodIn wsX4_setPay (wsV RX4 86 RX4 yX4_isAsked wsX4_isAsked) := goodIn_app (goodIn_of _ (by decide +kernel)) ggX4_setPay_X4_isAsked
set_option maxRecDepth 20000 in
theorem ggX4_setPay_X4_in : GoodIn wsX4_setPay wsX4_in := goodIn_r _ [12] (by decide +kernel) (by decide +kernel)
set_option maxRecDepth 20000 in
theorem gX4_setPay_X4_in : GoodIn wsX4_setPay (va_wsS RX4 57 yX4_in wsX4_in) := goodIn_app (goodIn_of _ (by decide +kernel)) ggX4_setPay_X4_in
set_option maxRecDepth 20000 in
theorem ggX4_setPay_X4_fails : GoodIn wsX4_setPay wsX4_fails := goodIn_r _ [16, 9, 17, 18, 19, 20, 21, 22, 23, 24, 25, 26, 27, 28, 29, 30, 31, 32] (by decide +kernel) (by decide +kernel)
set_option maxRecDepth 20000 in
theorem gX4_setPay_X4_fails : GoodIn wsX4_setPay (wsV RX4 77 RX4 yX4_fails wsX4_fails) := goodIn_app (goodIn_of _ (by decide +kernel)) ggX4_setPay_X4_fails
theorem dX4_setPay_0 : decode cX4_setPay 0 = .ok (.aload_n 0, 1) := by decide +kernel
theorem dX4_setPay_1 : decode cX4_setPay 1 = .ok (.iload_n 1, 1) := by decide +kernel
theorem dX4_setPay_2 : decode cX4_setPay 2 = .ok (.invokevirtual 86, 3) := by decide +kernel
theorem dX4_setPay_5 : decode cX4_setPay 5 = .ok (.ifCond .ne 5, 3) := by decide +kernel
theorem dX4_setPay_8 : decode cX4_setPay 8 = .ok (.iconst 0, 1) := by decide +kernel
theorem dX4_setPay_9 : decode cX4_setPay 9 = .ok (.ireturn, 1) := by decide +kernel
theorem dX4_setPay_10 : decode cX4_setPay 10 = .ok (.iload_n 2, 1) := by decide +kernel
theorem dX4_setPay_11 : decode cX4_setPay 11 = .ok (.iconst 0, 1) := by decide +kernel
theorem dX4_setPay_12 : decode cX4_setPay 12 = .ok (.ldc 85, 2) := by decide +kernel
theorem dX4_setPay_14 : decode cX4_setPay 14 = .ok (.invokestatic 57, 3) := by decide +kernel
theorem dX4_setPay_17 : decode cX4_setPay 17 = .ok (.ifCond .ne 9, 3) := by decide +kernel
theorem dX4_setPay_20 : decode cX4_setPay 20 = .ok (.aload_n 0, 1) := by decide +kernel
theorem dX4_setPay_21 : decode cX4_setPay 21 = .ok (.iconst 2, 1) := by decide +kernel
theorem dX4_setPay_22 : decode cX4_setPay 22 = .ok (.invokevirtual 77, 3) := by decide +kernel
theorem dX4_setPay_25 : decode cX4_setPay 25 = .ok (.ireturn, 1) := by decide +kernel
theorem dX4_setPay_26 : decode cX4_setPay 26 = .ok (.aload_n 0, 1) := by decide +kernel
theorem dX4_setPay_27 : decode cX4_setPay 27 = .ok (.getfield 25, 3) := by decide +kernel
theorem dX4_setPay_30 : decode cX4_setPay 30 = .ok (.iload_n 1, 1) := by decide +kernel
theorem dX4_setPay_31 : decode cX4_setPay 31 = .ok (.iaload, 1) := by decide +kernel
theorem dX4_setPay_32 : decode cX4_setPay 32 = .ok (.istore_n 3, 1) := by decide +kernel
theorem dX4_setPay_33 : decode cX4_setPay 33 = .ok (.aload_n 0, 1) := by decide +kernel
theorem dX4_setPay_34 : decode cX4_setPay 34 = .ok (.getfield 25, 3) := by decide +kernel
theorem dX4_setPay_37 : decode cX4_setPay 37 = .ok (.iload_n 1, 1) := by decide +kernel
theorem dX4_setPay_38 : decode cX4_setPay 38 = .ok (.iload_n 2, 1) := by decide +kernel
theorem dX4_setPay_39 : decode cX4_setPay 39 = .ok (.iastore, 1) := by decide +kernel
theorem dX4_setPay_40 : decode cX4_setPay 40 = .ok (.iload_n 3, 1) := by decide +kernel
theorem dX4_setPay_41 : decode cX4_setPay 41 = .ok (.ireturn, 1) := by decide +kernel
theorem dX4_own_0 : decode cX4_own 0 = .ok (.aload_n 0, 1) := by decide +kernel
theorem dX4_own_1 : decode cX4_own 1 = .ok (.getfield 25, 3) := by decide +kernel
theorem dX4_own_4 : decode cX4_own 4 = .ok (.iload_n 1, 1) := by decide +kernel
theorem dX4_own_5 : decode cX4_own 5 = .ok (.iaload, 1) := by decide +kernel
theorem dX4_own_6 : decode cX4_own 6 = .ok (.aload_n 0, 1) := by decide +kernel
theorem dX4_own_7 : decode cX4_own 7 = .ok (.getfield 37, 3) := by decide +kernel
theorem dX4_own_10 : decode cX4_own 10 = .ok (.iload_n 1, 1) := by decide +kernel
theorem dX4_own_11 : decode cX4_own 11 = .ok (.iaload, 1) := by decide +kernel
theorem dX4_own_12 : decode cX4_own 12 = .ok (.imul, 1) := by decide +kernel
theorem dX4_own_13 : decode cX4_own 13 = .ok (.bipush 100, 2) := by decide +kernel
theorem dX4_own_15 : decode cX4_own 15 = .ok (.idiv, 1) := by decide +kernel
theorem dX4_own_16 : decode cX4_own 16 = .ok (.istore_n 2, 1) := by decide +kernel
theorem dX4_own_17 : decode cX4_own 17 = .ok (.iload_n 2, 1) := by decide +kernel
theorem dX4_own_18 : decode cX4_own 18 = .ok (.aload_n 0, 1) := by decide +kernel
theorem dX4_own_19 : decode cX4_own 19 = .ok (.getfield 34, 3) := by decide +kernel
theorem dX4_own_22 : decode cX4_own 22 = .ok (.iload_n 1, 1) := by decide +kernel
theorem dX4_own_23 : decode cX4_own 23 = .ok (.iaload, 1) := by decide +kernel
theorem dX4_own_24 : decode cX4_own 24 = .ok (.if_icmp .ge 7, 3) := by decide +kernel
theorem dX4_own_27 : decode cX4_own 27 = .ok (.iload_n 2, 1) := by decide +kernel
theorem dX4_own_28 : decode cX4_own 28 = .ok (.goto 9, 3) := by decide +kernel
theorem dX4_own_31 : decode cX4_own 31 = .ok (.aload_n 0, 1) := by decide +kernel
theorem dX4_own_32 : decode cX4_own 32 = .ok (.getfield 34, 3) := by decide +kernel
theorem dX4_own_35 : decode cX4_own 35 = .ok (.iload_n 1, 1) := by decide +kernel
theorem dX4_own_36 : decode cX4_own 36 = .ok (.iaload, 1) := by decide +kernel
theorem dX4_own_37 : decode cX4_own 37 = .ok (.ireturn, 1) := by decide +kernel
set_option maxRecDepth 20000 in
theorem ggX4_setHousing_X4_isAsked : GoodIn wsX4_setHousing wsX4_isAsked := goodIn_r _ [8, 9, 10, 11, 12, 7, 13, 23, 24, 25, 26, 27, 28, 29, 30, 31, 32, 33, 34, 35, 36, 37, 38] (by decide +kernel) (by decide +kernel)
set_option maxRecDepth 20000 in
theorem gX4_setHousing_X4_isAsked : GoodIn wsX4_setHousing (wsV RX4 86 RX4 yX4_isAsked wsX4_isAsked) := goodIn_app (goodIn_of _ (by decide +kernel)) ggX4_setHousing_X4_isAsked
set_option maxRecDepth 20000 in
theorem ggX4_setHousing_X4_in : GoodIn wsX4_setHousing wsX4_in := goodIn_r _ [13] (by decide +kernel) (by decide +kernel)
set_option maxRecDepth 20000 in
theorem gX4_setHousing_X4_in : GoodIn wsX4_setHousing (va_wsS RX4 57 yX4_in wsX4_in) := goodIn_app (goodIn_of _ (by decide +kernel)) ggX4_setHousing_X4_in
set_option maxRecDepth 20000 in
theorem ggX4_setHousing_X4_fails : GoodIn wsX4_setHousing wsX4_fails := goodIn_r _ [17, 10, 23, 24, 25, 26, 27, 28, 29, 30, 31, 32, 33, 34, 35, 36, 37, 38] (by decide +kernel) (by decide +kernel)
set_option maxRecDepth 20000 in
theorem gX4_setHousing_X4_fails : GoodIn wsX4_setHousing (wsV RX4 77 RX4 yX4_fails wsX4_fails) := goodIn_app (goodIn_of _ (by decide +kernel)) ggX4_setHousing_X4_fails
set_option maxRecDepth 20000 in
theorem ggX4_setHousing_X4_own : GoodIn wsX4_setHousing wsX4_own := goodIn_r _ [21, 22, 3, 2, 23, 24, 25, 26, 27, 28, 29, 30, 31, 32, 33, 34, 35, 36, 37, 38] (by decide +kernel) (by decide +kernel)
set_option maxRecDepth 20000 in
theorem gX4_setHousing_X4_own : GoodIn wsX4_setHousing (wsV RX4 90 RX4 yX4_own wsX4_own) := goodIn_app (goodIn_of _ (by decide +kernel)) ggX4_setHousing_X4_own
theorem dX4_setHousing_0 : decode cX4_setHousing 0 = .ok (.aload_n 0, 1) := by decide +kernel
theorem dX4_setHousing_1 : decode cX4_setHousing 1 = .ok (.iload_n 1, 1) := by decide +kernel
theorem dX4_setHousing_2 : decode cX4_setHousing 2 = .ok (.invokevirtual 86, 3) := by decide +kernel
theorem dX4_setHousing_5 : decode cX4_setHousing 5 = .ok (.ifCond .ne 5, 3) := by decide +kernel
theorem dX4_setHousing_8 : decode cX4_setHousing 8 = .ok (.iconst 0, 1) := by decide +kernel
theorem dX4_setHousing_9 : decode cX4_setHousing 9 = .ok (.ireturn, 1) := by decide +kernel
theorem dX4_setHousing_10 : decode cX4_setHousing 10 = .ok (.iload_n 2, 1) := by decide +kernel
theorem dX4_setHousing_11 : decode cX4_setHousing 11 = .ok (.iconst 0, 1) := by decide +kernel
theorem dX4_setHousing_12 : decode cX4_setHousing 12 = .ok (.ldc 89, 2) := by decide +kernel
theorem dX4_setHousing_14 : decode cX4_setHousing 14 = .ok (.invokestatic 57, 3) := by decide +kernel
theorem dX4_setHousing_17 : decode cX4_setHousing 17 = .ok (.ifCond .eq 13, 3) := by decide +kernel
theorem dX4_setHousing_20 : decode cX4_setHousing 20 = .ok (.iload_n 3, 1) := by decide +kernel
theorem dX4_setHousing_21 : decode cX4_setHousing 21 = .ok (.iconst 0, 1) := by decide +kernel
theorem dX4_setHousing_22 : decode cX4_setHousing 22 = .ok (.bipush 40, 2) := by decide +kernel
theorem dX4_setHousing_24 : decode cX4_setHousing 24 = .ok (.invokestatic 57, 3) := by decide +kernel
theorem dX4_setHousing_27 : decode cX4_setHousing 27 = .ok (.ifCond .ne 9, 3) := by decide +kernel
theorem dX4_setHousing_30 : decode cX4_setHousing 30 = .ok (.aload_n 0, 1) := by decide +kernel
theorem dX4_setHousing_31 : decode cX4_setHousing 31 = .ok (.iconst 2, 1) := by decide +kernel
theorem dX4_setHousing_32 : decode cX4_setHousing 32 = .ok (.invokevirtual 77, 3) := by decide +kernel
theorem dX4_setHousing_35 : decode cX4_setHousing 35 = .ok (.ireturn, 1) := by decide +kernel
theorem dX4_setHousing_36 : decode cX4_setHousing 36 = .ok (.aload_n 0, 1) := by decide +kernel
theorem dX4_setHousing_37 : decode cX4_setHousing 37 = .ok (.getfield 34, 3) := by decide +kernel
theorem dX4_setHousing_40 : decode cX4_setHousing 40 = .ok (.iload_n 1, 1) := by decide +kernel
theorem dX4_setHousing_41 : decode cX4_setHousing 41 = .ok (.iload_n 2, 1) := by decide +kernel
theorem dX4_setHousing_42 : decode cX4_setHousing 42 = .ok (.iastore, 1) := by decide +kernel
theorem dX4_setHousing_43 : decode cX4_setHousing 43 = .ok (.aload_n 0, 1) := by decide +kernel
theorem dX4_setHousing_44 : decode cX4_setHousing 44 = .ok (.getfield 37, 3) := by decide +kernel
theorem dX4_setHousing_47 : decode cX4_setHousing 47 = .ok (.iload_n 1, 1) := by decide +kernel
theorem dX4_setHousing_48 : decode cX4_setHousing 48 = .ok (.iload_n 3, 1) := by decide +kernel
theorem dX4_setHousing_49 : decode cX4_setHousing 49 = .ok (.iastore, 1) := by decide +kernel
theorem dX4_setHousing_50 : decode cX4_setHousing 50 = .ok (.aload_n 0, 1) := by decide +kernel
theorem dX4_setHousing_51 : decode cX4_setHousing 51 = .ok (.iload_n 1, 1) := by decide +kernel
theorem dX4_setHousing_52 : decode cX4_setHousing 52 = .ok (.invokevirtual 90, 3) := by decide +kernel
theorem dX4_setHousing_55 : decode cX4_setHousing 55 = .ok (.ireturn, 1) := by decide +kernel
set_option maxRecDepth 20000 in
theorem ggX4_addBonus_X4_isAsked : GoodIn wsX4_addBonus wsX4_isAsked := goodIn_r _ [10, 11, 12, 13, 14, 9, 15, 20, 21, 22, 23, 24, 25, 26, 27, 28, 29, 30, 31, 32, 33, 34, 35] (by decide +kernel) (by decide +kernel)
set_option maxRecDepth 20000 in
theorem gX4_addBonus_X4_isAsked : GoodIn wsX4_addBonus (wsV RX4 86 RX4 yX4_isAsked wsX4_isAsked) := goodIn_app (goodIn_of _ (by decide +kernel)) ggX4_addBonus_X4_isAsked
set_option maxRecDepth 20000 in
theorem ggX4_addBonus_X4_in : GoodIn wsX4_addBonus wsX4_in := goodIn_r _ [15] (by decide +kernel) (by decide +kernel)
set_option maxRecDepth 20000 in
theorem gX4_addBonus_X4_in : GoodIn wsX4_addBonus (va_wsS RX4 57 yX4_in wsX4_in) := goodIn_app (goodIn_of _ (by decide +kernel)) ggX4_addBonus_X4_in
set_option maxRecDepth 20000 in
theorem ggX4_addBonus_X4_fails : GoodIn wsX4_addBonus wsX4_fails := goodIn_r _ [19, 12, 20, 21, 22, 23, 24, 25, 26, 27, 28, 29, 30, 31, 32, 33, 34, 35] (by decide +kernel) (by decide +kernel)
set_option maxRecDepth 20000 in
theorem gX4_addBonus_X4_fails : GoodIn wsX4_addBonus (wsV RX4 77 RX4 yX4_fails wsX4_fails) := goodIn_app (goodIn_of _ (by decide +kernel)) ggX4_addBonus_X4_fails
theorem dX4_addBonus_0 : decode cX4_addBonus 0 = .ok (.aload_n 0, 1) := by decide +kernel
theorem dX4_addBonus_1 : decode cX4_addBonus 1 = .ok (.iload_n 1, 1) := by decide +kernel
theorem dX4_addBonus_2 : decode cX4_addBonus 2 = .ok (.invokevirtual 86, 3) := by decide +kernel
theorem dX4_addBonus_5 : decode cX4_addBonus 5 = .ok (.ifCond .ne 5, 3) := by decide +kernel
theorem dX4_addBonus_8 : decode cX4_addBonus 8 = .ok (.iconst 0, 1) := by decide +kernel
theorem dX4_addBonus_9 : decode cX4_addBonus 9 = .ok (.ireturn, 1) := by decide +kernel
theorem dX4_addBonus_10 : decode cX4_addBonus 10 = .ok (.iload_n 2, 1) := by decide +kernel
theorem dX4_addBonus_11 : decode cX4_addBonus 11 = .ok (.iconst 1, 1) := by decide +kernel
theorem dX4_addBonus_12 : decode cX4_addBonus 12 = .ok (.ldc 93, 2) := by decide +kernel
theorem dX4_addBonus_14 : decode cX4_addBonus 14 = .ok (.invokestatic 57, 3) := by decide +kernel
theorem dX4_addBonus_17 : decode cX4_addBonus 17 = .ok (.ifCond .eq 26, 3) := by decide +kernel
theorem dX4_addBonus_20 : decode cX4_addBonus 20 = .ok (.iload_n 3, 1) := by decide +kernel
theorem dX4_addBonus_21 : decode cX4_addBonus 21 = .ok (.iconst 0, 1) := by decide +kernel
theorem dX4_addBonus_22 : decode cX4_addBonus 22 = .ok (.bipush 11, 2) := by decide +kernel
theorem dX4_addBonus_24 : decode cX4_addBonus 24 = .ok (.invokestatic 57, 3) := by decide +kernel
theorem dX4_addBonus_27 : decode cX4_addBonus 27 = .ok (.ifCond .eq 16, 3) := by decide +kernel
theorem dX4_addBonus_30 : decode cX4_addBonus 30 = .ok (.iload 4, 2) := by decide +kernel
theorem dX4_addBonus_32 : decode cX4_addBonus 32 = .ok (.iload_n 3, 1) := by decide +kernel
theorem dX4_addBonus_33 : decode cX4_addBonus 33 = .ok (.iconst 1, 1) := by decide +kernel
theorem dX4_addBonus_34 : decode cX4_addBonus 34 = .ok (.iadd, 1) := by decide +kernel
theorem dX4_addBonus_35 : decode cX4_addBonus 35 = .ok (.bipush 12, 2) := by decide +kernel
theorem dX4_addBonus_37 : decode cX4_addBonus 37 = .ok (.invokestatic 57, 3) := by decide +kernel
theorem dX4_addBonus_40 : decode cX4_addBonus 40 = .ok (.ifCond .ne 9, 3) := by decide +kernel
theorem dX4_addBonus_43 : decode cX4_addBonus 43 = .ok (.aload_n 0, 1) := by decide +kernel
theorem dX4_addBonus_44 : decode cX4_addBonus 44 = .ok (.iconst 2, 1) := by decide +kernel
theorem dX4_addBonus_45 : decode cX4_addBonus 45 = .ok (.invokevirtual 77, 3) := by decide +kernel
theorem dX4_addBonus_48 : decode cX4_addBonus 48 = .ok (.ireturn, 1) := by decide +kernel
theorem dX4_addBonus_49 : decode cX4_addBonus 49 = .ok (.aload_n 0, 1) := by decide +kernel
theorem dX4_addBonus_50 : decode cX4_addBonus 50 = .ok (.getfield 40, 3) := by decide +kernel
theorem dX4_addBonus_53 : decode cX4_addBonus 53 = .ok (.iload_n 1, 1) := by decide +kernel
theorem dX4_addBonus_54 : decode cX4_addBonus 54 = .ok (.iaload, 1) := by decide +kernel
theorem dX4_addBonus_55 : decode cX4_addBonus 55 = .ok (.bipush 6, 2) := by decide +kernel
theorem dX4_addBonus_57 : decode cX4_addBonus 57 = .ok (.if_icmp .ne 9, 3) := by decide +kernel
theorem dX4_addBonus_60 : decode cX4_addBonus 60 = .ok (.aload_n 0, 1) := by decide +kernel
theorem dX4_addBonus_61 : decode cX4_addBonus 61 = .ok (.iconst 3, 1) := by decide +kernel
theorem dX4_addBonus_62 : decode cX4_addBonus 62 = .ok (.invokevirtual 77, 3) := by decide +kernel
theorem dX4_addBonus_65 : decode cX4_addBonus 65 = .ok (.ireturn, 1) := by decide +kernel
theorem dX4_addBonus_66 : decode cX4_addBonus 66 = .ok (.bipush 6, 2) := by decide +kernel
theorem dX4_addBonus_68 : decode cX4_addBonus 68 = .ok (.iload_n 1, 1) := by decide +kernel
theorem dX4_addBonus_69 : decode cX4_addBonus 69 = .ok (.imul, 1) := by decide +kernel
theorem dX4_addBonus_70 : decode cX4_addBonus 70 = .ok (.aload_n 0, 1) := by decide +kernel
theorem dX4_addBonus_71 : decode cX4_addBonus 71 = .ok (.getfield 40, 3) := by decide +kernel
theorem dX4_addBonus_74 : decode cX4_addBonus 74 = .ok (.iload_n 1, 1) := by decide +kernel
theorem dX4_addBonus_75 : decode cX4_addBonus 75 = .ok (.iaload, 1) := by decide +kernel
theorem dX4_addBonus_76 : decode cX4_addBonus 76 = .ok (.iadd, 1) := by decide +kernel
theorem dX4_addBonus_77 : decode cX4_addBonus 77 = .ok (.istore 5, 2) := by decide +kernel
theorem dX4_addBonus_79 : decode cX4_addBonus 79 = .ok (.aload_n 0, 1) := by decide +kernel
theorem dX4_addBonus_80 : decode cX4_addBonus 80 = .ok (.getfield 43, 3) := by decide +kernel
theorem dX4_addBonus_83 : decode cX4_addBonus 83 = .ok (.iload 5, 2) := by decide +kernel
theorem dX4_addBonus_85 : decode cX4_addBonus 85 = .ok (.iload_n 2, 1) := by decide +kernel
theorem dX4_addBonus_86 : decode cX4_addBonus 86 = .ok (.iastore, 1) := by decide +kernel
theorem dX4_addBonus_87 : decode cX4_addBonus 87 = .ok (.aload_n 0, 1) := by decide +kernel
theorem dX4_addBonus_88 : decode cX4_addBonus 88 = .ok (.getfield 46, 3) := by decide +kernel
theorem dX4_addBonus_91 : decode cX4_addBonus 91 = .ok (.iload 5, 2) := by decide +kernel
theorem dX4_addBonus_93 : decode cX4_addBonus 93 = .ok (.iload_n 3, 1) := by decide +kernel
theorem dX4_addBonus_94 : decode cX4_addBonus 94 = .ok (.iastore, 1) := by decide +kernel
theorem dX4_addBonus_95 : decode cX4_addBonus 95 = .ok (.aload_n 0, 1) := by decide +kernel
theorem dX4_addBonus_96 : decode cX4_addBonus 96 = .ok (.getfield 49, 3) := by decide +kernel
theorem dX4_addBonus_99 : decode cX4_addBonus 99 = .ok (.iload 5, 2) := by decide +kernel
theorem dX4_addBonus_101 : decode cX4_addBonus 101 = .ok (.iload 4, 2) := by decide +kernel
theorem dX4_addBonus_103 : decode cX4_addBonus 103 = .ok (.iastore, 1) := by decide +kernel
theorem dX4_addBonus_104 : decode cX4_addBonus 104 = .ok (.aload_n 0, 1) := by decide +kernel
theorem dX4_addBonus_105 : decode cX4_addBonus 105 = .ok (.getfield 40, 3) := by decide +kernel
theorem dX4_addBonus_108 : decode cX4_addBonus 108 = .ok (.iload_n 1, 1) := by decide +kernel
theorem dX4_addBonus_109 : decode cX4_addBonus 109 = .ok (.dup2, 1) := by decide +kernel
theorem dX4_addBonus_110 : decode cX4_addBonus 110 = .ok (.iaload, 1) := by decide +kernel
theorem dX4_addBonus_111 : decode cX4_addBonus 111 = .ok (.iconst 1, 1) := by decide +kernel
theorem dX4_addBonus_112 : decode cX4_addBonus 112 = .ok (.iadd, 1) := by decide +kernel
theorem dX4_addBonus_113 : decode cX4_addBonus 113 = .ok (.iastore, 1) := by decide +kernel
theorem dX4_addBonus_114 : decode cX4_addBonus 114 = .ok (.aload_n 0, 1) := by decide +kernel
theorem dX4_addBonus_115 : decode cX4_addBonus 115 = .ok (.getfield 40, 3) := by decide +kernel
theorem dX4_addBonus_118 : decode cX4_addBonus 118 = .ok (.iload_n 1, 1) := by decide +kernel
theorem dX4_addBonus_119 : decode cX4_addBonus 119 = .ok (.iaload, 1) := by decide +kernel
theorem dX4_addBonus_120 : decode cX4_addBonus 120 = .ok (.iconst 1, 1) := by decide +kernel
theorem dX4_addBonus_121 : decode cX4_addBonus 121 = .ok (.isub, 1) := by decide +kernel
theorem dX4_addBonus_122 : decode cX4_addBonus 122 = .ok (.ireturn, 1) := by decide +kernel
theorem dX4_people_0 : decode cX4_people 0 = .ok (.aload_n 0, 1) := by decide +kernel
theorem dX4_people_1 : decode cX4_people 1 = .ok (.iconst 0, 1) := by decide +kernel
theorem dX4_people_2 : decode cX4_people 2 = .ok (.putfield 53, 3) := by decide +kernel
theorem dX4_people_5 : decode cX4_people 5 = .ok (.aload_n 0, 1) := by decide +kernel
theorem dX4_people_6 : decode cX4_people 6 = .ok (.getfield 61, 3) := by decide +kernel
theorem dX4_people_9 : decode cX4_people 9 = .ok (.ireturn, 1) := by decide +kernel
theorem dX4_part_0 : decode cX4_part 0 = .ok (.bipush 6, 2) := by decide +kernel
theorem dX4_part_2 : decode cX4_part 2 = .ok (.iload_n 1, 1) := by decide +kernel
theorem dX4_part_3 : decode cX4_part 3 = .ok (.imul, 1) := by decide +kernel
theorem dX4_part_4 : decode cX4_part 4 = .ok (.iload_n 2, 1) := by decide +kernel
theorem dX4_part_5 : decode cX4_part 5 = .ok (.iadd, 1) := by decide +kernel
theorem dX4_part_6 : decode cX4_part 6 = .ok (.istore_n 3, 1) := by decide +kernel
theorem dX4_part_7 : decode cX4_part 7 = .ok (.iconst 0, 1) := by decide +kernel
theorem dX4_part_8 : decode cX4_part 8 = .ok (.istore 4, 2) := by decide +kernel
theorem dX4_part_10 : decode cX4_part 10 = .ok (.aload_n 0, 1) := by decide +kernel
theorem dX4_part_11 : decode cX4_part 11 = .ok (.getfield 46, 3) := by decide +kernel
theorem dX4_part_14 : decode cX4_part 14 = .ok (.iload_n 3, 1) := by decide +kernel
theorem dX4_part_15 : decode cX4_part 15 = .ok (.iaload, 1) := by decide +kernel
theorem dX4_part_16 : decode cX4_part 16 = .ok (.istore 5, 2) := by decide +kernel
theorem dX4_part_18 : decode cX4_part 18 = .ok (.iload 5, 2) := by decide +kernel
theorem dX4_part_20 : decode cX4_part 20 = .ok (.aload_n 0, 1) := by decide +kernel
theorem dX4_part_21 : decode cX4_part 21 = .ok (.getfield 49, 3) := by decide +kernel
theorem dX4_part_24 : decode cX4_part 24 = .ok (.iload_n 3, 1) := by decide +kernel
theorem dX4_part_25 : decode cX4_part 25 = .ok (.iaload, 1) := by decide +kernel
theorem dX4_part_26 : decode cX4_part 26 = .ok (.if_icmp .ge 41, 3) := by decide +kernel
theorem dX4_part_29 : decode cX4_part 29 = .ok (.iload 4, 2) := by decide +kernel
theorem dX4_part_31 : decode cX4_part 31 = .ok (.iload 5, 2) := by decide +kernel
theorem dX4_part_33 : decode cX4_part 33 = .ok (.aload_n 0, 1) := by decide +kernel
theorem dX4_part_34 : decode cX4_part 34 = .ok (.getfield 28, 3) := by decide +kernel
theorem dX4_part_37 : decode cX4_part 37 = .ok (.iload_n 1, 1) := by decide +kernel
theorem dX4_part_38 : decode cX4_part 38 = .ok (.iaload, 1) := by decide +kernel
theorem dX4_part_39 : decode cX4_part 39 = .ok (.if_icmp .lt 18, 3) := by decide +kernel
theorem dX4_part_42 : decode cX4_part 42 = .ok (.iload 5, 2) := by decide +kernel
theorem dX4_part_44 : decode cX4_part 44 = .ok (.aload_n 0, 1) := by decide +kernel
theorem dX4_part_45 : decode cX4_part 45 = .ok (.getfield 31, 3) := by decide +kernel
theorem dX4_part_48 : decode cX4_part 48 = .ok (.iload_n 1, 1) := by decide +kernel
theorem dX4_part_49 : decode cX4_part 49 = .ok (.iaload, 1) := by decide +kernel
theorem dX4_part_50 : decode cX4_part 50 = .ok (.if_icmp .ge 7, 3) := by decide +kernel
theorem dX4_part_53 : decode cX4_part 53 = .ok (.iconst 1, 1) := by decide +kernel
theorem dX4_part_54 : decode cX4_part 54 = .ok (.goto 4, 3) := by decide +kernel
theorem dX4_part_57 : decode cX4_part 57 = .ok (.iconst 0, 1) := by decide +kernel
theorem dX4_part_58 : decode cX4_part 58 = .ok (.iadd, 1) := by decide +kernel
theorem dX4_part_59 : decode cX4_part 59 = .ok (.istore 4, 2) := by decide +kernel
theorem dX4_part_61 : decode cX4_part 61 = .ok (.iinc 5 1, 3) := by decide +kernel
theorem dX4_part_64 : decode cX4_part 64 = .ok (.goto (-46), 3) := by decide +kernel
theorem dX4_part_67 : decode cX4_part 67 = .ok (.aload_n 0, 1) := by decide +kernel
theorem dX4_part_68 : decode cX4_part 68 = .ok (.getfield 43, 3) := by decide +kernel
theorem dX4_part_71 : decode cX4_part 71 = .ok (.iload_n 3, 1) := by decide +kernel
theorem dX4_part_72 : decode cX4_part 72 = .ok (.iaload, 1) := by decide +kernel
theorem dX4_part_73 : decode cX4_part 73 = .ok (.iload 4, 2) := by decide +kernel
theorem dX4_part_75 : decode cX4_part 75 = .ok (.imul, 1) := by decide +kernel
theorem dX4_part_76 : decode cX4_part 76 = .ok (.aload_n 0, 1) := by decide +kernel
theorem dX4_part_77 : decode cX4_part 77 = .ok (.getfield 49, 3) := by decide +kernel
theorem dX4_part_80 : decode cX4_part 80 = .ok (.iload_n 3, 1) := by decide +kernel
theorem dX4_part_81 : decode cX4_part 81 = .ok (.iaload, 1) := by decide +kernel
theorem dX4_part_82 : decode cX4_part 82 = .ok (.aload_n 0, 1) := by decide +kernel
theorem dX4_part_83 : decode cX4_part 83 = .ok (.getfield 46, 3) := by decide +kernel
theorem dX4_part_86 : decode cX4_part 86 = .ok (.iload_n 3, 1) := by decide +kernel
theorem dX4_part_87 : decode cX4_part 87 = .ok (.iaload, 1) := by decide +kernel
theorem dX4_part_88 : decode cX4_part 88 = .ok (.isub, 1) := by decide +kernel
theorem dX4_part_89 : decode cX4_part 89 = .ok (.idiv, 1) := by decide +kernel
theorem dX4_part_90 : decode cX4_part 90 = .ok (.ireturn, 1) := by decide +kernel
set_option maxRecDepth 20000 in
theorem ggX4_abroadPart_X4_in : GoodIn wsX4_abroadPart wsX4_in := goodIn_r _ [7] (by decide +kernel) (by decide +kernel)
set_option maxRecDepth 20000 in
theorem gX4_abroadPart_X4_in : GoodIn wsX4_abroadPart (va_wsS RX4 57 yX4_in wsX4_in) := goodIn_app (goodIn_of _ (by decide +kernel)) ggX4_abroadPart_X4_in
set_option maxRecDepth 20000 in
theorem ggX4_abroadPart_X4_part : GoodIn wsX4_abroadPart wsX4_part := goodIn_r _ [11, 12, 13, 14, 15, 16, 21, 22, 23, 24, 25, 26, 27, 28, 29, 30, 31, 32, 33, 34, 35, 36] (by decide +kernel) (by decide +kernel)
set_option maxRecDepth 20000 in
theorem gX4_abroadPart_X4_part : GoodIn wsX4_abroadPart (wsV RX4 94 RX4 yX4_part wsX4_part) := goodIn_app (goodIn_of _ (by decide +kernel)) ggX4_abroadPart_X4_part
set_option maxRecDepth 20000 in
theorem ggX4_abroadPart_X4_fails : GoodIn wsX4_abroadPart wsX4_fails := goodIn_r _ [20, 1, 21, 22, 23, 24, 25, 26, 27, 28, 29, 30, 31, 32, 33, 34, 35, 36] (by decide +kernel) (by decide +kernel)
set_option maxRecDepth 20000 in
theorem gX4_abroadPart_X4_fails : GoodIn wsX4_abroadPart (wsV RX4 77 RX4 yX4_fails wsX4_fails) := goodIn_app (goodIn_of _ (by decide +kernel)) ggX4_abroadPart_X4_fails
theorem dX4_abroadPart_0 : decode cX4_abroadPart 0 = .ok (.aload_n 0, 1) := by decide +kernel
theorem dX4_abroadPart_1 : decode cX4_abroadPart 1 = .ok (.iconst 0, 1) := by decide +kernel
theorem dX4_abroadPart_2 : decode cX4_abroadPart 2 = .ok (.putfield 53, 3) := by decide +kernel
theorem dX4_abroadPart_5 : decode cX4_abroadPart 5 = .ok (.iload_n 1, 1) := by decide +kernel
theorem dX4_abroadPart_6 : decode cX4_abroadPart 6 = .ok (.iconst 0, 1) := by decide +kernel
theorem dX4_abroadPart_7 : decode cX4_abroadPart 7 = .ok (.aload_n 0, 1) := by decide +kernel
theorem dX4_abroadPart_8 : decode cX4_abroadPart 8 = .ok (.getfield 61, 3) := by decide +kernel
theorem dX4_abroadPart_11 : decode cX4_abroadPart 11 = .ok (.iconst 1, 1) := by decide +kernel
theorem dX4_abroadPart_12 : decode cX4_abroadPart 12 = .ok (.isub, 1) := by decide +kernel
theorem dX4_abroadPart_13 : decode cX4_abroadPart 13 = .ok (.invokestatic 57, 3) := by decide +kernel
theorem dX4_abroadPart_16 : decode cX4_abroadPart 16 = .ok (.ifCond .eq 28, 3) := by decide +kernel
theorem dX4_abroadPart_19 : decode cX4_abroadPart 19 = .ok (.iload_n 2, 1) := by decide +kernel
theorem dX4_abroadPart_20 : decode cX4_abroadPart 20 = .ok (.iconst 0, 1) := by decide +kernel
theorem dX4_abroadPart_21 : decode cX4_abroadPart 21 = .ok (.aload_n 0, 1) := by decide +kernel
theorem dX4_abroadPart_22 : decode cX4_abroadPart 22 = .ok (.getfield 40, 3) := by decide +kernel
theorem dX4_abroadPart_25 : decode cX4_abroadPart 25 = .ok (.iload_n 1, 1) := by decide +kernel
theorem dX4_abroadPart_26 : decode cX4_abroadPart 26 = .ok (.iaload, 1) := by decide +kernel
theorem dX4_abroadPart_27 : decode cX4_abroadPart 27 = .ok (.iconst 1, 1) := by decide +kernel
theorem dX4_abroadPart_28 : decode cX4_abroadPart 28 = .ok (.isub, 1) := by decide +kernel
theorem dX4_abroadPart_29 : decode cX4_abroadPart 29 = .ok (.invokestatic 57, 3) := by decide +kernel
theorem dX4_abroadPart_32 : decode cX4_abroadPart 32 = .ok (.ifCond .eq 12, 3) := by decide +kernel
theorem dX4_abroadPart_35 : decode cX4_abroadPart 35 = .ok (.aload_n 0, 1) := by decide +kernel
theorem dX4_abroadPart_36 : decode cX4_abroadPart 36 = .ok (.iload_n 1, 1) := by decide +kernel
theorem dX4_abroadPart_37 : decode cX4_abroadPart 37 = .ok (.iload_n 2, 1) := by decide +kernel
theorem dX4_abroadPart_38 : decode cX4_abroadPart 38 = .ok (.invokevirtual 94, 3) := by decide +kernel
theorem dX4_abroadPart_41 : decode cX4_abroadPart 41 = .ok (.goto 8, 3) := by decide +kernel
theorem dX4_abroadPart_44 : decode cX4_abroadPart 44 = .ok (.aload_n 0, 1) := by decide +kernel
theorem dX4_abroadPart_45 : decode cX4_abroadPart 45 = .ok (.iconst 1, 1) := by decide +kernel
theorem dX4_abroadPart_46 : decode cX4_abroadPart 46 = .ok (.invokevirtual 77, 3) := by decide +kernel
theorem dX4_abroadPart_49 : decode cX4_abroadPart 49 = .ok (.ireturn, 1) := by decide +kernel
set_option maxRecDepth 20000 in
theorem ggX4_parts_X4_part : GoodIn wsX4_parts wsX4_part := goodIn_r _ [6, 7, 8, 9, 10, 11, 12, 13, 14, 15, 16, 17, 18, 19, 20, 21, 22, 23, 24, 25, 26, 27] (by decide +kernel) (by decide +kernel)
set_option maxRecDepth 20000 in
theorem gX4_parts_X4_part : GoodIn wsX4_parts (wsV RX4 94 RX4 yX4_part wsX4_part) := goodIn_app (goodIn_of _ (by decide +kernel)) ggX4_parts_X4_part
theorem dX4_parts_0 : decode cX4_parts 0 = .ok (.iconst 0, 1) := by decide +kernel
theorem dX4_parts_1 : decode cX4_parts 1 = .ok (.istore_n 2, 1) := by decide +kernel
theorem dX4_parts_2 : decode cX4_parts 2 = .ok (.iconst 0, 1) := by decide +kernel
theorem dX4_parts_3 : decode cX4_parts 3 = .ok (.istore_n 3, 1) := by decide +kernel
theorem dX4_parts_4 : decode cX4_parts 4 = .ok (.iload_n 3, 1) := by decide +kernel
theorem dX4_parts_5 : decode cX4_parts 5 = .ok (.aload_n 0, 1) := by decide +kernel
theorem dX4_parts_6 : decode cX4_parts 6 = .ok (.getfield 40, 3) := by decide +kernel
theorem dX4_parts_9 : decode cX4_parts 9 = .ok (.iload_n 1, 1) := by decide +kernel
theorem dX4_parts_10 : decode cX4_parts 10 = .ok (.iaload, 1) := by decide +kernel
theorem dX4_parts_11 : decode cX4_parts 11 = .ok (.if_icmp .ge 18, 3) := by decide +kernel
theorem dX4_parts_14 : decode cX4_parts 14 = .ok (.iload_n 2, 1) := by decide +kernel
theorem dX4_parts_15 : decode cX4_parts 15 = .ok (.aload_n 0, 1) := by decide +kernel
theorem dX4_parts_16 : decode cX4_parts 16 = .ok (.iload_n 1, 1) := by decide +kernel
theorem dX4_parts_17 : decode cX4_parts 17 = .ok (.iload_n 3, 1) := by decide +kernel
theorem dX4_parts_18 : decode cX4_parts 18 = .ok (.invokevirtual 94, 3) := by decide +kernel
theorem dX4_parts_21 : decode cX4_parts 21 = .ok (.iadd, 1) := by decide +kernel
theorem dX4_parts_22 : decode cX4_parts 22 = .ok (.istore_n 2, 1) := by decide +kernel
theorem dX4_parts_23 : decode cX4_parts 23 = .ok (.iinc 3 1, 3) := by decide +kernel
theorem dX4_parts_26 : decode cX4_parts 26 = .ok (.goto (-22), 3) := by decide +kernel
theorem dX4_parts_29 : decode cX4_parts 29 = .ok (.iload_n 2, 1) := by decide +kernel
theorem dX4_parts_30 : decode cX4_parts 30 = .ok (.ireturn, 1) := by decide +kernel
theorem dX4_whole_0 : decode cX4_whole 0 = .ok (.bipush 12, 2) := by decide +kernel
theorem dX4_whole_2 : decode cX4_whole 2 = .ok (.aload_n 0, 1) := by decide +kernel
theorem dX4_whole_3 : decode cX4_whole 3 = .ok (.getfield 25, 3) := by decide +kernel
theorem dX4_whole_6 : decode cX4_whole 6 = .ok (.iload_n 1, 1) := by decide +kernel
theorem dX4_whole_7 : decode cX4_whole 7 = .ok (.iaload, 1) := by decide +kernel
theorem dX4_whole_8 : decode cX4_whole 8 = .ok (.imul, 1) := by decide +kernel
theorem dX4_whole_9 : decode cX4_whole 9 = .ok (.istore_n 2, 1) := by decide +kernel
theorem dX4_whole_10 : decode cX4_whole 10 = .ok (.iconst 0, 1) := by decide +kernel
theorem dX4_whole_11 : decode cX4_whole 11 = .ok (.istore_n 3, 1) := by decide +kernel
theorem dX4_whole_12 : decode cX4_whole 12 = .ok (.iload_n 3, 1) := by decide +kernel
theorem dX4_whole_13 : decode cX4_whole 13 = .ok (.aload_n 0, 1) := by decide +kernel
theorem dX4_whole_14 : decode cX4_whole 14 = .ok (.getfield 40, 3) := by decide +kernel
theorem dX4_whole_17 : decode cX4_whole 17 = .ok (.iload_n 1, 1) := by decide +kernel
theorem dX4_whole_18 : decode cX4_whole 18 = .ok (.iaload, 1) := by decide +kernel
theorem dX4_whole_19 : decode cX4_whole 19 = .ok (.if_icmp .ge 23, 3) := by decide +kernel
theorem dX4_whole_22 : decode cX4_whole 22 = .ok (.iload_n 2, 1) := by decide +kernel
theorem dX4_whole_23 : decode cX4_whole 23 = .ok (.aload_n 0, 1) := by decide +kernel
theorem dX4_whole_24 : decode cX4_whole 24 = .ok (.getfield 43, 3) := by decide +kernel
theorem dX4_whole_27 : decode cX4_whole 27 = .ok (.bipush 6, 2) := by decide +kernel
theorem dX4_whole_29 : decode cX4_whole 29 = .ok (.iload_n 1, 1) := by decide +kernel
theorem dX4_whole_30 : decode cX4_whole 30 = .ok (.imul, 1) := by decide +kernel
theorem dX4_whole_31 : decode cX4_whole 31 = .ok (.iload_n 3, 1) := by decide +kernel
theorem dX4_whole_32 : decode cX4_whole 32 = .ok (.iadd, 1) := by decide +kernel
theorem dX4_whole_33 : decode cX4_whole 33 = .ok (.iaload, 1) := by decide +kernel
theorem dX4_whole_34 : decode cX4_whole 34 = .ok (.iadd, 1) := by decide +kernel
theorem dX4_whole_35 : decode cX4_whole 35 = .ok (.istore_n 2, 1) := by decide +kernel
theorem dX4_whole_36 : decode cX4_whole 36 = .ok (.iinc 3 1, 3) := by decide +kernel
theorem dX4_whole_39 : decode cX4_whole 39 = .ok (.goto (-27), 3) := by decide +kernel
theorem dX4_whole_42 : decode cX4_whole 42 = .ok (.iload_n 2, 1) := by decide +kernel
theorem dX4_whole_43 : decode cX4_whole 43 = .ok (.ireturn, 1) := by decide +kernel
theorem dX4_months_0 : decode cX4_months 0 = .ok (.aload_n 0, 1) := by decide +kernel
theorem dX4_months_1 : decode cX4_months 1 = .ok (.getfield 31, 3) := by decide +kernel
theorem dX4_months_4 : decode cX4_months 4 = .ok (.iload_n 1, 1) := by decide +kernel
theorem dX4_months_5 : decode cX4_months 5 = .ok (.iaload, 1) := by decide +kernel
theorem dX4_months_6 : decode cX4_months 6 = .ok (.aload_n 0, 1) := by decide +kernel
theorem dX4_months_7 : decode cX4_months 7 = .ok (.getfield 28, 3) := by decide +kernel
theorem dX4_months_10 : decode cX4_months 10 = .ok (.iload_n 1, 1) := by decide +kernel
theorem dX4_months_11 : decode cX4_months 11 = .ok (.iaload, 1) := by decide +kernel
theorem dX4_months_12 : decode cX4_months 12 = .ok (.isub, 1) := by decide +kernel
theorem dX4_months_13 : decode cX4_months 13 = .ok (.ireturn, 1) := by decide +kernel
set_option maxRecDepth 20000 in
theorem ggX4_heldOf_X4_taxOf : GoodIn wsX4_heldOf wsX4_taxOf := goodIn_r _ [8, 9, 10, 11, 12, 13, 14, 15, 16, 17, 18, 19, 20, 21, 22, 23, 24, 25, 26, 27, 28] (by decide +kernel) (by decide +kernel)
set_option maxRecDepth 20000 in
theorem gX4_heldOf_X4_taxOf : GoodIn wsX4_heldOf (wsV RX4 67 RX4 yX4_taxOf wsX4_taxOf) := goodIn_app (goodIn_of _ (by decide +kernel)) ggX4_heldOf_X4_taxOf
theorem dX4_heldOf_0 : decode cX4_heldOf 0 = .ok (.aload_n 0, 1) := by decide +kernel
theorem dX4_heldOf_1 : decode cX4_heldOf 1 = .ok (.aload_n 0, 1) := by decide +kernel
theorem dX4_heldOf_2 : decode cX4_heldOf 2 = .ok (.getfield 19, 3) := by decide +kernel
theorem dX4_heldOf_5 : decode cX4_heldOf 5 = .ok (.iload_n 1, 1) := by decide +kernel
theorem dX4_heldOf_6 : decode cX4_heldOf 6 = .ok (.iaload, 1) := by decide +kernel
theorem dX4_heldOf_7 : decode cX4_heldOf 7 = .ok (.bipush 12, 2) := by decide +kernel
theorem dX4_heldOf_9 : decode cX4_heldOf 9 = .ok (.aload_n 0, 1) := by decide +kernel
theorem dX4_heldOf_10 : decode cX4_heldOf 10 = .ok (.getfield 25, 3) := by decide +kernel
theorem dX4_heldOf_13 : decode cX4_heldOf 13 = .ok (.iload_n 1, 1) := by decide +kernel
theorem dX4_heldOf_14 : decode cX4_heldOf 14 = .ok (.iaload, 1) := by decide +kernel
theorem dX4_heldOf_15 : decode cX4_heldOf 15 = .ok (.imul, 1) := by decide +kernel
theorem dX4_heldOf_16 : decode cX4_heldOf 16 = .ok (.i2l, 1) := by decide +kernel
theorem dX4_heldOf_17 : decode cX4_heldOf 17 = .ok (.invokevirtual 67, 3) := by decide +kernel
theorem dX4_heldOf_20 : decode cX4_heldOf 20 = .ok (.ldc2_w 98, 3) := by decide +kernel
theorem dX4_heldOf_23 : decode cX4_heldOf 23 = .ok (.ldiv, 1) := by decide +kernel
theorem dX4_heldOf_24 : decode cX4_heldOf 24 = .ok (.l2i, 1) := by decide +kernel
theorem dX4_heldOf_25 : decode cX4_heldOf 25 = .ok (.ireturn, 1) := by decide +kernel
set_option maxRecDepth 20000 in
theorem ggX4_supposed_X4_whole : GoodIn wsX4_supposed wsX4_whole := goodIn_r _ [6, 7, 8, 9, 18, 19, 20, 21, 22, 23, 24, 25, 26, 27, 28, 29, 30, 31, 32, 33] (by decide +kernel) (by decide +kernel)
set_option maxRecDepth 20000 in
theorem gX4_supposed_X4_whole : GoodIn wsX4_supposed (wsV RX4 100 RX4 yX4_whole wsX4_whole) := goodIn_app (goodIn_of _ (by decide +kernel)) ggX4_supposed_X4_whole
set_option maxRecDepth 20000 in
theorem ggX4_supposed_X4_taxOf : GoodIn wsX4_supposed wsX4_taxOf := goodIn_r _ [13, 14, 15, 16, 17, 18, 19, 20, 21, 22, 23, 24, 25, 26, 27, 28, 29, 30, 31, 32, 33] (by decide +kernel) (by decide +kernel)
set_option maxRecDepth 20000 in
theorem gX4_supposed_X4_taxOf : GoodIn wsX4_supposed (wsV RX4 67 RX4 yX4_taxOf wsX4_taxOf) := goodIn_app (goodIn_of _ (by decide +kernel)) ggX4_supposed_X4_taxOf
theorem dX4_supposed_0 : decode cX4_supposed 0 = .ok (.aload_n 0, 1) := by decide +kernel
theorem dX4_supposed_1 : decode cX4_supposed 1 = .ok (.aload_n 0, 1) := by decide +kernel
theorem dX4_supposed_2 : decode cX4_supposed 2 = .ok (.getfield 19, 3) := by decide +kernel
theorem dX4_supposed_5 : decode cX4_supposed 5 = .ok (.iload_n 1, 1) := by decide +kernel
theorem dX4_supposed_6 : decode cX4_supposed 6 = .ok (.iaload, 1) := by decide +kernel
theorem dX4_supposed_7 : decode cX4_supposed 7 = .ok (.aload_n 0, 1) := by decide +kernel
theorem dX4_supposed_8 : decode cX4_supposed 8 = .ok (.iload_n 1, 1) := by decide +kernel
theorem dX4_supposed_9 : decode cX4_supposed 9 = .ok (.invokevirtual 100, 3) := by decide +kernel
theorem dX4_supposed_12 : decode cX4_supposed 12 = .ok (.i2l, 1) := by decide +kernel
theorem dX4_supposed_13 : decode cX4_supposed 13 = .ok (.invokevirtual 67, 3) := by decide +kernel
theorem dX4_supposed_16 : decode cX4_supposed 16 = .ok (.l2i, 1) := by decide +kernel
theorem dX4_supposed_17 : decode cX4_supposed 17 = .ok (.ireturn, 1) := by decide +kernel
set_option maxRecDepth 20000 in
theorem ggX4_atHome_X4_whole : GoodIn wsX4_atHome wsX4_whole := goodIn_r _ [6, 1, 7, 8, 25, 26, 27, 28, 29, 30, 31, 32, 33, 34, 35, 36, 37, 38, 39, 40] (by decide +kernel) (by decide +kernel)
set_option maxRecDepth 20000 in
theorem gX4_atHome_X4_whole : GoodIn wsX4_atHome (wsV RX4 100 RX4 yX4_whole wsX4_whole) := goodIn_app (goodIn_of _ (by decide +kernel)) ggX4_atHome_X4_whole
set_option maxRecDepth 20000 in
theorem ggX4_atHome_X4_months : GoodIn wsX4_atHome wsX4_months := goodIn_r _ [12, 13, 14, 25, 26, 27, 28, 29, 30, 31, 32, 33, 34, 35, 36, 37, 38, 39, 40] (by decide +kernel) (by decide +kernel)
set_option maxRecDepth 20000 in
theorem gX4_atHome_X4_months : GoodIn wsX4_atHome (wsV RX4 103 RX4 yX4_months wsX4_months) := goodIn_app (goodIn_of _ (by decide +kernel)) ggX4_atHome_X4_months
set_option maxRecDepth 20000 in
theorem ggX4_atHome_X4_parts : GoodIn wsX4_atHome wsX4_parts := goodIn_r _ [18, 7, 19, 20, 21, 5, 22, 23, 24, 14, 13, 8, 25, 26, 27, 28, 29, 30, 31, 32, 33, 34, 35, 36, 37, 38, 39, 40] (by decide +kernel) (by decide +kernel)
set_option maxRecDepth 20000 in
theorem gX4_atHome_X4_parts : GoodIn wsX4_atHome (wsV RX4 106 RX4 yX4_parts wsX4_parts) := goodIn_app (goodIn_of _ (by decide +kernel)) ggX4_atHome_X4_parts
theorem dX4_atHome_0 : decode cX4_atHome 0 = .ok (.aload_n 0, 1) := by decide +kernel
theorem dX4_atHome_1 : decode cX4_atHome 1 = .ok (.iload_n 1, 1) := by decide +kernel
theorem dX4_atHome_2 : decode cX4_atHome 2 = .ok (.invokevirtual 100, 3) := by decide +kernel
theorem dX4_atHome_5 : decode cX4_atHome 5 = .ok (.aload_n 0, 1) := by decide +kernel
theorem dX4_atHome_6 : decode cX4_atHome 6 = .ok (.getfield 25, 3) := by decide +kernel
theorem dX4_atHome_9 : decode cX4_atHome 9 = .ok (.iload_n 1, 1) := by decide +kernel
theorem dX4_atHome_10 : decode cX4_atHome 10 = .ok (.iaload, 1) := by decide +kernel
theorem dX4_atHome_11 : decode cX4_atHome 11 = .ok (.aload_n 0, 1) := by decide +kernel
theorem dX4_atHome_12 : decode cX4_atHome 12 = .ok (.iload_n 1, 1) := by decide +kernel
theorem dX4_atHome_13 : decode cX4_atHome 13 = .ok (.invokevirtual 103, 3) := by decide +kernel
theorem dX4_atHome_16 : decode cX4_atHome 16 = .ok (.imul, 1) := by decide +kernel
theorem dX4_atHome_17 : decode cX4_atHome 17 = .ok (.isub, 1) := by decide +kernel
theorem dX4_atHome_18 : decode cX4_atHome 18 = .ok (.aload_n 0, 1) := by decide +kernel
theorem dX4_atHome_19 : decode cX4_atHome 19 = .ok (.iload_n 1, 1) := by decide +kernel
theorem dX4_atHome_20 : decode cX4_atHome 20 = .ok (.invokevirtual 106, 3) := by decide +kernel
theorem dX4_atHome_23 : decode cX4_atHome 23 = .ok (.isub, 1) := by decide +kernel
theorem dX4_atHome_24 : decode cX4_atHome 24 = .ok (.ireturn, 1) := by decide +kernel
set_option maxRecDepth 20000 in
theorem ggX4_taxAtHome_X4_whole : GoodIn wsX4_taxAtHome wsX4_whole := goodIn_r _ [6, 7, 8, 9, 38, 39, 40, 41, 42, 43, 44, 45, 46, 47, 48, 49, 50, 51, 52, 53] (by decide +kernel) (by decide +kernel)
set_option maxRecDepth 20000 in
theorem gX4_taxAtHome_X4_whole : GoodIn wsX4_taxAtHome (wsV RX4 100 RX4 yX4_whole wsX4_whole) := goodIn_app (goodIn_of _ (by decide +kernel)) ggX4_taxAtHome_X4_whole
set_option maxRecDepth 20000 in
theorem ggX4_taxAtHome_X4_taxOf : GoodIn wsX4_taxAtHome wsX4_taxOf := goodIn_r _ [13, 14, 15, 16, 17, 38, 39, 40, 41, 42, 43, 44, 45, 46, 47, 48, 49, 50, 51, 52, 53] (by decide +kernel) (by decide +kernel)
set_option maxRecDepth 20000 in
theorem gX4_taxAtHome_X4_taxOf : GoodIn wsX4_taxAtHome (wsV RX4 67 RX4 yX4_taxOf wsX4_taxOf) := goodIn_app (goodIn_of _ (by decide +kernel)) ggX4_taxAtHome_X4_taxOf
set_option maxRecDepth 20000 in
theorem ggX4_taxAtHome_X4_atHome : GoodIn wsX4_taxAtHome wsX4_atHome := goodIn_r _ [21, 7, 2, 3, 4, 5, 6, 8, 9, 22, 23, 24, 25, 26, 27, 28, 29, 30, 31, 32, 33, 34, 35, 36, 37, 38, 39, 40, 41, 42, 43, 44, 45, 46, 47, 48, 49, 50, 51, 52, 53] (by decide +kernel) (by decide +kernel)
set_option maxRecDepth 20000 in
theorem gX4_taxAtHome_X4_atHome : GoodIn wsX4_taxAtHome (wsV RX4 109 RX4 yX4_atHome wsX4_atHome) := goodIn_app (goodIn_of _ (by decide +kernel)) ggX4_taxAtHome_X4_atHome
theorem dX4_taxAtHome_0 : decode cX4_taxAtHome 0 = .ok (.aload_n 0, 1) := by decide +kernel
theorem dX4_taxAtHome_1 : decode cX4_taxAtHome 1 = .ok (.iload_n 1, 1) := by decide +kernel
theorem dX4_taxAtHome_2 : decode cX4_taxAtHome 2 = .ok (.invokevirtual 100, 3) := by decide +kernel
theorem dX4_taxAtHome_5 : decode cX4_taxAtHome 5 = .ok (.istore_n 2, 1) := by decide +kernel
theorem dX4_taxAtHome_6 : decode cX4_taxAtHome 6 = .ok (.iload_n 2, 1) := by decide +kernel
theorem dX4_taxAtHome_7 : decode cX4_taxAtHome 7 = .ok (.ifCond .ne 7, 3) := by decide +kernel
theorem dX4_taxAtHome_10 : decode cX4_taxAtHome 10 = .ok (.iconst 0, 1) := by decide +kernel
theorem dX4_taxAtHome_11 : decode cX4_taxAtHome 11 = .ok (.goto 26, 3) := by decide +kernel
theorem dX4_taxAtHome_14 : decode cX4_taxAtHome 14 = .ok (.aload_n 0, 1) := by decide +kernel
theorem dX4_taxAtHome_15 : decode cX4_taxAtHome 15 = .ok (.aload_n 0, 1) := by decide +kernel
theorem dX4_taxAtHome_16 : decode cX4_taxAtHome 16 = .ok (.getfield 19, 3) := by decide +kernel
theorem dX4_taxAtHome_19 : decode cX4_taxAtHome 19 = .ok (.iload_n 1, 1) := by decide +kernel
theorem dX4_taxAtHome_20 : decode cX4_taxAtHome 20 = .ok (.iaload, 1) := by decide +kernel
theorem dX4_taxAtHome_21 : decode cX4_taxAtHome 21 = .ok (.iload_n 2, 1) := by decide +kernel
theorem dX4_taxAtHome_22 : decode cX4_taxAtHome 22 = .ok (.i2l, 1) := by decide +kernel
theorem dX4_taxAtHome_23 : decode cX4_taxAtHome 23 = .ok (.invokevirtual 67, 3) := by decide +kernel
theorem dX4_taxAtHome_26 : decode cX4_taxAtHome 26 = .ok (.aload_n 0, 1) := by decide +kernel
theorem dX4_taxAtHome_27 : decode cX4_taxAtHome 27 = .ok (.iload_n 1, 1) := by decide +kernel
theorem dX4_taxAtHome_28 : decode cX4_taxAtHome 28 = .ok (.invokevirtual 109, 3) := by decide +kernel
theorem dX4_taxAtHome_31 : decode cX4_taxAtHome 31 = .ok (.i2l, 1) := by decide +kernel
theorem dX4_taxAtHome_32 : decode cX4_taxAtHome 32 = .ok (.lmul, 1) := by decide +kernel
theorem dX4_taxAtHome_33 : decode cX4_taxAtHome 33 = .ok (.iload_n 2, 1) := by decide +kernel
theorem dX4_taxAtHome_34 : decode cX4_taxAtHome 34 = .ok (.i2l, 1) := by decide +kernel
theorem dX4_taxAtHome_35 : decode cX4_taxAtHome 35 = .ok (.ldiv, 1) := by decide +kernel
theorem dX4_taxAtHome_36 : decode cX4_taxAtHome 36 = .ok (.l2i, 1) := by decide +kernel
theorem dX4_taxAtHome_37 : decode cX4_taxAtHome 37 = .ok (.ireturn, 1) := by decide +kernel
set_option maxRecDepth 20000 in
theorem ggX4_abroad_X4_months : GoodIn wsX4_abroad wsX4_months := goodIn_r _ [7, 8, 9, 27, 28, 29, 30, 31, 32, 33, 34, 35, 36, 37, 38, 39, 40, 41, 42] (by decide +kernel) (by decide +kernel)
set_option maxRecDepth 20000 in
theorem gX4_abroad_X4_months : GoodIn wsX4_abroad (wsV RX4 103 RX4 yX4_months wsX4_months) := goodIn_app (goodIn_of _ (by decide +kernel)) ggX4_abroad_X4_months
set_option maxRecDepth 20000 in
theorem ggX4_abroad_X4_parts : GoodIn wsX4_abroad wsX4_parts := goodIn_r _ [13, 14, 15, 16, 17, 6, 18, 19, 20, 9, 8, 21, 27, 28, 29, 30, 31, 32, 33, 34, 35, 36, 37, 38, 39, 40, 41, 42] (by decide +kernel) (by decide +kernel)
set_option maxRecDepth 20000 in
theorem gX4_abroad_X4_parts : GoodIn wsX4_abroad (wsV RX4 106 RX4 yX4_parts wsX4_parts) := goodIn_app (goodIn_of _ (by decide +kernel)) ggX4_abroad_X4_parts
set_option maxRecDepth 20000 in
theorem ggX4_abroad_X4_own : GoodIn wsX4_abroad wsX4_own := goodIn_r _ [25, 1, 26, 2, 27, 28, 29, 30, 31, 32, 33, 34, 35, 36, 37, 38, 39, 40, 41, 42] (by decide +kernel) (by decide +kernel)
set_option maxRecDepth 20000 in
theorem gX4_abroad_X4_own : GoodIn wsX4_abroad (wsV RX4 90 RX4 yX4_own wsX4_own) := goodIn_app (goodIn_of _ (by decide +kernel)) ggX4_abroad_X4_own
theorem dX4_abroad_0 : decode cX4_abroad 0 = .ok (.aload_n 0, 1) := by decide +kernel
theorem dX4_abroad_1 : decode cX4_abroad 1 = .ok (.getfield 25, 3) := by decide +kernel
theorem dX4_abroad_4 : decode cX4_abroad 4 = .ok (.iload_n 1, 1) := by decide +kernel
theorem dX4_abroad_5 : decode cX4_abroad 5 = .ok (.iaload, 1) := by decide +kernel
theorem dX4_abroad_6 : decode cX4_abroad 6 = .ok (.aload_n 0, 1) := by decide +kernel
theorem dX4_abroad_7 : decode cX4_abroad 7 = .ok (.iload_n 1, 1) := by decide +kernel
theorem dX4_abroad_8 : decode cX4_abroad 8 = .ok (.invokevirtual 103, 3) := by decide +kernel
theorem dX4_abroad_11 : decode cX4_abroad 11 = .ok (.imul, 1) := by decide +kernel
theorem dX4_abroad_12 : decode cX4_abroad 12 = .ok (.aload_n 0, 1) := by decide +kernel
theorem dX4_abroad_13 : decode cX4_abroad 13 = .ok (.iload_n 1, 1) := by decide +kernel
theorem dX4_abroad_14 : decode cX4_abroad 14 = .ok (.invokevirtual 106, 3) := by decide +kernel
theorem dX4_abroad_17 : decode cX4_abroad 17 = .ok (.iadd, 1) := by decide +kernel
theorem dX4_abroad_18 : decode cX4_abroad 18 = .ok (.aload_n 0, 1) := by decide +kernel
theorem dX4_abroad_19 : decode cX4_abroad 19 = .ok (.getfield 34, 3) := by decide +kernel
theorem dX4_abroad_22 : decode cX4_abroad 22 = .ok (.iload_n 1, 1) := by decide +kernel
theorem dX4_abroad_23 : decode cX4_abroad 23 = .ok (.iaload, 1) := by decide +kernel
theorem dX4_abroad_24 : decode cX4_abroad 24 = .ok (.aload_n 0, 1) := by decide +kernel
theorem dX4_abroad_25 : decode cX4_abroad 25 = .ok (.iload_n 1, 1) := by decide +kernel
theorem dX4_abroad_26 : decode cX4_abroad 26 = .ok (.invokevirtual 90, 3) := by decide +kernel
theorem dX4_abroad_29 : decode cX4_abroad 29 = .ok (.isub, 1) := by decide +kernel
theorem dX4_abroad_30 : decode cX4_abroad 30 = .ok (.aload_n 0, 1) := by decide +kernel
theorem dX4_abroad_31 : decode cX4_abroad 31 = .ok (.iload_n 1, 1) := by decide +kernel
theorem dX4_abroad_32 : decode cX4_abroad 32 = .ok (.invokevirtual 103, 3) := by decide +kernel
theorem dX4_abroad_35 : decode cX4_abroad 35 = .ok (.imul, 1) := by decide +kernel
theorem dX4_abroad_36 : decode cX4_abroad 36 = .ok (.iadd, 1) := by decide +kernel
theorem dX4_abroad_37 : decode cX4_abroad 37 = .ok (.ireturn, 1) := by decide +kernel
set_option maxRecDepth 20000 in
theorem ggX4_bears_X4_heldOf : GoodIn wsX4_bears wsX4_heldOf := goodIn_r _ [5, 6, 7, 8, 9, 10, 11, 4, 12, 13, 14, 15, 16, 47, 48, 49, 50, 51, 52, 53, 54, 55, 56, 57, 58, 59, 60, 61, 62] (by decide +kernel) (by decide +kernel)
set_option maxRecDepth 20000 in
theorem gX4_bears_X4_heldOf : GoodIn wsX4_bears (wsV RX4 112 RX4 yX4_heldOf wsX4_heldOf) := goodIn_app (goodIn_of _ (by decide +kernel)) ggX4_bears_X4_heldOf
set_option maxRecDepth 20000 in
theorem ggX4_bears_X4_months : GoodIn wsX4_bears wsX4_months := goodIn_r _ [20, 21, 22, 47, 48, 49, 50, 51, 52, 53, 54, 55, 56, 57, 58, 59, 60, 61, 62] (by decide +kernel) (by decide +kernel)
set_option maxRecDepth 20000 in
theorem gX4_bears_X4_months : GoodIn wsX4_bears (wsV RX4 103 RX4 yX4_months wsX4_months) := goodIn_app (goodIn_of _ (by decide +kernel)) ggX4_bears_X4_months
set_option maxRecDepth 20000 in
theorem ggX4_bears_X4_taxAtHome : GoodIn wsX4_bears wsX4_taxAtHome := goodIn_r _ [26, 6, 27, 28, 29, 4, 30, 7, 31, 32, 9, 10, 11, 12, 13, 14, 15, 16, 33, 34, 35, 36, 17, 18, 19, 20, 21, 22, 37, 38, 39, 40, 41, 42, 43, 44, 45, 46, 47, 48, 49, 50, 51, 52, 53, 54, 55, 56, 57, 58, 59, 60, 61, 62] (by decide +kernel) (by decide +kernel)
set_option maxRecDepth 20000 in
theorem gX4_bears_X4_taxAtHome : GoodIn wsX4_bears (wsV RX4 115 RX4 yX4_taxAtHome wsX4_taxAtHome) := goodIn_app (goodIn_of _ (by decide +kernel)) ggX4_bears_X4_taxAtHome
theorem dX4_bears_0 : decode cX4_bears 0 = .ok (.aload_n 0, 1) := by decide +kernel
theorem dX4_bears_1 : decode cX4_bears 1 = .ok (.iload_n 1, 1) := by decide +kernel
theorem dX4_bears_2 : decode cX4_bears 2 = .ok (.invokevirtual 112, 3) := by decide +kernel
theorem dX4_bears_5 : decode cX4_bears 5 = .ok (.aload_n 0, 1) := by decide +kernel
theorem dX4_bears_6 : decode cX4_bears 6 = .ok (.iload_n 1, 1) := by decide +kernel
theorem dX4_bears_7 : decode cX4_bears 7 = .ok (.invokevirtual 103, 3) := by decide +kernel
theorem dX4_bears_10 : decode cX4_bears 10 = .ok (.imul, 1) := by decide +kernel
theorem dX4_bears_11 : decode cX4_bears 11 = .ok (.aload_n 0, 1) := by decide +kernel
theorem dX4_bears_12 : decode cX4_bears 12 = .ok (.iload_n 1, 1) := by decide +kernel
theorem dX4_bears_13 : decode cX4_bears 13 = .ok (.invokevirtual 115, 3) := by decide +kernel
theorem dX4_bears_16 : decode cX4_bears 16 = .ok (.iadd, 1) := by decide +kernel
theorem dX4_bears_17 : decode cX4_bears 17 = .ok (.ireturn, 1) := by decide +kernel
set_option maxRecDepth 20000 in
theorem ggX4_costOf_X4_abroad : GoodIn wsX4_costOf wsX4_abroad := goodIn_r _ [7, 8, 2, 9, 10, 11, 6, 12, 13, 14, 15, 16, 17, 18, 19, 20, 21, 22, 23, 24, 25, 26, 27, 28, 29, 30, 31, 71, 72, 73, 74, 75, 76, 77, 78, 79, 80, 81, 82, 83, 84, 85, 86] (by decide +kernel) (by decide +kernel)
set_option maxRecDepth 20000 in
theorem gX4_costOf_X4_abroad : GoodIn wsX4_costOf (wsV RX4 118 RX4 yX4_abroad wsX4_abroad) := goodIn_app (goodIn_of _ (by decide +kernel)) ggX4_costOf_X4_abroad
set_option maxRecDepth 20000 in
theorem ggX4_costOf_X4_gross : GoodIn wsX4_costOf wsX4_gross := goodIn_r _ [35, 36, 37, 38, 39, 6, 40, 41, 42, 43, 44, 71, 72, 73, 74, 75, 76, 77, 78, 79, 80, 81, 82, 83, 84, 85, 86] (by decide +kernel) (by decide +kernel)
set_option maxRecDepth 20000 in
theorem gX4_costOf_X4_gross : GoodIn wsX4_costOf (wsV RX4 81 RX4 yX4_gross wsX4_gross) := goodIn_app (goodIn_of _ (by decide +kernel)) ggX4_costOf_X4_gross
set_option maxRecDepth 20000 in
theorem ggX4_costOf_X4_own : GoodIn wsX4_costOf wsX4_own := goodIn_r _ [30, 8, 31, 2, 71, 72, 73, 74, 75, 76, 77, 78, 79, 80, 81, 82, 83, 84, 85, 86] (by decide +kernel) (by decide +kernel)
set_option maxRecDepth 20000 in
theorem gX4_costOf_X4_own : GoodIn wsX4_costOf (wsV RX4 90 RX4 yX4_own wsX4_own) := goodIn_app (goodIn_of _ (by decide +kernel)) ggX4_costOf_X4_own
set_option maxRecDepth 20000 in
theorem ggX4_costOf_X4_heldOf : GoodIn wsX4_costOf wsX4_heldOf := goodIn_r _ [48, 49, 8, 50, 37, 38, 39, 6, 40, 41, 42, 43, 44, 71, 72, 73, 74, 75, 76, 77, 78, 79, 80, 81, 82, 83, 84, 85, 86] (by decide +kernel) (by decide +kernel)
set_option maxRecDepth 20000 in
theorem gX4_costOf_X4_heldOf : GoodIn wsX4_costOf (wsV RX4 112 RX4 yX4_heldOf wsX4_heldOf) := goodIn_app (goodIn_of _ (by decide +kernel)) ggX4_costOf_X4_heldOf
set_option maxRecDepth 20000 in
theorem ggX4_costOf_X4_months : GoodIn wsX4_costOf wsX4_months := goodIn_r _ [12, 13, 14, 71, 72, 73, 74, 75, 76, 77, 78, 79, 80, 81, 82, 83, 84, 85, 86] (by decide +kernel) (by decide +kernel)
set_option maxRecDepth 20000 in
theorem gX4_costOf_X4_months : GoodIn wsX4_costOf (wsV RX4 103 RX4 yX4_months wsX4_months) := goodIn_app (goodIn_of _ (by decide +kernel)) ggX4_costOf_X4_months
set_option maxRecDepth 20000 in
theorem ggX4_costOf_X4_supposed : GoodIn wsX4_costOf wsX4_supposed := goodIn_r _ [54, 49, 55, 56, 57, 6, 58, 8, 19, 26, 37, 38, 39, 40, 41, 42, 43, 44, 71, 72, 73, 74, 75, 76, 77, 78, 79, 80, 81, 82, 83, 84, 85, 86] (by decide +kernel) (by decide +kernel)
set_option maxRecDepth 20000 in
theorem gX4_costOf_X4_supposed : GoodIn wsX4_costOf (wsV RX4 121 RX4 yX4_supposed wsX4_supposed) := goodIn_app (goodIn_of _ (by decide +kernel)) ggX4_costOf_X4_supposed
set_option maxRecDepth 20000 in
theorem ggX4_costOf_X4_bears : GoodIn wsX4_costOf wsX4_bears := goodIn_r _ [62, 45, 46, 47, 6, 48, 49, 8, 50, 37, 38, 39, 40, 41, 42, 43, 44, 9, 10, 11, 12, 13, 14, 63, 64, 65, 66, 55, 56, 57, 58, 19, 26, 67, 68, 69, 70, 15, 16, 17, 18, 20, 21, 22, 23, 24, 25, 71, 72, 73, 74, 75, 76, 77, 78, 79, 80, 81, 82, 83, 84, 85, 86] (by decide +kernel) (by decide +kernel)
set_option maxRecDepth 20000 in
theorem gX4_costOf_X4_bears : GoodIn wsX4_costOf (wsV RX4 124 RX4 yX4_bears wsX4_bears) := goodIn_app (goodIn_of _ (by decide +kernel)) ggX4_costOf_X4_bears
theorem dX4_costOf_0 : decode cX4_costOf 0 = .ok (.aload_n 0, 1) := by decide +kernel
theorem dX4_costOf_1 : decode cX4_costOf 1 = .ok (.aload_n 0, 1) := by decide +kernel
theorem dX4_costOf_2 : decode cX4_costOf 2 = .ok (.getfield 22, 3) := by decide +kernel
theorem dX4_costOf_5 : decode cX4_costOf 5 = .ok (.iload_n 1, 1) := by decide +kernel
theorem dX4_costOf_6 : decode cX4_costOf 6 = .ok (.iaload, 1) := by decide +kernel
theorem dX4_costOf_7 : decode cX4_costOf 7 = .ok (.aload_n 0, 1) := by decide +kernel
theorem dX4_costOf_8 : decode cX4_costOf 8 = .ok (.iload_n 1, 1) := by decide +kernel
theorem dX4_costOf_9 : decode cX4_costOf 9 = .ok (.invokevirtual 118, 3) := by decide +kernel
theorem dX4_costOf_12 : decode cX4_costOf 12 = .ok (.i2l, 1) := by decide +kernel
theorem dX4_costOf_13 : decode cX4_costOf 13 = .ok (.invokevirtual 81, 3) := by decide +kernel
theorem dX4_costOf_16 : decode cX4_costOf 16 = .ok (.aload_n 0, 1) := by decide +kernel
theorem dX4_costOf_17 : decode cX4_costOf 17 = .ok (.getfield 34, 3) := by decide +kernel
theorem dX4_costOf_20 : decode cX4_costOf 20 = .ok (.iload_n 1, 1) := by decide +kernel
theorem dX4_costOf_21 : decode cX4_costOf 21 = .ok (.iaload, 1) := by decide +kernel
theorem dX4_costOf_22 : decode cX4_costOf 22 = .ok (.aload_n 0, 1) := by decide +kernel
theorem dX4_costOf_23 : decode cX4_costOf 23 = .ok (.iload_n 1, 1) := by decide +kernel
theorem dX4_costOf_24 : decode cX4_costOf 24 = .ok (.invokevirtual 90, 3) := by decide +kernel
theorem dX4_costOf_27 : decode cX4_costOf 27 = .ok (.isub, 1) := by decide +kernel
theorem dX4_costOf_28 : decode cX4_costOf 28 = .ok (.aload_n 0, 1) := by decide +kernel
theorem dX4_costOf_29 : decode cX4_costOf 29 = .ok (.iload_n 1, 1) := by decide +kernel
theorem dX4_costOf_30 : decode cX4_costOf 30 = .ok (.invokevirtual 112, 3) := by decide +kernel
theorem dX4_costOf_33 : decode cX4_costOf 33 = .ok (.isub, 1) := by decide +kernel
theorem dX4_costOf_34 : decode cX4_costOf 34 = .ok (.aload_n 0, 1) := by decide +kernel
theorem dX4_costOf_35 : decode cX4_costOf 35 = .ok (.iload_n 1, 1) := by decide +kernel
theorem dX4_costOf_36 : decode cX4_costOf 36 = .ok (.invokevirtual 103, 3) := by decide +kernel
theorem dX4_costOf_39 : decode cX4_costOf 39 = .ok (.imul, 1) := by decide +kernel
theorem dX4_costOf_40 : decode cX4_costOf 40 = .ok (.iadd, 1) := by decide +kernel
theorem dX4_costOf_41 : decode cX4_costOf 41 = .ok (.aload_n 0, 1) := by decide +kernel
theorem dX4_costOf_42 : decode cX4_costOf 42 = .ok (.iload_n 1, 1) := by decide +kernel
theorem dX4_costOf_43 : decode cX4_costOf 43 = .ok (.invokevirtual 121, 3) := by decide +kernel
theorem dX4_costOf_46 : decode cX4_costOf 46 = .ok (.isub, 1) := by decide +kernel
theorem dX4_costOf_47 : decode cX4_costOf 47 = .ok (.aload_n 0, 1) := by decide +kernel
theorem dX4_costOf_48 : decode cX4_costOf 48 = .ok (.iload_n 1, 1) := by decide +kernel
theorem dX4_costOf_49 : decode cX4_costOf 49 = .ok (.invokevirtual 124, 3) := by decide +kernel
theorem dX4_costOf_52 : decode cX4_costOf 52 = .ok (.iadd, 1) := by decide +kernel
theorem dX4_costOf_53 : decode cX4_costOf 53 = .ok (.ireturn, 1) := by decide +kernel
set_option maxRecDepth 20000 in
theorem ggX4_held_X4_isAsked : GoodIn wsX4_held wsX4_isAsked := goodIn_r _ [7, 8, 9, 10, 11, 6, 12, 32, 33, 34, 35, 36, 37, 38, 39, 40, 41, 42, 43, 44, 45, 46, 47] (by decide +kernel) (by decide +kernel)
set_option maxRecDepth 20000 in
theorem gX4_held_X4_isAsked : GoodIn wsX4_held (wsV RX4 86 RX4 yX4_isAsked wsX4_isAsked) := goodIn_app (goodIn_of _ (by decide +kernel)) ggX4_held_X4_isAsked
set_option maxRecDepth 20000 in
theorem ggX4_held_X4_in : GoodIn wsX4_held wsX4_in := goodIn_r _ [12] (by decide +kernel) (by decide +kernel)
set_option maxRecDepth 20000 in
theorem gX4_held_X4_in : GoodIn wsX4_held (va_wsS RX4 57 yX4_in wsX4_in) := goodIn_app (goodIn_of _ (by decide +kernel)) ggX4_held_X4_in
set_option maxRecDepth 20000 in
theorem ggX4_held_X4_fails : GoodIn wsX4_held wsX4_fails := goodIn_r _ [16, 9, 32, 33, 34, 35, 36, 37, 38, 39, 40, 41, 42, 43, 44, 45, 46, 47] (by decide +kernel) (by decide +kernel)
set_option maxRecDepth 20000 in
theorem gX4_held_X4_fails : GoodIn wsX4_held (wsV RX4 77 RX4 yX4_fails wsX4_fails) := goodIn_app (goodIn_of _ (by decide +kernel)) ggX4_held_X4_fails
set_option maxRecDepth 20000 in
theorem ggX4_held_X4_heldOf : GoodIn wsX4_held wsX4_heldOf := goodIn_r _ [20, 21, 22, 23, 24, 25, 26, 6, 27, 28, 29, 30, 31, 32, 33, 34, 35, 36, 37, 38, 39, 40, 41, 42, 43, 44, 45, 46, 47] (by decide +kernel) (by decide +kernel)
set_option maxRecDepth 20000 in
theorem gX4_held_X4_heldOf : GoodIn wsX4_held (wsV RX4 112 RX4 yX4_heldOf wsX4_heldOf) := goodIn_app (goodIn_of _ (by decide +kernel)) ggX4_held_X4_heldOf
theorem dX4_held_0 : decode cX4_held 0 = .ok (.aload_n 0, 1) := by decide +kernel
theorem dX4_held_1 : decode cX4_held 1 = .ok (.iload_n 1, 1) := by decide +kernel
theorem dX4_held_2 : decode cX4_held 2 = .ok (.invokevirtual 86, 3) := by decide +kernel
theorem dX4_held_5 : decode cX4_held 5 = .ok (.ifCond .ne 5, 3) := by decide +kernel
theorem dX4_held_8 : decode cX4_held 8 = .ok (.iconst 0, 1) := by decide +kernel
theorem dX4_held_9 : decode cX4_held 9 = .ok (.ireturn, 1) := by decide +kernel
theorem dX4_held_10 : decode cX4_held 10 = .ok (.iload_n 2, 1) := by decide +kernel
theorem dX4_held_11 : decode cX4_held 11 = .ok (.iconst 0, 1) := by decide +kernel
theorem dX4_held_12 : decode cX4_held 12 = .ok (.bipush 11, 2) := by decide +kernel
theorem dX4_held_14 : decode cX4_held 14 = .ok (.invokestatic 57, 3) := by decide +kernel
theorem dX4_held_17 : decode cX4_held 17 = .ok (.ifCond .ne 9, 3) := by decide +kernel
theorem dX4_held_20 : decode cX4_held 20 = .ok (.aload_n 0, 1) := by decide +kernel
theorem dX4_held_21 : decode cX4_held 21 = .ok (.iconst 2, 1) := by decide +kernel
theorem dX4_held_22 : decode cX4_held 22 = .ok (.invokevirtual 77, 3) := by decide +kernel
theorem dX4_held_25 : decode cX4_held 25 = .ok (.ireturn, 1) := by decide +kernel
theorem dX4_held_26 : decode cX4_held 26 = .ok (.iload_n 2, 1) := by decide +kernel
theorem dX4_held_27 : decode cX4_held 27 = .ok (.aload_n 0, 1) := by decide +kernel
theorem dX4_held_28 : decode cX4_held 28 = .ok (.getfield 28, 3) := by decide +kernel
theorem dX4_held_31 : decode cX4_held 31 = .ok (.iload_n 1, 1) := by decide +kernel
theorem dX4_held_32 : decode cX4_held 32 = .ok (.iaload, 1) := by decide +kernel
theorem dX4_held_33 : decode cX4_held 33 = .ok (.if_icmp .lt 21, 3) := by decide +kernel
theorem dX4_held_36 : decode cX4_held 36 = .ok (.iload_n 2, 1) := by decide +kernel
theorem dX4_held_37 : decode cX4_held 37 = .ok (.aload_n 0, 1) := by decide +kernel
theorem dX4_held_38 : decode cX4_held 38 = .ok (.getfield 31, 3) := by decide +kernel
theorem dX4_held_41 : decode cX4_held 41 = .ok (.iload_n 1, 1) := by decide +kernel
theorem dX4_held_42 : decode cX4_held 42 = .ok (.iaload, 1) := by decide +kernel
theorem dX4_held_43 : decode cX4_held 43 = .ok (.if_icmp .ge 11, 3) := by decide +kernel
theorem dX4_held_46 : decode cX4_held 46 = .ok (.aload_n 0, 1) := by decide +kernel
theorem dX4_held_47 : decode cX4_held 47 = .ok (.iload_n 1, 1) := by decide +kernel
theorem dX4_held_48 : decode cX4_held 48 = .ok (.invokevirtual 112, 3) := by decide +kernel
theorem dX4_held_51 : decode cX4_held 51 = .ok (.goto 4, 3) := by decide +kernel
theorem dX4_held_54 : decode cX4_held 54 = .ok (.iconst 0, 1) := by decide +kernel
theorem dX4_held_55 : decode cX4_held 55 = .ok (.ireturn, 1) := by decide +kernel
set_option maxRecDepth 20000 in
theorem ggX4_supposedTax_X4_isAsked : GoodIn wsX4_supposedTax wsX4_isAsked := goodIn_r _ [5, 6, 7, 8, 9, 4, 10, 31, 32, 33, 34, 35, 36, 37, 38, 39, 40, 41, 42, 43, 44, 45, 46] (by decide +kernel) (by decide +kernel)
set_option maxRecDepth 20000 in
theorem gX4_supposedTax_X4_isAsked : GoodIn wsX4_supposedTax (wsV RX4 86 RX4 yX4_isAsked wsX4_isAsked) := goodIn_app (goodIn_of _ (by decide +kernel)) ggX4_supposedTax_X4_isAsked
set_option maxRecDepth 20000 in
theorem ggX4_supposedTax_X4_supposed : GoodIn wsX4_supposedTax wsX4_supposed := goodIn_r _ [14, 15, 16, 17, 18, 4, 19, 20, 21, 22, 23, 24, 25, 26, 27, 28, 29, 30, 31, 32, 33, 34, 35, 36, 37, 38, 39, 40, 41, 42, 43, 44, 45, 46] (by decide +kernel) (by decide +kernel)
set_option maxRecDepth 20000 in
theorem gX4_supposedTax_X4_supposed : GoodIn wsX4_supposedTax (wsV RX4 121 RX4 yX4_supposed wsX4_supposed) := goodIn_app (goodIn_of _ (by decide +kernel)) ggX4_supposedTax_X4_supposed
theorem dX4_supposedTax_0 : decode cX4_supposedTax 0 = .ok (.aload_n 0, 1) := by decide +kernel
theorem dX4_supposedTax_1 : decode cX4_supposedTax 1 = .ok (.iload_n 1, 1) := by decide +kernel
theorem dX4_supposedTax_2 : decode cX4_supposedTax 2 = .ok (.invokevirtual 86, 3) := by decide +kernel
theorem dX4_supposedTax_5 : decode cX4_supposedTax 5 = .ok (.ifCond .eq 11, 3) := by decide +kernel
theorem dX4_supposedTax_8 : decode cX4_supposedTax 8 = .ok (.aload_n 0, 1) := by decide +kernel
theorem dX4_supposedTax_9 : decode cX4_supposedTax 9 = .ok (.iload_n 1, 1) := by decide +kernel
theorem dX4_supposedTax_10 : decode cX4_supposedTax 10 = .ok (.invokevirtual 121, 3) := by decide +kernel
theorem dX4_supposedTax_13 : decode cX4_supposedTax 13 = .ok (.goto 4, 3) := by decide +kernel
theorem dX4_supposedTax_16 : decode cX4_supposedTax 16 = .ok (.iconst 0, 1) := by decide +kernel
theorem dX4_supposedTax_17 : decode cX4_supposedTax 17 = .ok (.ireturn, 1) := by decide +kernel
set_option maxRecDepth 20000 in
theorem ggX4_homeIncome_X4_isAsked : GoodIn wsX4_homeIncome wsX4_isAsked := goodIn_r _ [5, 6, 7, 8, 9, 4, 10, 38, 39, 40, 41, 42, 43, 44, 45, 46, 47, 48, 49, 50, 51, 52, 53] (by decide +kernel) (by decide +kernel)
set_option maxRecDepth 20000 in
theorem gX4_homeIncome_X4_isAsked : GoodIn wsX4_homeIncome (wsV RX4 86 RX4 yX4_isAsked wsX4_isAsked) := goodIn_app (goodIn_of _ (by decide +kernel)) ggX4_homeIncome_X4_isAsked
set_option maxRecDepth 20000 in
theorem ggX4_homeIncome_X4_atHome : GoodIn wsX4_homeIncome wsX4_atHome := goodIn_r _ [14, 15, 16, 17, 18, 4, 19, 20, 21, 22, 23, 24, 25, 26, 27, 28, 29, 30, 31, 32, 33, 34, 35, 36, 37, 38, 39, 40, 41, 42, 43, 44, 45, 46, 47, 48, 49, 50, 51, 52, 53] (by decide +kernel) (by decide +kernel)
set_option maxRecDepth 20000 in
theorem gX4_homeIncome_X4_atHome : GoodIn wsX4_homeIncome (wsV RX4 109 RX4 yX4_atHome wsX4_atHome) := goodIn_app (goodIn_of _ (by decide +kernel)) ggX4_homeIncome_X4_atHome
theorem dX4_homeIncome_0 : decode cX4_homeIncome 0 = .ok (.aload_n 0, 1) := by decide +kernel
theorem dX4_homeIncome_1 : decode cX4_homeIncome 1 = .ok (.iload_n 1, 1) := by decide +kernel
theorem dX4_homeIncome_2 : decode cX4_homeIncome 2 = .ok (.invokevirtual 86, 3) := by decide +kernel
theorem dX4_homeIncome_5 : decode cX4_homeIncome 5 = .ok (.ifCond .eq 11, 3) := by decide +kernel
theorem dX4_homeIncome_8 : decode cX4_homeIncome 8 = .ok (.aload_n 0, 1) := by decide +kernel
theorem dX4_homeIncome_9 : decode cX4_homeIncome 9 = .ok (.iload_n 1, 1) := by decide +kernel
theorem dX4_homeIncome_10 : decode cX4_homeIncome 10 = .ok (.invokevirtual 109, 3) := by decide +kernel
theorem dX4_homeIncome_13 : decode cX4_homeIncome 13 = .ok (.goto 4, 3) := by decide +kernel
theorem dX4_homeIncome_16 : decode cX4_homeIncome 16 = .ok (.iconst 0, 1) := by decide +kernel
theorem dX4_homeIncome_17 : decode cX4_homeIncome 17 = .ok (.ireturn, 1) := by decide +kernel
set_option maxRecDepth 20000 in
theorem ggX4_homeTax_X4_isAsked : GoodIn wsX4_homeTax wsX4_isAsked := goodIn_r _ [5, 6, 7, 8, 9, 4, 10, 51, 52, 53, 54, 55, 56, 57, 58, 59, 60, 61, 62, 63, 64, 65, 66] (by decide +kernel) (by decide +kernel)
set_option maxRecDepth 20000 in
theorem gX4_homeTax_X4_isAsked : GoodIn wsX4_homeTax (wsV RX4 86 RX4 yX4_isAsked wsX4_isAsked) := goodIn_app (goodIn_of _ (by decide +kernel)) ggX4_homeTax_X4_isAsked
set_option maxRecDepth 20000 in
theorem ggX4_homeTax_X4_taxAtHome : GoodIn wsX4_homeTax wsX4_taxAtHome := goodIn_r _ [14, 15, 16, 17, 18, 4, 19, 20, 21, 22, 23, 24, 25, 26, 27, 28, 29, 30, 31, 32, 33, 34, 35, 36, 37, 38, 39, 40, 41, 42, 43, 44, 45, 46, 47, 48, 49, 50, 51, 52, 53, 54, 55, 56, 57, 58, 59, 60, 61, 62, 63, 64, 65, 66] (by decide +kernel) (by decide +kernel)
set_option maxRecDepth 20000 in
theorem gX4_homeTax_X4_taxAtHome : GoodIn wsX4_homeTax (wsV RX4 115 RX4 yX4_taxAtHome wsX4_taxAtHome) := goodIn_app (goodIn_of _ (by decide +kernel)) ggX4_homeTax_X4_taxAtHome
theorem dX4_homeTax_0 : decode cX4_homeTax 0 = .ok (.aload_n 0, 1) := by decide +kernel
theorem dX4_homeTax_1 : decode cX4_homeTax 1 = .ok (.iload_n 1, 1) := by decide +kernel
theorem dX4_homeTax_2 : decode cX4_homeTax 2 = .ok (.invokevirtual 86, 3) := by decide +kernel
theorem dX4_homeTax_5 : decode cX4_homeTax 5 = .ok (.ifCond .eq 11, 3) := by decide +kernel
theorem dX4_homeTax_8 : decode cX4_homeTax 8 = .ok (.aload_n 0, 1) := by decide +kernel
theorem dX4_homeTax_9 : decode cX4_homeTax 9 = .ok (.iload_n 1, 1) := by decide +kernel
theorem dX4_homeTax_10 : decode cX4_homeTax 10 = .ok (.invokevirtual 115, 3) := by decide +kernel
theorem dX4_homeTax_13 : decode cX4_homeTax 13 = .ok (.goto 4, 3) := by decide +kernel
theorem dX4_homeTax_16 : decode cX4_homeTax 16 = .ok (.iconst 0, 1) := by decide +kernel
theorem dX4_homeTax_17 : decode cX4_homeTax 17 = .ok (.ireturn, 1) := by decide +kernel
set_option maxRecDepth 20000 in
theorem ggX4_hostIncome_X4_isAsked : GoodIn wsX4_hostIncome wsX4_isAsked := goodIn_r _ [5, 6, 7, 8, 9, 4, 10, 40, 41, 42, 43, 44, 45, 46, 47, 48, 49, 50, 51, 52, 53, 54, 55] (by decide +kernel) (by decide +kernel)
set_option maxRecDepth 20000 in
theorem gX4_hostIncome_X4_isAsked : GoodIn wsX4_hostIncome (wsV RX4 86 RX4 yX4_isAsked wsX4_isAsked) := goodIn_app (goodIn_of _ (by decide +kernel)) ggX4_hostIncome_X4_isAsked
set_option maxRecDepth 20000 in
theorem ggX4_hostIncome_X4_abroad : GoodIn wsX4_hostIncome wsX4_abroad := goodIn_r _ [14, 15, 16, 17, 18, 19, 4, 20, 21, 22, 23, 24, 25, 26, 27, 28, 29, 30, 31, 32, 33, 34, 35, 36, 37, 38, 39, 40, 41, 42, 43, 44, 45, 46, 47, 48, 49, 50, 51, 52, 53, 54, 55] (by decide +kernel) (by decide +kernel)
set_option maxRecDepth 20000 in
theorem gX4_hostIncome_X4_abroad : GoodIn wsX4_hostIncome (wsV RX4 118 RX4 yX4_abroad wsX4_abroad) := goodIn_app (goodIn_of _ (by decide +kernel)) ggX4_hostIncome_X4_abroad
theorem dX4_hostIncome_0 : decode cX4_hostIncome 0 = .ok (.aload_n 0, 1) := by decide +kernel
theorem dX4_hostIncome_1 : decode cX4_hostIncome 1 = .ok (.iload_n 1, 1) := by decide +kernel
theorem dX4_hostIncome_2 : decode cX4_hostIncome 2 = .ok (.invokevirtual 86, 3) := by decide +kernel
theorem dX4_hostIncome_5 : decode cX4_hostIncome 5 = .ok (.ifCond .eq 11, 3) := by decide +kernel
theorem dX4_hostIncome_8 : decode cX4_hostIncome 8 = .ok (.aload_n 0, 1) := by decide +kernel
theorem dX4_hostIncome_9 : decode cX4_hostIncome 9 = .ok (.iload_n 1, 1) := by decide +kernel
theorem dX4_hostIncome_10 : decode cX4_hostIncome 10 = .ok (.invokevirtual 118, 3) := by decide +kernel
theorem dX4_hostIncome_13 : decode cX4_hostIncome 13 = .ok (.goto 4, 3) := by decide +kernel
theorem dX4_hostIncome_16 : decode cX4_hostIncome 16 = .ok (.iconst 0, 1) := by decide +kernel
theorem dX4_hostIncome_17 : decode cX4_hostIncome 17 = .ok (.ireturn, 1) := by decide +kernel
set_option maxRecDepth 20000 in
theorem ggX4_hostTax_X4_isAsked : GoodIn wsX4_hostTax wsX4_isAsked := goodIn_r _ [6, 7, 8, 9, 10, 5, 11, 54, 55, 56, 57, 58, 59, 60, 61, 62, 63, 64, 65, 66, 67, 68, 69] (by decide +kernel) (by decide +kernel)
set_option maxRecDepth 20000 in
theorem gX4_hostTax_X4_isAsked : GoodIn wsX4_hostTax (wsV RX4 86 RX4 yX4_isAsked wsX4_isAsked) := goodIn_app (goodIn_of _ (by decide +kernel)) ggX4_hostTax_X4_isAsked
set_option maxRecDepth 20000 in
theorem ggX4_hostTax_X4_abroad : GoodIn wsX4_hostTax wsX4_abroad := goodIn_r _ [15, 16, 17, 18, 19, 20, 5, 21, 22, 23, 24, 25, 26, 27, 28, 29, 30, 31, 32, 33, 34, 35, 36, 37, 38, 39, 40, 54, 55, 56, 57, 58, 59, 60, 61, 62, 63, 64, 65, 66, 67, 68, 69] (by decide +kernel) (by decide +kernel)
set_option maxRecDepth 20000 in
theorem gX4_hostTax_X4_abroad : GoodIn wsX4_hostTax (wsV RX4 118 RX4 yX4_abroad wsX4_abroad) := goodIn_app (goodIn_of _ (by decide +kernel)) ggX4_hostTax_X4_abroad
set_option maxRecDepth 20000 in
theorem ggX4_hostTax_X4_gross : GoodIn wsX4_hostTax wsX4_gross := goodIn_r _ [44, 45, 46, 47, 48, 5, 49, 50, 51, 52, 53, 54, 55, 56, 57, 58, 59, 60, 61, 62, 63, 64, 65, 66, 67, 68, 69] (by decide +kernel) (by decide +kernel)
set_option maxRecDepth 20000 in
theorem gX4_hostTax_X4_gross : GoodIn wsX4_hostTax (wsV RX4 81 RX4 yX4_gross wsX4_gross) := goodIn_app (goodIn_of _ (by decide +kernel)) ggX4_hostTax_X4_gross
theorem dX4_hostTax_0 : decode cX4_hostTax 0 = .ok (.aload_n 0, 1) := by decide +kernel
theorem dX4_hostTax_1 : decode cX4_hostTax 1 = .ok (.iload_n 1, 1) := by decide +kernel
theorem dX4_hostTax_2 : decode cX4_hostTax 2 = .ok (.invokevirtual 86, 3) := by decide +kernel
theorem dX4_hostTax_5 : decode cX4_hostTax 5 = .ok (.ifCond .eq 22, 3) := by decide +kernel
theorem dX4_hostTax_8 : decode cX4_hostTax 8 = .ok (.aload_n 0, 1) := by decide +kernel
theorem dX4_hostTax_9 : decode cX4_hostTax 9 = .ok (.aload_n 0, 1) := by decide +kernel
theorem dX4_hostTax_10 : decode cX4_hostTax 10 = .ok (.getfield 22, 3) := by decide +kernel
theorem dX4_hostTax_13 : decode cX4_hostTax 13 = .ok (.iload_n 1, 1) := by decide +kernel
theorem dX4_hostTax_14 : decode cX4_hostTax 14 = .ok (.iaload, 1) := by decide +kernel
theorem dX4_hostTax_15 : decode cX4_hostTax 15 = .ok (.aload_n 0, 1) := by decide +kernel
theorem dX4_hostTax_16 : decode cX4_hostTax 16 = .ok (.iload_n 1, 1) := by decide +kernel
theorem dX4_hostTax_17 : decode cX4_hostTax 17 = .ok (.invokevirtual 118, 3) := by decide +kernel
theorem dX4_hostTax_20 : decode cX4_hostTax 20 = .ok (.i2l, 1) := by decide +kernel
theorem dX4_hostTax_21 : decode cX4_hostTax 21 = .ok (.invokevirtual 81, 3) := by decide +kernel
theorem dX4_hostTax_24 : decode cX4_hostTax 24 = .ok (.goto 4, 3) := by decide +kernel
theorem dX4_hostTax_27 : decode cX4_hostTax 27 = .ok (.iconst 0, 1) := by decide +kernel
theorem dX4_hostTax_28 : decode cX4_hostTax 28 = .ok (.ireturn, 1) := by decide +kernel
set_option maxRecDepth 20000 in
theorem ggX4_borne_X4_isAsked : GoodIn wsX4_borne wsX4_isAsked := goodIn_r _ [5, 6, 7, 8, 9, 4, 10, 60, 61, 62, 63, 64, 65, 66, 67, 68, 69, 70, 71, 72, 73, 74, 75] (by decide +kernel) (by decide +kernel)
set_option maxRecDepth 20000 in
theorem gX4_borne_X4_isAsked : GoodIn wsX4_borne (wsV RX4 86 RX4 yX4_isAsked wsX4_isAsked) := goodIn_app (goodIn_of _ (by decide +kernel)) ggX4_borne_X4_isAsked
set_option maxRecDepth 20000 in
theorem ggX4_borne_X4_bears : GoodIn wsX4_borne wsX4_bears := goodIn_r _ [14, 15, 16, 17, 4, 18, 19, 20, 21, 22, 23, 24, 25, 26, 27, 28, 29, 30, 31, 32, 33, 34, 35, 36, 37, 38, 39, 40, 41, 42, 43, 44, 45, 46, 47, 48, 49, 50, 51, 52, 53, 54, 55, 56, 57, 58, 59, 60, 61, 62, 63, 64, 65, 66, 67, 68, 69, 70, 71, 72, 73, 74, 75] (by decide +kernel) (by decide +kernel)
set_option maxRecDepth 20000 in
theorem gX4_borne_X4_bears : GoodIn wsX4_borne (wsV RX4 124 RX4 yX4_bears wsX4_bears) := goodIn_app (goodIn_of _ (by decide +kernel)) ggX4_borne_X4_bears
theorem dX4_borne_0 : decode cX4_borne 0 = .ok (.aload_n 0, 1) := by decide +kernel
theorem dX4_borne_1 : decode cX4_borne 1 = .ok (.iload_n 1, 1) := by decide +kernel
theorem dX4_borne_2 : decode cX4_borne 2 = .ok (.invokevirtual 86, 3) := by decide +kernel
theorem dX4_borne_5 : decode cX4_borne 5 = .ok (.ifCond .eq 11, 3) := by decide +kernel
theorem dX4_borne_8 : decode cX4_borne 8 = .ok (.aload_n 0, 1) := by decide +kernel
theorem dX4_borne_9 : decode cX4_borne 9 = .ok (.iload_n 1, 1) := by decide +kernel
theorem dX4_borne_10 : decode cX4_borne 10 = .ok (.invokevirtual 124, 3) := by decide +kernel
theorem dX4_borne_13 : decode cX4_borne 13 = .ok (.goto 4, 3) := by decide +kernel
theorem dX4_borne_16 : decode cX4_borne 16 = .ok (.iconst 0, 1) := by decide +kernel
theorem dX4_borne_17 : decode cX4_borne 17 = .ok (.ireturn, 1) := by decide +kernel
set_option maxRecDepth 20000 in
theorem ggX4_settlement_X4_isAsked : GoodIn wsX4_settlement wsX4_isAsked := goodIn_r _ [5, 6, 7, 8, 9, 4, 10, 64, 65, 66, 67, 68, 69, 70, 71, 72, 73, 74, 75, 76, 77, 78, 79] (by decide +kernel) (by decide +kernel)
set_option maxRecDepth 20000 in
theorem gX4_settlement_X4_isAsked : GoodIn wsX4_settlement (wsV RX4 86 RX4 yX4_isAsked wsX4_isAsked) := goodIn_app (goodIn_of _ (by decide +kernel)) ggX4_settlement_X4_isAsked
set_option maxRecDepth 20000 in
theorem ggX4_settlement_X4_supposed : GoodIn wsX4_settlement wsX4_supposed := goodIn_r _ [14, 15, 16, 17, 18, 4, 19, 20, 21, 22, 23, 24, 25, 26, 27, 28, 29, 30, 64, 65, 66, 67, 68, 69, 70, 71, 72, 73, 74, 75, 76, 77, 78, 79] (by decide +kernel) (by decide +kernel)
set_option maxRecDepth 20000 in
theorem gX4_settlement_X4_supposed : GoodIn wsX4_settlement (wsV RX4 121 RX4 yX4_supposed wsX4_supposed) := goodIn_app (goodIn_of _ (by decide +kernel)) ggX4_settlement_X4_supposed
set_option maxRecDepth 20000 in
theorem ggX4_settlement_X4_bears : GoodIn wsX4_settlement wsX4_bears := goodIn_r _ [34, 35, 36, 37, 4, 38, 15, 20, 39, 23, 24, 25, 26, 27, 28, 29, 30, 40, 41, 42, 43, 44, 45, 46, 47, 48, 49, 16, 17, 18, 19, 21, 22, 50, 51, 52, 53, 54, 55, 56, 57, 58, 59, 60, 61, 62, 63, 64, 65, 66, 67, 68, 69, 70, 71, 72, 73, 74, 75, 76, 77, 78, 79] (by decide +kernel) (by decide +kernel)
set_option maxRecDepth 20000 in
theorem gX4_settlement_X4_bears : GoodIn wsX4_settlement (wsV RX4 124 RX4 yX4_bears wsX4_bears) := goodIn_app (goodIn_of _ (by decide +kernel)) ggX4_settlement_X4_bears
theorem dX4_settlement_0 : decode cX4_settlement 0 = .ok (.aload_n 0, 1) := by decide +kernel
theorem dX4_settlement_1 : decode cX4_settlement 1 = .ok (.iload_n 1, 1) := by decide +kernel
theorem dX4_settlement_2 : decode cX4_settlement 2 = .ok (.invokevirtual 86, 3) := by decide +kernel
theorem dX4_settlement_5 : decode cX4_settlement 5 = .ok (.ifCond .eq 17, 3) := by decide +kernel
theorem dX4_settlement_8 : decode cX4_settlement 8 = .ok (.aload_n 0, 1) := by decide +kernel
theorem dX4_settlement_9 : decode cX4_settlement 9 = .ok (.iload_n 1, 1) := by decide +kernel
theorem dX4_settlement_10 : decode cX4_settlement 10 = .ok (.invokevirtual 121, 3) := by decide +kernel
theorem dX4_settlement_13 : decode cX4_settlement 13 = .ok (.aload_n 0, 1) := by decide +kernel
theorem dX4_settlement_14 : decode cX4_settlement 14 = .ok (.iload_n 1, 1) := by decide +kernel
theorem dX4_settlement_15 : decode cX4_settlement 15 = .ok (.invokevirtual 124, 3) := by decide +kernel
theorem dX4_settlement_18 : decode cX4_settlement 18 = .ok (.isub, 1) := by decide +kernel
theorem dX4_settlement_19 : decode cX4_settlement 19 = .ok (.goto 4, 3) := by decide +kernel
theorem dX4_settlement_22 : decode cX4_settlement 22 = .ok (.iconst 0, 1) := by decide +kernel
theorem dX4_settlement_23 : decode cX4_settlement 23 = .ok (.ireturn, 1) := by decide +kernel
set_option maxRecDepth 20000 in
theorem ggX4_cost_X4_isAsked : GoodIn wsX4_cost wsX4_isAsked := goodIn_r _ [5, 6, 7, 8, 9, 4, 10, 84, 85, 86, 87, 88, 89, 90, 91, 92, 93, 94, 95, 96, 97, 98, 99] (by decide +kernel) (by decide +kernel)
set_option maxRecDepth 20000 in
theorem gX4_cost_X4_isAsked : GoodIn wsX4_cost (wsV RX4 86 RX4 yX4_isAsked wsX4_isAsked) := goodIn_app (goodIn_of _ (by decide +kernel)) ggX4_cost_X4_isAsked
set_option maxRecDepth 20000 in
theorem ggX4_cost_X4_costOf : GoodIn wsX4_cost wsX4_costOf := goodIn_r _ [14, 15, 16, 17, 18, 19, 4, 20, 21, 22, 23, 24, 25, 26, 27, 28, 29, 30, 31, 32, 33, 34, 35, 36, 37, 38, 39, 40, 41, 42, 43, 44, 45, 46, 47, 48, 49, 50, 51, 52, 53, 54, 55, 56, 57, 58, 59, 60, 61, 62, 63, 64, 65, 66, 67, 68, 69, 70, 71, 72, 73, 74, 75, 76, 77, 78, 79, 80, 81, 82, 83, 84, 85, 86, 87, 88, 89, 90, 91, 92, 93, 94, 95, 96, 97, 98, 99] (by decide +kernel) (by decide +kernel)
set_option maxRecDepth 20000 in
theorem gX4_cost_X4_costOf : GoodIn wsX4_cost (wsV RX4 127 RX4 yX4_costOf wsX4_costOf) := goodIn_app (goodIn_of _ (by decide +kernel)) ggX4_cost_X4_costOf
theorem dX4_cost_0 : decode cX4_cost 0 = .ok (.aload_n 0, 1) := by decide +kernel
