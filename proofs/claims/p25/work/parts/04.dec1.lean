theorem dX0_init_0 : decode cX0_init 0 = .ok (.aload_n 0, 1) := by decide +kernel
theorem dX0_init_1 : decode cX0_init 1 = .ok (.invokespecial 1, 3) := by decide +kernel
theorem dX0_init_4 : decode cX0_init 4 = .ok (.aload_n 0, 1) := by decide +kernel
theorem dX0_init_5 : decode cX0_init 5 = .ok (.iload_n 1, 1) := by decide +kernel
theorem dX0_init_6 : decode cX0_init 6 = .ok (.putfield 7, 3) := by decide +kernel
theorem dX0_init_9 : decode cX0_init 9 = .ok (.aload_n 0, 1) := by decide +kernel
theorem dX0_init_10 : decode cX0_init 10 = .ok (.iload_n 2, 1) := by decide +kernel
theorem dX0_init_11 : decode cX0_init 11 = .ok (.putfield 13, 3) := by decide +kernel
theorem dX0_init_14 : decode cX0_init 14 = .ok (.aload_n 0, 1) := by decide +kernel
theorem dX0_init_15 : decode cX0_init 15 = .ok (.iload_n 3, 1) := by decide +kernel
theorem dX0_init_16 : decode cX0_init 16 = .ok (.putfield 16, 3) := by decide +kernel
theorem dX0_init_19 : decode cX0_init 19 = .ok (.return_, 1) := by decide +kernel
theorem dX1_init_0 : decode cX1_init 0 = .ok (.aload_n 0, 1) := by decide +kernel
theorem dX1_init_1 : decode cX1_init 1 = .ok (.invokespecial 3, 3) := by decide +kernel
theorem dX1_init_4 : decode cX1_init 4 = .ok (.aload_n 0, 1) := by decide +kernel
theorem dX1_init_5 : decode cX1_init 5 = .ok (.sipush 10000, 3) := by decide +kernel
theorem dX1_init_8 : decode cX1_init 8 = .ok (.putfield 9, 3) := by decide +kernel
theorem dX1_init_11 : decode cX1_init 11 = .ok (.aload_n 0, 1) := by decide +kernel
theorem dX1_init_12 : decode cX1_init 12 = .ok (.ldc 15, 2) := by decide +kernel
theorem dX1_init_14 : decode cX1_init 14 = .ok (.putfield 16, 3) := by decide +kernel
theorem dX1_init_17 : decode cX1_init 17 = .ok (.aload_n 0, 1) := by decide +kernel
theorem dX1_init_18 : decode cX1_init 18 = .ok (.bipush 10, 2) := by decide +kernel
theorem dX1_init_20 : decode cX1_init 20 = .ok (.putfield 19, 3) := by decide +kernel
theorem dX1_init_23 : decode cX1_init 23 = .ok (.aload_n 0, 1) := by decide +kernel
theorem dX1_init_24 : decode cX1_init 24 = .ok (.bipush 20, 2) := by decide +kernel
theorem dX1_init_26 : decode cX1_init 26 = .ok (.putfield 22, 3) := by decide +kernel
theorem dX1_init_29 : decode cX1_init 29 = .ok (.aload_n 0, 1) := by decide +kernel
theorem dX1_init_30 : decode cX1_init 30 = .ok (.bipush 40, 2) := by decide +kernel
theorem dX1_init_32 : decode cX1_init 32 = .ok (.putfield 25, 3) := by decide +kernel
theorem dX1_init_35 : decode cX1_init 35 = .ok (.return_, 1) := by decide +kernel
theorem dX1_limit_0 : decode cX1_limit 0 = .ok (.aload_n 0, 1) := by decide +kernel
theorem dX1_limit_1 : decode cX1_limit 1 = .ok (.iload_n 1, 1) := by decide +kernel
theorem dX1_limit_2 : decode cX1_limit 2 = .ok (.putfield 9, 3) := by decide +kernel
theorem dX1_limit_5 : decode cX1_limit 5 = .ok (.aload_n 0, 1) := by decide +kernel
theorem dX1_limit_6 : decode cX1_limit 6 = .ok (.iload_n 2, 1) := by decide +kernel
theorem dX1_limit_7 : decode cX1_limit 7 = .ok (.putfield 16, 3) := by decide +kernel
theorem dX1_limit_10 : decode cX1_limit 10 = .ok (.return_, 1) := by decide +kernel
theorem dX1_rate_0 : decode cX1_rate 0 = .ok (.aload_n 0, 1) := by decide +kernel
theorem dX1_rate_1 : decode cX1_rate 1 = .ok (.iload_n 1, 1) := by decide +kernel
theorem dX1_rate_2 : decode cX1_rate 2 = .ok (.putfield 19, 3) := by decide +kernel
theorem dX1_rate_5 : decode cX1_rate 5 = .ok (.aload_n 0, 1) := by decide +kernel
theorem dX1_rate_6 : decode cX1_rate 6 = .ok (.iload_n 2, 1) := by decide +kernel
theorem dX1_rate_7 : decode cX1_rate 7 = .ok (.putfield 22, 3) := by decide +kernel
theorem dX1_rate_10 : decode cX1_rate 10 = .ok (.aload_n 0, 1) := by decide +kernel
theorem dX1_rate_11 : decode cX1_rate 11 = .ok (.iload_n 3, 1) := by decide +kernel
theorem dX1_rate_12 : decode cX1_rate 12 = .ok (.putfield 25, 3) := by decide +kernel
theorem dX1_rate_15 : decode cX1_rate 15 = .ok (.return_, 1) := by decide +kernel
theorem dX1_taxOf_0 : decode cX1_taxOf 0 = .ok (.iload_n 1, 1) := by decide +kernel
theorem dX1_taxOf_1 : decode cX1_taxOf 1 = .ok (.aload_n 0, 1) := by decide +kernel
theorem dX1_taxOf_2 : decode cX1_taxOf 2 = .ok (.getfield 9, 3) := by decide +kernel
theorem dX1_taxOf_5 : decode cX1_taxOf 5 = .ok (.invokestatic 28, 3) := by decide +kernel
theorem dX1_taxOf_8 : decode cX1_taxOf 8 = .ok (.i2l, 1) := by decide +kernel
theorem dX1_taxOf_9 : decode cX1_taxOf 9 = .ok (.lstore_n 2, 1) := by decide +kernel
theorem dX1_taxOf_10 : decode cX1_taxOf 10 = .ok (.iconst 0, 1) := by decide +kernel
theorem dX1_taxOf_11 : decode cX1_taxOf 11 = .ok (.iload_n 1, 1) := by decide +kernel
theorem dX1_taxOf_12 : decode cX1_taxOf 12 = .ok (.aload_n 0, 1) := by decide +kernel
theorem dX1_taxOf_13 : decode cX1_taxOf 13 = .ok (.getfield 16, 3) := by decide +kernel
theorem dX1_taxOf_16 : decode cX1_taxOf 16 = .ok (.invokestatic 28, 3) := by decide +kernel
theorem dX1_taxOf_19 : decode cX1_taxOf 19 = .ok (.aload_n 0, 1) := by decide +kernel
theorem dX1_taxOf_20 : decode cX1_taxOf 20 = .ok (.getfield 9, 3) := by decide +kernel
theorem dX1_taxOf_23 : decode cX1_taxOf 23 = .ok (.isub, 1) := by decide +kernel
theorem dX1_taxOf_24 : decode cX1_taxOf 24 = .ok (.invokestatic 34, 3) := by decide +kernel
theorem dX1_taxOf_27 : decode cX1_taxOf 27 = .ok (.i2l, 1) := by decide +kernel
theorem dX1_taxOf_28 : decode cX1_taxOf 28 = .ok (.lstore 4, 2) := by decide +kernel
theorem dX1_taxOf_30 : decode cX1_taxOf 30 = .ok (.iconst 0, 1) := by decide +kernel
theorem dX1_taxOf_31 : decode cX1_taxOf 31 = .ok (.iload_n 1, 1) := by decide +kernel
theorem dX1_taxOf_32 : decode cX1_taxOf 32 = .ok (.aload_n 0, 1) := by decide +kernel
theorem dX1_taxOf_33 : decode cX1_taxOf 33 = .ok (.getfield 16, 3) := by decide +kernel
theorem dX1_taxOf_36 : decode cX1_taxOf 36 = .ok (.isub, 1) := by decide +kernel
theorem dX1_taxOf_37 : decode cX1_taxOf 37 = .ok (.invokestatic 34, 3) := by decide +kernel
theorem dX1_taxOf_40 : decode cX1_taxOf 40 = .ok (.i2l, 1) := by decide +kernel
theorem dX1_taxOf_41 : decode cX1_taxOf 41 = .ok (.lstore 6, 2) := by decide +kernel
theorem dX1_taxOf_43 : decode cX1_taxOf 43 = .ok (.lload_n 2, 1) := by decide +kernel
theorem dX1_taxOf_44 : decode cX1_taxOf 44 = .ok (.aload_n 0, 1) := by decide +kernel
theorem dX1_taxOf_45 : decode cX1_taxOf 45 = .ok (.getfield 19, 3) := by decide +kernel
theorem dX1_taxOf_48 : decode cX1_taxOf 48 = .ok (.i2l, 1) := by decide +kernel
theorem dX1_taxOf_49 : decode cX1_taxOf 49 = .ok (.lmul, 1) := by decide +kernel
theorem dX1_taxOf_50 : decode cX1_taxOf 50 = .ok (.lload 4, 2) := by decide +kernel
theorem dX1_taxOf_52 : decode cX1_taxOf 52 = .ok (.aload_n 0, 1) := by decide +kernel
theorem dX1_taxOf_53 : decode cX1_taxOf 53 = .ok (.getfield 22, 3) := by decide +kernel
theorem dX1_taxOf_56 : decode cX1_taxOf 56 = .ok (.i2l, 1) := by decide +kernel
theorem dX1_taxOf_57 : decode cX1_taxOf 57 = .ok (.lmul, 1) := by decide +kernel
theorem dX1_taxOf_58 : decode cX1_taxOf 58 = .ok (.ladd, 1) := by decide +kernel
theorem dX1_taxOf_59 : decode cX1_taxOf 59 = .ok (.lload 6, 2) := by decide +kernel
theorem dX1_taxOf_61 : decode cX1_taxOf 61 = .ok (.aload_n 0, 1) := by decide +kernel
theorem dX1_taxOf_62 : decode cX1_taxOf 62 = .ok (.getfield 25, 3) := by decide +kernel
theorem dX1_taxOf_65 : decode cX1_taxOf 65 = .ok (.i2l, 1) := by decide +kernel
theorem dX1_taxOf_66 : decode cX1_taxOf 66 = .ok (.lmul, 1) := by decide +kernel
theorem dX1_taxOf_67 : decode cX1_taxOf 67 = .ok (.ladd, 1) := by decide +kernel
theorem dX1_taxOf_68 : decode cX1_taxOf 68 = .ok (.ldc2_w 37, 3) := by decide +kernel
theorem dX1_taxOf_71 : decode cX1_taxOf 71 = .ok (.ldiv, 1) := by decide +kernel
theorem dX1_taxOf_72 : decode cX1_taxOf 72 = .ok (.l2i, 1) := by decide +kernel
theorem dX1_taxOf_73 : decode cX1_taxOf 73 = .ok (.ireturn, 1) := by decide +kernel
set_option maxRecDepth 20000 in
theorem ggX1_grossTaxOf_X1_mostGrossTax : GoodIn wsX1_grossTaxOf wsX1_mostGrossTax := goodIn_r _ [4] (by decide +kernel) (by decide +kernel)
set_option maxRecDepth 20000 in
theorem gX1_grossTaxOf_X1_mostGrossTax : GoodIn wsX1_grossTaxOf (va_wsS RX1 39 yX1_mostGrossTax wsX1_mostGrossTax) := goodIn_app (goodIn_of _ (by decide +kernel)) ggX1_grossTaxOf_X1_mostGrossTax
set_option maxRecDepth 20000 in
theorem ggX1_grossTaxOf_X1_taxOf : GoodIn wsX1_grossTaxOf wsX1_taxOf := goodIn_r _ [8, 9, 10, 11, 12, 13, 14, 15, 16, 17, 18, 19, 20, 21, 22, 23, 24, 25, 26] (by decide +kernel) (by decide +kernel)
set_option maxRecDepth 20000 in
theorem gX1_grossTaxOf_X1_taxOf : GoodIn wsX1_grossTaxOf (wsV RX1 43 RX1 yX1_taxOf wsX1_taxOf) := goodIn_app (goodIn_of _ (by decide +kernel)) ggX1_grossTaxOf_X1_taxOf
theorem dX1_grossTaxOf_0 : decode cX1_grossTaxOf 0 = .ok (.iconst 0, 1) := by decide +kernel
theorem dX1_grossTaxOf_1 : decode cX1_grossTaxOf 1 = .ok (.istore_n 2, 1) := by decide +kernel
theorem dX1_grossTaxOf_2 : decode cX1_grossTaxOf 2 = .ok (.iload_n 1, 1) := by decide +kernel
theorem dX1_grossTaxOf_3 : decode cX1_grossTaxOf 3 = .ok (.invokestatic 39, 3) := by decide +kernel
theorem dX1_grossTaxOf_6 : decode cX1_grossTaxOf 6 = .ok (.istore_n 3, 1) := by decide +kernel
theorem dX1_grossTaxOf_7 : decode cX1_grossTaxOf 7 = .ok (.iconst 0, 1) := by decide +kernel
theorem dX1_grossTaxOf_8 : decode cX1_grossTaxOf 8 = .ok (.istore 4, 2) := by decide +kernel
theorem dX1_grossTaxOf_10 : decode cX1_grossTaxOf 10 = .ok (.iload 4, 2) := by decide +kernel
theorem dX1_grossTaxOf_12 : decode cX1_grossTaxOf 12 = .ok (.bipush 32, 2) := by decide +kernel
theorem dX1_grossTaxOf_14 : decode cX1_grossTaxOf 14 = .ok (.if_icmp .ge 47, 3) := by decide +kernel
theorem dX1_grossTaxOf_17 : decode cX1_grossTaxOf 17 = .ok (.iload_n 2, 1) := by decide +kernel
theorem dX1_grossTaxOf_18 : decode cX1_grossTaxOf 18 = .ok (.iload_n 3, 1) := by decide +kernel
theorem dX1_grossTaxOf_19 : decode cX1_grossTaxOf 19 = .ok (.if_icmp .ge 42, 3) := by decide +kernel
theorem dX1_grossTaxOf_22 : decode cX1_grossTaxOf 22 = .ok (.iload_n 2, 1) := by decide +kernel
theorem dX1_grossTaxOf_23 : decode cX1_grossTaxOf 23 = .ok (.iload_n 3, 1) := by decide +kernel
theorem dX1_grossTaxOf_24 : decode cX1_grossTaxOf 24 = .ok (.iload_n 2, 1) := by decide +kernel
theorem dX1_grossTaxOf_25 : decode cX1_grossTaxOf 25 = .ok (.isub, 1) := by decide +kernel
theorem dX1_grossTaxOf_26 : decode cX1_grossTaxOf 26 = .ok (.iconst 2, 1) := by decide +kernel
theorem dX1_grossTaxOf_27 : decode cX1_grossTaxOf 27 = .ok (.idiv, 1) := by decide +kernel
theorem dX1_grossTaxOf_28 : decode cX1_grossTaxOf 28 = .ok (.iadd, 1) := by decide +kernel
theorem dX1_grossTaxOf_29 : decode cX1_grossTaxOf 29 = .ok (.istore 5, 2) := by decide +kernel
theorem dX1_grossTaxOf_31 : decode cX1_grossTaxOf 31 = .ok (.aload_n 0, 1) := by decide +kernel
theorem dX1_grossTaxOf_32 : decode cX1_grossTaxOf 32 = .ok (.iload_n 1, 1) := by decide +kernel
theorem dX1_grossTaxOf_33 : decode cX1_grossTaxOf 33 = .ok (.iload 5, 2) := by decide +kernel
theorem dX1_grossTaxOf_35 : decode cX1_grossTaxOf 35 = .ok (.iadd, 1) := by decide +kernel
theorem dX1_grossTaxOf_36 : decode cX1_grossTaxOf 36 = .ok (.invokevirtual 43, 3) := by decide +kernel
theorem dX1_grossTaxOf_39 : decode cX1_grossTaxOf 39 = .ok (.iload 5, 2) := by decide +kernel
theorem dX1_grossTaxOf_41 : decode cX1_grossTaxOf 41 = .ok (.if_icmp .gt 9, 3) := by decide +kernel
theorem dX1_grossTaxOf_44 : decode cX1_grossTaxOf 44 = .ok (.iload 5, 2) := by decide +kernel
theorem dX1_grossTaxOf_46 : decode cX1_grossTaxOf 46 = .ok (.istore_n 3, 1) := by decide +kernel
theorem dX1_grossTaxOf_47 : decode cX1_grossTaxOf 47 = .ok (.goto 8, 3) := by decide +kernel
theorem dX1_grossTaxOf_50 : decode cX1_grossTaxOf 50 = .ok (.iload 5, 2) := by decide +kernel
theorem dX1_grossTaxOf_52 : decode cX1_grossTaxOf 52 = .ok (.iconst 1, 1) := by decide +kernel
theorem dX1_grossTaxOf_53 : decode cX1_grossTaxOf 53 = .ok (.iadd, 1) := by decide +kernel
theorem dX1_grossTaxOf_54 : decode cX1_grossTaxOf 54 = .ok (.istore_n 2, 1) := by decide +kernel
theorem dX1_grossTaxOf_55 : decode cX1_grossTaxOf 55 = .ok (.iinc 4 1, 3) := by decide +kernel
theorem dX1_grossTaxOf_58 : decode cX1_grossTaxOf 58 = .ok (.goto (-48), 3) := by decide +kernel
theorem dX1_grossTaxOf_61 : decode cX1_grossTaxOf 61 = .ok (.iload_n 2, 1) := by decide +kernel
theorem dX1_grossTaxOf_62 : decode cX1_grossTaxOf 62 = .ok (.ireturn, 1) := by decide +kernel
set_option maxRecDepth 20000 in
theorem ggX1_grossTaxTried_X1_mostGrossTax : GoodIn wsX1_grossTaxTried wsX1_mostGrossTax := goodIn_r _ [4] (by decide +kernel) (by decide +kernel)
set_option maxRecDepth 20000 in
theorem gX1_grossTaxTried_X1_mostGrossTax : GoodIn wsX1_grossTaxTried (va_wsS RX1 39 yX1_mostGrossTax wsX1_mostGrossTax) := goodIn_app (goodIn_of _ (by decide +kernel)) ggX1_grossTaxTried_X1_mostGrossTax
set_option maxRecDepth 20000 in
theorem ggX1_grossTaxTried_X1_taxOf : GoodIn wsX1_grossTaxTried wsX1_taxOf := goodIn_r _ [8, 9, 10, 11, 12, 13, 14, 15, 16, 17, 18, 19, 20, 21, 22, 23, 24, 25, 26] (by decide +kernel) (by decide +kernel)
set_option maxRecDepth 20000 in
theorem gX1_grossTaxTried_X1_taxOf : GoodIn wsX1_grossTaxTried (wsV RX1 43 RX1 yX1_taxOf wsX1_taxOf) := goodIn_app (goodIn_of _ (by decide +kernel)) ggX1_grossTaxTried_X1_taxOf
theorem dX1_grossTaxTried_0 : decode cX1_grossTaxTried 0 = .ok (.iload_n 1, 1) := by decide +kernel
theorem dX1_grossTaxTried_1 : decode cX1_grossTaxTried 1 = .ok (.invokestatic 39, 3) := by decide +kernel
theorem dX1_grossTaxTried_4 : decode cX1_grossTaxTried 4 = .ok (.istore_n 2, 1) := by decide +kernel
theorem dX1_grossTaxTried_5 : decode cX1_grossTaxTried 5 = .ok (.iconst 0, 1) := by decide +kernel
theorem dX1_grossTaxTried_6 : decode cX1_grossTaxTried 6 = .ok (.istore_n 3, 1) := by decide +kernel
theorem dX1_grossTaxTried_7 : decode cX1_grossTaxTried 7 = .ok (.iload_n 3, 1) := by decide +kernel
theorem dX1_grossTaxTried_8 : decode cX1_grossTaxTried 8 = .ok (.iload_n 2, 1) := by decide +kernel
theorem dX1_grossTaxTried_9 : decode cX1_grossTaxTried 9 = .ok (.if_icmp .ge 22, 3) := by decide +kernel
theorem dX1_grossTaxTried_12 : decode cX1_grossTaxTried 12 = .ok (.aload_n 0, 1) := by decide +kernel
theorem dX1_grossTaxTried_13 : decode cX1_grossTaxTried 13 = .ok (.iload_n 1, 1) := by decide +kernel
theorem dX1_grossTaxTried_14 : decode cX1_grossTaxTried 14 = .ok (.iload_n 3, 1) := by decide +kernel
theorem dX1_grossTaxTried_15 : decode cX1_grossTaxTried 15 = .ok (.iadd, 1) := by decide +kernel
theorem dX1_grossTaxTried_16 : decode cX1_grossTaxTried 16 = .ok (.invokevirtual 43, 3) := by decide +kernel
theorem dX1_grossTaxTried_19 : decode cX1_grossTaxTried 19 = .ok (.iload_n 3, 1) := by decide +kernel
theorem dX1_grossTaxTried_20 : decode cX1_grossTaxTried 20 = .ok (.if_icmp .ne 5, 3) := by decide +kernel
theorem dX1_grossTaxTried_23 : decode cX1_grossTaxTried 23 = .ok (.iload_n 3, 1) := by decide +kernel
theorem dX1_grossTaxTried_24 : decode cX1_grossTaxTried 24 = .ok (.ireturn, 1) := by decide +kernel
theorem dX1_grossTaxTried_25 : decode cX1_grossTaxTried 25 = .ok (.iinc 3 1, 3) := by decide +kernel
theorem dX1_grossTaxTried_28 : decode cX1_grossTaxTried 28 = .ok (.goto (-21), 3) := by decide +kernel
theorem dX1_grossTaxTried_31 : decode cX1_grossTaxTried 31 = .ok (.iload_n 2, 1) := by decide +kernel
theorem dX1_grossTaxTried_32 : decode cX1_grossTaxTried 32 = .ok (.ireturn, 1) := by decide +kernel
theorem dX1_mostGrossTax_0 : decode cX1_mostGrossTax 0 = .ok (.iconst 2, 1) := by decide +kernel
theorem dX1_mostGrossTax_1 : decode cX1_mostGrossTax 1 = .ok (.iload_n 0, 1) := by decide +kernel
theorem dX1_mostGrossTax_2 : decode cX1_mostGrossTax 2 = .ok (.imul, 1) := by decide +kernel
theorem dX1_mostGrossTax_3 : decode cX1_mostGrossTax 3 = .ok (.ireturn, 1) := by decide +kernel
set_option maxRecDepth 20000 in
theorem ggX2_init_Jx4a65c_init_da8c8 : GoodIn wsX2_init wsJx4a65c_init_da8c8 := goodIn_r _ [17, 18, 19, 20, 21, 22, 23, 24, 25, 26, 27, 28, 29, 2, 3, 30, 31, 32] (by decide +kernel) (by decide +kernel)
set_option maxRecDepth 20000 in
theorem gX2_init_Jx4a65c_init_da8c8 : GoodIn wsX2_init (wsJx4a65c_init_da8c8) := ggX2_init_Jx4a65c_init_da8c8
theorem dX2_init_0 : decode cX2_init 0 = .ok (.aload_n 0, 1) := by decide +kernel
theorem dX2_init_1 : decode cX2_init 1 = .ok (.invokespecial 3, 3) := by decide +kernel
theorem dX2_init_4 : decode cX2_init 4 = .ok (.aload_n 0, 1) := by decide +kernel
theorem dX2_init_5 : decode cX2_init 5 = .ok (.new 9, 3) := by decide +kernel
theorem dX2_init_8 : decode cX2_init 8 = .ok (.dup, 1) := by decide +kernel
theorem dX2_init_9 : decode cX2_init 9 = .ok (.invokespecial 11, 3) := by decide +kernel
theorem dX2_init_12 : decode cX2_init 12 = .ok (.putfield 12, 3) := by decide +kernel
theorem dX2_init_15 : decode cX2_init 15 = .ok (.aload_n 0, 1) := by decide +kernel
theorem dX2_init_16 : decode cX2_init 16 = .ok (.iconst 0, 1) := by decide +kernel
theorem dX2_init_17 : decode cX2_init 17 = .ok (.putfield 18, 3) := by decide +kernel
theorem dX2_init_20 : decode cX2_init 20 = .ok (.aload_n 0, 1) := by decide +kernel
theorem dX2_init_21 : decode cX2_init 21 = .ok (.iconst 0, 1) := by decide +kernel
theorem dX2_init_22 : decode cX2_init 22 = .ok (.putfield 22, 3) := by decide +kernel
theorem dX2_init_25 : decode cX2_init 25 = .ok (.aload_n 0, 1) := by decide +kernel
theorem dX2_init_26 : decode cX2_init 26 = .ok (.iconst 0, 1) := by decide +kernel
theorem dX2_init_27 : decode cX2_init 27 = .ok (.putfield 25, 3) := by decide +kernel
theorem dX2_init_30 : decode cX2_init 30 = .ok (.aload_n 0, 1) := by decide +kernel
theorem dX2_init_31 : decode cX2_init 31 = .ok (.iconst 0, 1) := by decide +kernel
theorem dX2_init_32 : decode cX2_init 32 = .ok (.putfield 28, 3) := by decide +kernel
theorem dX2_init_35 : decode cX2_init 35 = .ok (.aload_n 0, 1) := by decide +kernel
theorem dX2_init_36 : decode cX2_init 36 = .ok (.aload_n 1, 1) := by decide +kernel
theorem dX2_init_37 : decode cX2_init 37 = .ok (.putfield 31, 3) := by decide +kernel
theorem dX2_init_40 : decode cX2_init 40 = .ok (.aload_n 0, 1) := by decide +kernel
theorem dX2_init_41 : decode cX2_init 41 = .ok (.aload_n 2, 1) := by decide +kernel
theorem dX2_init_42 : decode cX2_init 42 = .ok (.putfield 35, 3) := by decide +kernel
theorem dX2_init_45 : decode cX2_init 45 = .ok (.aload_n 0, 1) := by decide +kernel
theorem dX2_init_46 : decode cX2_init 46 = .ok (.iload_n 3, 1) := by decide +kernel
theorem dX2_init_47 : decode cX2_init 47 = .ok (.putfield 38, 3) := by decide +kernel
theorem dX2_init_50 : decode cX2_init 50 = .ok (.return_, 1) := by decide +kernel
theorem dX2_monthsAbroad_0 : decode cX2_monthsAbroad 0 = .ok (.aload_n 0, 1) := by decide +kernel
theorem dX2_monthsAbroad_1 : decode cX2_monthsAbroad 1 = .ok (.getfield 22, 3) := by decide +kernel
theorem dX2_monthsAbroad_4 : decode cX2_monthsAbroad 4 = .ok (.aload_n 0, 1) := by decide +kernel
theorem dX2_monthsAbroad_5 : decode cX2_monthsAbroad 5 = .ok (.getfield 18, 3) := by decide +kernel
theorem dX2_monthsAbroad_8 : decode cX2_monthsAbroad 8 = .ok (.isub, 1) := by decide +kernel
theorem dX2_monthsAbroad_9 : decode cX2_monthsAbroad 9 = .ok (.ireturn, 1) := by decide +kernel
theorem dX2_isAbroadIn_0 : decode cX2_isAbroadIn 0 = .ok (.iload_n 1, 1) := by decide +kernel
theorem dX2_isAbroadIn_1 : decode cX2_isAbroadIn 1 = .ok (.aload_n 0, 1) := by decide +kernel
theorem dX2_isAbroadIn_2 : decode cX2_isAbroadIn 2 = .ok (.getfield 18, 3) := by decide +kernel
theorem dX2_isAbroadIn_5 : decode cX2_isAbroadIn 5 = .ok (.if_icmp .lt 15, 3) := by decide +kernel
theorem dX2_isAbroadIn_8 : decode cX2_isAbroadIn 8 = .ok (.iload_n 1, 1) := by decide +kernel
theorem dX2_isAbroadIn_9 : decode cX2_isAbroadIn 9 = .ok (.aload_n 0, 1) := by decide +kernel
theorem dX2_isAbroadIn_10 : decode cX2_isAbroadIn 10 = .ok (.getfield 22, 3) := by decide +kernel
theorem dX2_isAbroadIn_13 : decode cX2_isAbroadIn 13 = .ok (.if_icmp .ge 7, 3) := by decide +kernel
theorem dX2_isAbroadIn_16 : decode cX2_isAbroadIn 16 = .ok (.iconst 1, 1) := by decide +kernel
theorem dX2_isAbroadIn_17 : decode cX2_isAbroadIn 17 = .ok (.goto 4, 3) := by decide +kernel
theorem dX2_isAbroadIn_20 : decode cX2_isAbroadIn 20 = .ok (.iconst 0, 1) := by decide +kernel
theorem dX2_isAbroadIn_21 : decode cX2_isAbroadIn 21 = .ok (.ireturn, 1) := by decide +kernel
theorem dX2_ownShare_0 : decode cX2_ownShare 0 = .ok (.aload_n 0, 1) := by decide +kernel
theorem dX2_ownShare_1 : decode cX2_ownShare 1 = .ok (.getfield 25, 3) := by decide +kernel
theorem dX2_ownShare_4 : decode cX2_ownShare 4 = .ok (.aload_n 0, 1) := by decide +kernel
theorem dX2_ownShare_5 : decode cX2_ownShare 5 = .ok (.getfield 38, 3) := by decide +kernel
theorem dX2_ownShare_8 : decode cX2_ownShare 8 = .ok (.aload_n 0, 1) := by decide +kernel
theorem dX2_ownShare_9 : decode cX2_ownShare 9 = .ok (.getfield 28, 3) := by decide +kernel
theorem dX2_ownShare_12 : decode cX2_ownShare 12 = .ok (.imul, 1) := by decide +kernel
theorem dX2_ownShare_13 : decode cX2_ownShare 13 = .ok (.bipush 100, 2) := by decide +kernel
theorem dX2_ownShare_15 : decode cX2_ownShare 15 = .ok (.idiv, 1) := by decide +kernel
theorem dX2_ownShare_16 : decode cX2_ownShare 16 = .ok (.invokestatic 41, 3) := by decide +kernel
theorem dX2_ownShare_19 : decode cX2_ownShare 19 = .ok (.ireturn, 1) := by decide +kernel
theorem dX2_partAbroad_0 : decode cX2_partAbroad 0 = .ok (.aload_n 1, 1) := by decide +kernel
theorem dX2_partAbroad_1 : decode cX2_partAbroad 1 = .ok (.getfield 47, 3) := by decide +kernel
theorem dX2_partAbroad_4 : decode cX2_partAbroad 4 = .ok (.aload_n 1, 1) := by decide +kernel
theorem dX2_partAbroad_5 : decode cX2_partAbroad 5 = .ok (.getfield 52, 3) := by decide +kernel
theorem dX2_partAbroad_8 : decode cX2_partAbroad 8 = .ok (.isub, 1) := by decide +kernel
theorem dX2_partAbroad_9 : decode cX2_partAbroad 9 = .ok (.istore_n 2, 1) := by decide +kernel
theorem dX2_partAbroad_10 : decode cX2_partAbroad 10 = .ok (.iload_n 2, 1) := by decide +kernel
theorem dX2_partAbroad_11 : decode cX2_partAbroad 11 = .ok (.ifCond .gt 5, 3) := by decide +kernel
theorem dX2_partAbroad_14 : decode cX2_partAbroad 14 = .ok (.iconst 0, 1) := by decide +kernel
theorem dX2_partAbroad_15 : decode cX2_partAbroad 15 = .ok (.ireturn, 1) := by decide +kernel
theorem dX2_partAbroad_16 : decode cX2_partAbroad 16 = .ok (.iconst 0, 1) := by decide +kernel
theorem dX2_partAbroad_17 : decode cX2_partAbroad 17 = .ok (.aload_n 1, 1) := by decide +kernel
theorem dX2_partAbroad_18 : decode cX2_partAbroad 18 = .ok (.getfield 47, 3) := by decide +kernel
theorem dX2_partAbroad_21 : decode cX2_partAbroad 21 = .ok (.aload_n 0, 1) := by decide +kernel
theorem dX2_partAbroad_22 : decode cX2_partAbroad 22 = .ok (.getfield 22, 3) := by decide +kernel
theorem dX2_partAbroad_25 : decode cX2_partAbroad 25 = .ok (.invokestatic 41, 3) := by decide +kernel
theorem dX2_partAbroad_28 : decode cX2_partAbroad 28 = .ok (.aload_n 1, 1) := by decide +kernel
theorem dX2_partAbroad_29 : decode cX2_partAbroad 29 = .ok (.getfield 52, 3) := by decide +kernel
theorem dX2_partAbroad_32 : decode cX2_partAbroad 32 = .ok (.aload_n 0, 1) := by decide +kernel
theorem dX2_partAbroad_33 : decode cX2_partAbroad 33 = .ok (.getfield 18, 3) := by decide +kernel
theorem dX2_partAbroad_36 : decode cX2_partAbroad 36 = .ok (.invokestatic 55, 3) := by decide +kernel
theorem dX2_partAbroad_39 : decode cX2_partAbroad 39 = .ok (.isub, 1) := by decide +kernel
theorem dX2_partAbroad_40 : decode cX2_partAbroad 40 = .ok (.invokestatic 55, 3) := by decide +kernel
theorem dX2_partAbroad_43 : decode cX2_partAbroad 43 = .ok (.istore_n 3, 1) := by decide +kernel
theorem dX2_partAbroad_44 : decode cX2_partAbroad 44 = .ok (.aload_n 1, 1) := by decide +kernel
theorem dX2_partAbroad_45 : decode cX2_partAbroad 45 = .ok (.getfield 58, 3) := by decide +kernel
theorem dX2_partAbroad_48 : decode cX2_partAbroad 48 = .ok (.iload_n 3, 1) := by decide +kernel
theorem dX2_partAbroad_49 : decode cX2_partAbroad 49 = .ok (.imul, 1) := by decide +kernel
theorem dX2_partAbroad_50 : decode cX2_partAbroad 50 = .ok (.iload_n 2, 1) := by decide +kernel
theorem dX2_partAbroad_51 : decode cX2_partAbroad 51 = .ok (.idiv, 1) := by decide +kernel
theorem dX2_partAbroad_52 : decode cX2_partAbroad 52 = .ok (.ireturn, 1) := by decide +kernel
set_option maxRecDepth 20000 in
theorem ggX2_wholeIncome_Jx4a65c_size_8abf5 : GoodIn wsX2_wholeIncome wsJx4a65c_size_8abf5 := goodIn_r _ [8, 9, 38, 39, 40] (by decide +kernel) (by decide +kernel)
set_option maxRecDepth 20000 in
theorem gX2_wholeIncome_Jx4a65c_size_8abf5_f61Jx4a65c : GoodIn wsX2_wholeIncome (va_wsF RX2 61 RJx4a65c ⟨"java/util/List", "size", "()I"⟩ yJx4a65c_size_8abf5 wsJx4a65c_size_8abf5) := goodIn_app (goodIn_of _ (by decide +kernel)) ggX2_wholeIncome_Jx4a65c_size_8abf5
set_option maxRecDepth 20000 in
theorem ggX2_wholeIncome_Jx4a65c_get_915e3 : GoodIn wsX2_wholeIncome wsJx4a65c_get_915e3 := goodIn_r _ [13, 9, 14, 15, 16, 17, 18, 19, 20, 21, 22, 23, 24, 7, 25, 26, 38, 39, 40] (by decide +kernel) (by decide +kernel)
set_option maxRecDepth 20000 in
theorem gX2_wholeIncome_Jx4a65c_get_915e3_f67Jx4a65c : GoodIn wsX2_wholeIncome (va_wsF RX2 67 RJx4a65c ⟨"java/util/List", "get", "(I)Ljava/lang/Object;"⟩ yJx4a65c_get_915e3 wsJx4a65c_get_915e3) := goodIn_app (goodIn_of _ (by decide +kernel)) ggX2_wholeIncome_Jx4a65c_get_915e3
theorem dX2_wholeIncome_0 : decode cX2_wholeIncome 0 = .ok (.bipush 12, 2) := by decide +kernel
theorem dX2_wholeIncome_2 : decode cX2_wholeIncome 2 = .ok (.aload_n 0, 1) := by decide +kernel
theorem dX2_wholeIncome_3 : decode cX2_wholeIncome 3 = .ok (.getfield 38, 3) := by decide +kernel
theorem dX2_wholeIncome_6 : decode cX2_wholeIncome 6 = .ok (.imul, 1) := by decide +kernel
theorem dX2_wholeIncome_7 : decode cX2_wholeIncome 7 = .ok (.istore_n 1, 1) := by decide +kernel
theorem dX2_wholeIncome_8 : decode cX2_wholeIncome 8 = .ok (.iconst 0, 1) := by decide +kernel
theorem dX2_wholeIncome_9 : decode cX2_wholeIncome 9 = .ok (.istore_n 2, 1) := by decide +kernel
theorem dX2_wholeIncome_10 : decode cX2_wholeIncome 10 = .ok (.iload_n 2, 1) := by decide +kernel
theorem dX2_wholeIncome_11 : decode cX2_wholeIncome 11 = .ok (.aload_n 0, 1) := by decide +kernel
theorem dX2_wholeIncome_12 : decode cX2_wholeIncome 12 = .ok (.getfield 12, 3) := by decide +kernel
theorem dX2_wholeIncome_15 : decode cX2_wholeIncome 15 = .ok (.invokeinterface 61 1, 5) := by decide +kernel
theorem dX2_wholeIncome_20 : decode cX2_wholeIncome 20 = .ok (.if_icmp .ge 28, 3) := by decide +kernel
theorem dX2_wholeIncome_23 : decode cX2_wholeIncome 23 = .ok (.iload_n 1, 1) := by decide +kernel
theorem dX2_wholeIncome_24 : decode cX2_wholeIncome 24 = .ok (.aload_n 0, 1) := by decide +kernel
theorem dX2_wholeIncome_25 : decode cX2_wholeIncome 25 = .ok (.getfield 12, 3) := by decide +kernel
theorem dX2_wholeIncome_28 : decode cX2_wholeIncome 28 = .ok (.iload_n 2, 1) := by decide +kernel
theorem dX2_wholeIncome_29 : decode cX2_wholeIncome 29 = .ok (.invokeinterface 67 2, 5) := by decide +kernel
theorem dX2_wholeIncome_34 : decode cX2_wholeIncome 34 = .ok (.checkcast 48, 3) := by decide +kernel
theorem dX2_wholeIncome_37 : decode cX2_wholeIncome 37 = .ok (.getfield 58, 3) := by decide +kernel
theorem dX2_wholeIncome_40 : decode cX2_wholeIncome 40 = .ok (.iadd, 1) := by decide +kernel
theorem dX2_wholeIncome_41 : decode cX2_wholeIncome 41 = .ok (.istore_n 1, 1) := by decide +kernel
theorem dX2_wholeIncome_42 : decode cX2_wholeIncome 42 = .ok (.iinc 2 1, 3) := by decide +kernel
theorem dX2_wholeIncome_45 : decode cX2_wholeIncome 45 = .ok (.goto (-35), 3) := by decide +kernel
theorem dX2_wholeIncome_48 : decode cX2_wholeIncome 48 = .ok (.iload_n 1, 1) := by decide +kernel
theorem dX2_wholeIncome_49 : decode cX2_wholeIncome 49 = .ok (.ireturn, 1) := by decide +kernel
set_option maxRecDepth 20000 in
theorem ggX2_heldEachMonth_X1_taxOf : GoodIn wsX2_heldEachMonth wsX1_taxOf := goodIn_r _ [7, 8, 9, 10, 11, 12, 13, 14, 15, 16, 17, 18, 19, 20, 29, 30, 31, 32, 33] (by decide +kernel) (by decide +kernel)
set_option maxRecDepth 20000 in
theorem gX2_heldEachMonth_X1_taxOf : GoodIn wsX2_heldEachMonth (wsV RX2 71 RX1 yX1_taxOf wsX1_taxOf) := goodIn_app (goodIn_of _ (by decide +kernel)) ggX2_heldEachMonth_X1_taxOf
theorem dX2_heldEachMonth_0 : decode cX2_heldEachMonth 0 = .ok (.aload_n 0, 1) := by decide +kernel
theorem dX2_heldEachMonth_1 : decode cX2_heldEachMonth 1 = .ok (.getfield 31, 3) := by decide +kernel
theorem dX2_heldEachMonth_4 : decode cX2_heldEachMonth 4 = .ok (.bipush 12, 2) := by decide +kernel
theorem dX2_heldEachMonth_6 : decode cX2_heldEachMonth 6 = .ok (.aload_n 0, 1) := by decide +kernel
theorem dX2_heldEachMonth_7 : decode cX2_heldEachMonth 7 = .ok (.getfield 38, 3) := by decide +kernel
theorem dX2_heldEachMonth_10 : decode cX2_heldEachMonth 10 = .ok (.imul, 1) := by decide +kernel
theorem dX2_heldEachMonth_11 : decode cX2_heldEachMonth 11 = .ok (.invokevirtual 71, 3) := by decide +kernel
theorem dX2_heldEachMonth_14 : decode cX2_heldEachMonth 14 = .ok (.bipush 12, 2) := by decide +kernel
theorem dX2_heldEachMonth_16 : decode cX2_heldEachMonth 16 = .ok (.idiv, 1) := by decide +kernel
theorem dX2_heldEachMonth_17 : decode cX2_heldEachMonth 17 = .ok (.ireturn, 1) := by decide +kernel
set_option maxRecDepth 20000 in
theorem ggX2_heldInYear_X2_monthsAbroad : GoodIn wsX2_heldInYear wsX2_monthsAbroad := goodIn_r _ [5, 6, 7, 32, 33, 34, 35, 36, 37, 38, 39] (by decide +kernel) (by decide +kernel)
set_option maxRecDepth 20000 in
theorem gX2_heldInYear_X2_monthsAbroad : GoodIn wsX2_heldInYear (wsV RX2 77 RX2 yX2_monthsAbroad wsX2_monthsAbroad) := goodIn_app (goodIn_of _ (by decide +kernel)) ggX2_heldInYear_X2_monthsAbroad
set_option maxRecDepth 20000 in
theorem ggX2_heldInYear_X2_heldEachMonth : GoodIn wsX2_heldInYear wsX2_heldEachMonth := goodIn_r _ [11, 12, 13, 14, 15, 16, 17, 18, 19, 20, 21, 22, 23, 24, 25, 26, 27, 28, 29, 30, 31, 32, 33, 34, 35, 36, 37, 38, 39, 40, 41, 42, 43, 44] (by decide +kernel) (by decide +kernel)
set_option maxRecDepth 20000 in
theorem gX2_heldInYear_X2_heldEachMonth : GoodIn wsX2_heldInYear (wsV RX2 80 RX2 yX2_heldEachMonth wsX2_heldEachMonth) := goodIn_app (goodIn_of _ (by decide +kernel)) ggX2_heldInYear_X2_heldEachMonth
theorem dX2_heldInYear_0 : decode cX2_heldInYear 0 = .ok (.aload_n 0, 1) := by decide +kernel
theorem dX2_heldInYear_1 : decode cX2_heldInYear 1 = .ok (.invokevirtual 77, 3) := by decide +kernel
theorem dX2_heldInYear_4 : decode cX2_heldInYear 4 = .ok (.aload_n 0, 1) := by decide +kernel
theorem dX2_heldInYear_5 : decode cX2_heldInYear 5 = .ok (.invokevirtual 80, 3) := by decide +kernel
theorem dX2_heldInYear_8 : decode cX2_heldInYear 8 = .ok (.imul, 1) := by decide +kernel
theorem dX2_heldInYear_9 : decode cX2_heldInYear 9 = .ok (.ireturn, 1) := by decide +kernel
set_option maxRecDepth 20000 in
theorem ggX2_housingInYear_X2_monthsAbroad : GoodIn wsX2_housingInYear wsX2_monthsAbroad := goodIn_r _ [6, 7, 8, 19, 20, 21, 22, 23, 24, 25, 26] (by decide +kernel) (by decide +kernel)
set_option maxRecDepth 20000 in
theorem gX2_housingInYear_X2_monthsAbroad : GoodIn wsX2_housingInYear (wsV RX2 77 RX2 yX2_monthsAbroad wsX2_monthsAbroad) := goodIn_app (goodIn_of _ (by decide +kernel)) ggX2_housingInYear_X2_monthsAbroad
set_option maxRecDepth 20000 in
theorem ggX2_housingInYear_X2_ownShare : GoodIn wsX2_housingInYear wsX2_ownShare := goodIn_r _ [12, 1, 13, 14, 15, 16, 17, 18, 19, 20, 21, 22, 23, 24, 25, 26] (by decide +kernel) (by decide +kernel)
set_option maxRecDepth 20000 in
theorem gX2_housingInYear_X2_ownShare : GoodIn wsX2_housingInYear (wsV RX2 83 RX2 yX2_ownShare wsX2_ownShare) := goodIn_app (goodIn_of _ (by decide +kernel)) ggX2_housingInYear_X2_ownShare
theorem dX2_housingInYear_0 : decode cX2_housingInYear 0 = .ok (.aload_n 0, 1) := by decide +kernel
theorem dX2_housingInYear_1 : decode cX2_housingInYear 1 = .ok (.invokevirtual 77, 3) := by decide +kernel
theorem dX2_housingInYear_4 : decode cX2_housingInYear 4 = .ok (.aload_n 0, 1) := by decide +kernel
theorem dX2_housingInYear_5 : decode cX2_housingInYear 5 = .ok (.getfield 25, 3) := by decide +kernel
theorem dX2_housingInYear_8 : decode cX2_housingInYear 8 = .ok (.aload_n 0, 1) := by decide +kernel
theorem dX2_housingInYear_9 : decode cX2_housingInYear 9 = .ok (.invokevirtual 83, 3) := by decide +kernel
theorem dX2_housingInYear_12 : decode cX2_housingInYear 12 = .ok (.isub, 1) := by decide +kernel
theorem dX2_housingInYear_13 : decode cX2_housingInYear 13 = .ok (.imul, 1) := by decide +kernel
theorem dX2_housingInYear_14 : decode cX2_housingInYear 14 = .ok (.ireturn, 1) := by decide +kernel
set_option maxRecDepth 20000 in
theorem ggX2_supposedTaxOfYear_X2_wholeIncome : GoodIn wsX2_supposedTaxOfYear wsX2_wholeIncome := goodIn_r _ [6, 7, 8, 9, 10, 11, 12, 13, 14, 15, 16, 17, 18, 19, 20, 21, 22, 23, 24, 25, 26, 27, 28, 29, 30, 31, 32, 51, 52, 53, 54, 55, 56, 57, 58, 59, 60, 61, 62, 63, 64] (by decide +kernel) (by decide +kernel)
set_option maxRecDepth 20000 in
theorem gX2_supposedTaxOfYear_X2_wholeIncome : GoodIn wsX2_supposedTaxOfYear (wsV RX2 86 RX2 yX2_wholeIncome wsX2_wholeIncome) := goodIn_app (goodIn_of _ (by decide +kernel)) ggX2_supposedTaxOfYear_X2_wholeIncome
set_option maxRecDepth 20000 in
theorem ggX2_supposedTaxOfYear_X1_taxOf : GoodIn wsX2_supposedTaxOfYear wsX1_taxOf := goodIn_r _ [37, 38, 39, 40, 41, 42, 43, 44, 45, 46, 47, 48, 49, 50, 65, 66, 67, 68, 69] (by decide +kernel) (by decide +kernel)
set_option maxRecDepth 20000 in
theorem gX2_supposedTaxOfYear_X1_taxOf : GoodIn wsX2_supposedTaxOfYear (wsV RX2 71 RX1 yX1_taxOf wsX1_taxOf) := goodIn_app (goodIn_of _ (by decide +kernel)) ggX2_supposedTaxOfYear_X1_taxOf
theorem dX2_supposedTaxOfYear_0 : decode cX2_supposedTaxOfYear 0 = .ok (.aload_n 0, 1) := by decide +kernel
theorem dX2_supposedTaxOfYear_1 : decode cX2_supposedTaxOfYear 1 = .ok (.getfield 31, 3) := by decide +kernel
theorem dX2_supposedTaxOfYear_4 : decode cX2_supposedTaxOfYear 4 = .ok (.aload_n 0, 1) := by decide +kernel
theorem dX2_supposedTaxOfYear_5 : decode cX2_supposedTaxOfYear 5 = .ok (.invokevirtual 86, 3) := by decide +kernel
theorem dX2_supposedTaxOfYear_8 : decode cX2_supposedTaxOfYear 8 = .ok (.invokevirtual 71, 3) := by decide +kernel
theorem dX2_supposedTaxOfYear_11 : decode cX2_supposedTaxOfYear 11 = .ok (.ireturn, 1) := by decide +kernel
set_option maxRecDepth 20000 in
theorem ggX2_incomeAtHome_X2_monthsAbroad : GoodIn wsX2_incomeAtHome wsX2_monthsAbroad := goodIn_r _ [8, 9, 10, 45, 46, 47, 48, 49, 50, 51, 52] (by decide +kernel) (by decide +kernel)
set_option maxRecDepth 20000 in
theorem gX2_incomeAtHome_X2_monthsAbroad : GoodIn wsX2_incomeAtHome (wsV RX2 77 RX2 yX2_monthsAbroad wsX2_monthsAbroad) := goodIn_app (goodIn_of _ (by decide +kernel)) ggX2_incomeAtHome_X2_monthsAbroad
set_option maxRecDepth 20000 in
theorem ggX2_incomeAtHome_Jx4a65c_size_8abf5 : GoodIn wsX2_incomeAtHome wsJx4a65c_size_8abf5 := goodIn_r _ [15, 16, 56, 57, 58] (by decide +kernel) (by decide +kernel)
set_option maxRecDepth 20000 in
theorem gX2_incomeAtHome_Jx4a65c_size_8abf5_f61Jx4a65c : GoodIn wsX2_incomeAtHome (va_wsF RX2 61 RJx4a65c ⟨"java/util/List", "size", "()I"⟩ yJx4a65c_size_8abf5 wsJx4a65c_size_8abf5) := goodIn_app (goodIn_of _ (by decide +kernel)) ggX2_incomeAtHome_Jx4a65c_size_8abf5
set_option maxRecDepth 20000 in
theorem ggX2_incomeAtHome_Jx4a65c_get_915e3 : GoodIn wsX2_incomeAtHome wsJx4a65c_get_915e3 := goodIn_r _ [20, 16, 21, 22, 23, 24, 25, 26, 27, 28, 29, 30, 31, 14, 32, 33, 56, 57, 58] (by decide +kernel) (by decide +kernel)
set_option maxRecDepth 20000 in
theorem gX2_incomeAtHome_Jx4a65c_get_915e3_f67Jx4a65c : GoodIn wsX2_incomeAtHome (va_wsF RX2 67 RJx4a65c ⟨"java/util/List", "get", "(I)Ljava/lang/Object;"⟩ yJx4a65c_get_915e3 wsJx4a65c_get_915e3) := goodIn_app (goodIn_of _ (by decide +kernel)) ggX2_incomeAtHome_Jx4a65c_get_915e3
set_option maxRecDepth 20000 in
theorem ggX2_incomeAtHome_X2_partAbroad : GoodIn wsX2_incomeAtHome wsX2_partAbroad := goodIn_r _ [37, 9, 38, 39, 40, 41, 10, 42, 43, 44, 53, 54, 55, 45, 46, 47, 48, 49, 50, 51, 52] (by decide +kernel) (by decide +kernel)
set_option maxRecDepth 20000 in
theorem gX2_incomeAtHome_X2_partAbroad : GoodIn wsX2_incomeAtHome (wsV RX2 89 RX2 yX2_partAbroad wsX2_partAbroad) := goodIn_app (goodIn_of _ (by decide +kernel)) ggX2_incomeAtHome_X2_partAbroad
theorem dX2_incomeAtHome_0 : decode cX2_incomeAtHome 0 = .ok (.bipush 12, 2) := by decide +kernel
theorem dX2_incomeAtHome_2 : decode cX2_incomeAtHome 2 = .ok (.aload_n 0, 1) := by decide +kernel
theorem dX2_incomeAtHome_3 : decode cX2_incomeAtHome 3 = .ok (.invokevirtual 77, 3) := by decide +kernel
theorem dX2_incomeAtHome_6 : decode cX2_incomeAtHome 6 = .ok (.isub, 1) := by decide +kernel
theorem dX2_incomeAtHome_7 : decode cX2_incomeAtHome 7 = .ok (.aload_n 0, 1) := by decide +kernel
theorem dX2_incomeAtHome_8 : decode cX2_incomeAtHome 8 = .ok (.getfield 38, 3) := by decide +kernel
theorem dX2_incomeAtHome_11 : decode cX2_incomeAtHome 11 = .ok (.imul, 1) := by decide +kernel
theorem dX2_incomeAtHome_12 : decode cX2_incomeAtHome 12 = .ok (.istore_n 1, 1) := by decide +kernel
theorem dX2_incomeAtHome_13 : decode cX2_incomeAtHome 13 = .ok (.iconst 0, 1) := by decide +kernel
theorem dX2_incomeAtHome_14 : decode cX2_incomeAtHome 14 = .ok (.istore_n 2, 1) := by decide +kernel
theorem dX2_incomeAtHome_15 : decode cX2_incomeAtHome 15 = .ok (.iload_n 2, 1) := by decide +kernel
theorem dX2_incomeAtHome_16 : decode cX2_incomeAtHome 16 = .ok (.aload_n 0, 1) := by decide +kernel
theorem dX2_incomeAtHome_17 : decode cX2_incomeAtHome 17 = .ok (.getfield 12, 3) := by decide +kernel
theorem dX2_incomeAtHome_20 : decode cX2_incomeAtHome 20 = .ok (.invokeinterface 61 1, 5) := by decide +kernel
theorem dX2_incomeAtHome_25 : decode cX2_incomeAtHome 25 = .ok (.if_icmp .ge 36, 3) := by decide +kernel
theorem dX2_incomeAtHome_28 : decode cX2_incomeAtHome 28 = .ok (.aload_n 0, 1) := by decide +kernel
theorem dX2_incomeAtHome_29 : decode cX2_incomeAtHome 29 = .ok (.getfield 12, 3) := by decide +kernel
theorem dX2_incomeAtHome_32 : decode cX2_incomeAtHome 32 = .ok (.iload_n 2, 1) := by decide +kernel
theorem dX2_incomeAtHome_33 : decode cX2_incomeAtHome 33 = .ok (.invokeinterface 67 2, 5) := by decide +kernel
theorem dX2_incomeAtHome_38 : decode cX2_incomeAtHome 38 = .ok (.checkcast 48, 3) := by decide +kernel
theorem dX2_incomeAtHome_41 : decode cX2_incomeAtHome 41 = .ok (.astore_n 3, 1) := by decide +kernel
theorem dX2_incomeAtHome_42 : decode cX2_incomeAtHome 42 = .ok (.iload_n 1, 1) := by decide +kernel
theorem dX2_incomeAtHome_43 : decode cX2_incomeAtHome 43 = .ok (.aload_n 3, 1) := by decide +kernel
theorem dX2_incomeAtHome_44 : decode cX2_incomeAtHome 44 = .ok (.getfield 58, 3) := by decide +kernel
theorem dX2_incomeAtHome_47 : decode cX2_incomeAtHome 47 = .ok (.aload_n 0, 1) := by decide +kernel
theorem dX2_incomeAtHome_48 : decode cX2_incomeAtHome 48 = .ok (.aload_n 3, 1) := by decide +kernel
theorem dX2_incomeAtHome_49 : decode cX2_incomeAtHome 49 = .ok (.invokevirtual 89, 3) := by decide +kernel
theorem dX2_incomeAtHome_52 : decode cX2_incomeAtHome 52 = .ok (.isub, 1) := by decide +kernel
theorem dX2_incomeAtHome_53 : decode cX2_incomeAtHome 53 = .ok (.iadd, 1) := by decide +kernel
theorem dX2_incomeAtHome_54 : decode cX2_incomeAtHome 54 = .ok (.istore_n 1, 1) := by decide +kernel
theorem dX2_incomeAtHome_55 : decode cX2_incomeAtHome 55 = .ok (.iinc 2 1, 3) := by decide +kernel
theorem dX2_incomeAtHome_58 : decode cX2_incomeAtHome 58 = .ok (.goto (-43), 3) := by decide +kernel
theorem dX2_incomeAtHome_61 : decode cX2_incomeAtHome 61 = .ok (.iload_n 1, 1) := by decide +kernel
theorem dX2_incomeAtHome_62 : decode cX2_incomeAtHome 62 = .ok (.ireturn, 1) := by decide +kernel
set_option maxRecDepth 20000 in
theorem ggX2_taxAtHome_X2_wholeIncome : GoodIn wsX2_taxAtHome wsX2_wholeIncome := goodIn_r _ [6, 7, 8, 9, 10, 11, 12, 13, 14, 15, 16, 17, 18, 19, 20, 21, 22, 23, 24, 25, 26, 27, 28, 29, 30, 31, 32, 67, 68, 69, 70, 71, 72, 73, 74, 75, 76, 77, 78, 79, 80] (by decide +kernel) (by decide +kernel)
set_option maxRecDepth 20000 in
theorem gX2_taxAtHome_X2_wholeIncome : GoodIn wsX2_taxAtHome (wsV RX2 86 RX2 yX2_wholeIncome wsX2_wholeIncome) := goodIn_app (goodIn_of _ (by decide +kernel)) ggX2_taxAtHome_X2_wholeIncome
set_option maxRecDepth 20000 in
theorem ggX2_taxAtHome_X1_taxOf : GoodIn wsX2_taxAtHome wsX1_taxOf := goodIn_r _ [37, 38, 39, 40, 41, 42, 43, 44, 45, 46, 47, 48, 49, 50, 81, 82, 83, 84, 85] (by decide +kernel) (by decide +kernel)
set_option maxRecDepth 20000 in
theorem gX2_taxAtHome_X1_taxOf : GoodIn wsX2_taxAtHome (wsV RX2 71 RX1 yX1_taxOf wsX1_taxOf) := goodIn_app (goodIn_of _ (by decide +kernel)) ggX2_taxAtHome_X1_taxOf
set_option maxRecDepth 20000 in
theorem ggX2_taxAtHome_X2_incomeAtHome : GoodIn wsX2_taxAtHome wsX2_incomeAtHome := goodIn_r _ [54, 7, 8, 9, 55, 56, 57, 5, 58, 59, 60, 10, 11, 12, 13, 14, 15, 16, 17, 18, 19, 20, 21, 22, 23, 24, 25, 26, 27, 28, 29, 30, 31, 32, 61, 62, 63, 64, 65, 40, 41, 42, 66, 45, 46, 67, 68, 69, 70, 71, 72, 73, 74, 75, 76, 77, 78, 79, 80] (by decide +kernel) (by decide +kernel)
set_option maxRecDepth 20000 in
theorem gX2_taxAtHome_X2_incomeAtHome : GoodIn wsX2_taxAtHome (wsV RX2 93 RX2 yX2_incomeAtHome wsX2_incomeAtHome) := goodIn_app (goodIn_of _ (by decide +kernel)) ggX2_taxAtHome_X2_incomeAtHome
theorem dX2_taxAtHome_0 : decode cX2_taxAtHome 0 = .ok (.aload_n 0, 1) := by decide +kernel
theorem dX2_taxAtHome_1 : decode cX2_taxAtHome 1 = .ok (.invokevirtual 86, 3) := by decide +kernel
theorem dX2_taxAtHome_4 : decode cX2_taxAtHome 4 = .ok (.istore_n 1, 1) := by decide +kernel
theorem dX2_taxAtHome_5 : decode cX2_taxAtHome 5 = .ok (.iload_n 1, 1) := by decide +kernel
theorem dX2_taxAtHome_6 : decode cX2_taxAtHome 6 = .ok (.ifCond .gt 5, 3) := by decide +kernel
theorem dX2_taxAtHome_9 : decode cX2_taxAtHome 9 = .ok (.iconst 0, 1) := by decide +kernel
theorem dX2_taxAtHome_10 : decode cX2_taxAtHome 10 = .ok (.ireturn, 1) := by decide +kernel
theorem dX2_taxAtHome_11 : decode cX2_taxAtHome 11 = .ok (.aload_n 0, 1) := by decide +kernel
theorem dX2_taxAtHome_12 : decode cX2_taxAtHome 12 = .ok (.getfield 31, 3) := by decide +kernel
theorem dX2_taxAtHome_15 : decode cX2_taxAtHome 15 = .ok (.iload_n 1, 1) := by decide +kernel
theorem dX2_taxAtHome_16 : decode cX2_taxAtHome 16 = .ok (.invokevirtual 71, 3) := by decide +kernel
theorem dX2_taxAtHome_19 : decode cX2_taxAtHome 19 = .ok (.i2l, 1) := by decide +kernel
theorem dX2_taxAtHome_20 : decode cX2_taxAtHome 20 = .ok (.aload_n 0, 1) := by decide +kernel
theorem dX2_taxAtHome_21 : decode cX2_taxAtHome 21 = .ok (.invokevirtual 93, 3) := by decide +kernel
theorem dX2_taxAtHome_24 : decode cX2_taxAtHome 24 = .ok (.i2l, 1) := by decide +kernel
theorem dX2_taxAtHome_25 : decode cX2_taxAtHome 25 = .ok (.lmul, 1) := by decide +kernel
theorem dX2_taxAtHome_26 : decode cX2_taxAtHome 26 = .ok (.iload_n 1, 1) := by decide +kernel
theorem dX2_taxAtHome_27 : decode cX2_taxAtHome 27 = .ok (.i2l, 1) := by decide +kernel
theorem dX2_taxAtHome_28 : decode cX2_taxAtHome 28 = .ok (.ldiv, 1) := by decide +kernel
theorem dX2_taxAtHome_29 : decode cX2_taxAtHome 29 = .ok (.l2i, 1) := by decide +kernel
theorem dX2_taxAtHome_30 : decode cX2_taxAtHome 30 = .ok (.ireturn, 1) := by decide +kernel
set_option maxRecDepth 20000 in
theorem ggX2_incomeAtHost_X2_monthsAbroad : GoodIn wsX2_incomeAtHost wsX2_monthsAbroad := goodIn_r _ [8, 9, 10, 55, 56, 57, 58, 59, 60, 61, 62] (by decide +kernel) (by decide +kernel)
set_option maxRecDepth 20000 in
theorem gX2_incomeAtHost_X2_monthsAbroad : GoodIn wsX2_incomeAtHost (wsV RX2 77 RX2 yX2_monthsAbroad wsX2_monthsAbroad) := goodIn_app (goodIn_of _ (by decide +kernel)) ggX2_incomeAtHost_X2_monthsAbroad
set_option maxRecDepth 20000 in
theorem ggX2_incomeAtHost_X2_housingInYear : GoodIn wsX2_incomeAtHost wsX2_housingInYear := goodIn_r _ [14, 15, 4, 5, 6, 7, 8, 9, 10, 16, 17, 18, 19, 1, 20, 21, 22, 23, 24, 55, 56, 57, 58, 59, 60, 61, 62] (by decide +kernel) (by decide +kernel)
set_option maxRecDepth 20000 in
theorem gX2_incomeAtHost_X2_housingInYear : GoodIn wsX2_incomeAtHost (wsV RX2 96 RX2 yX2_housingInYear wsX2_housingInYear) := goodIn_app (goodIn_of _ (by decide +kernel)) ggX2_incomeAtHost_X2_housingInYear
set_option maxRecDepth 20000 in
theorem ggX2_incomeAtHost_Jx4a65c_size_8abf5 : GoodIn wsX2_incomeAtHost wsJx4a65c_size_8abf5 := goodIn_r _ [29, 30, 63, 64, 65] (by decide +kernel) (by decide +kernel)
set_option maxRecDepth 20000 in
theorem gX2_incomeAtHost_Jx4a65c_size_8abf5_f61Jx4a65c : GoodIn wsX2_incomeAtHost (va_wsF RX2 61 RJx4a65c ⟨"java/util/List", "size", "()I"⟩ yJx4a65c_size_8abf5 wsJx4a65c_size_8abf5) := goodIn_app (goodIn_of _ (by decide +kernel)) ggX2_incomeAtHost_Jx4a65c_size_8abf5
set_option maxRecDepth 20000 in
theorem ggX2_incomeAtHost_Jx4a65c_get_915e3 : GoodIn wsX2_incomeAtHost wsJx4a65c_get_915e3 := goodIn_r _ [34, 30, 35, 36, 37, 38, 39, 40, 41, 42, 43, 44, 45, 28, 46, 47, 63, 64, 65] (by decide +kernel) (by decide +kernel)
set_option maxRecDepth 20000 in
theorem gX2_incomeAtHost_Jx4a65c_get_915e3_f67Jx4a65c : GoodIn wsX2_incomeAtHost (va_wsF RX2 67 RJx4a65c ⟨"java/util/List", "get", "(I)Ljava/lang/Object;"⟩ yJx4a65c_get_915e3 wsJx4a65c_get_915e3) := goodIn_app (goodIn_of _ (by decide +kernel)) ggX2_incomeAtHost_Jx4a65c_get_915e3
set_option maxRecDepth 20000 in
theorem ggX2_incomeAtHost_X2_partAbroad : GoodIn wsX2_incomeAtHost wsX2_partAbroad := goodIn_r _ [51, 9, 21, 22, 23, 24, 10, 52, 53, 54, 66, 67, 68, 55, 56, 57, 58, 59, 60, 61, 62] (by decide +kernel) (by decide +kernel)
set_option maxRecDepth 20000 in
theorem gX2_incomeAtHost_X2_partAbroad : GoodIn wsX2_incomeAtHost (wsV RX2 89 RX2 yX2_partAbroad wsX2_partAbroad) := goodIn_app (goodIn_of _ (by decide +kernel)) ggX2_incomeAtHost_X2_partAbroad
theorem dX2_incomeAtHost_0 : decode cX2_incomeAtHost 0 = .ok (.aload_n 0, 1) := by decide +kernel
theorem dX2_incomeAtHost_1 : decode cX2_incomeAtHost 1 = .ok (.invokevirtual 77, 3) := by decide +kernel
theorem dX2_incomeAtHost_4 : decode cX2_incomeAtHost 4 = .ok (.aload_n 0, 1) := by decide +kernel
theorem dX2_incomeAtHost_5 : decode cX2_incomeAtHost 5 = .ok (.getfield 38, 3) := by decide +kernel
theorem dX2_incomeAtHost_8 : decode cX2_incomeAtHost 8 = .ok (.imul, 1) := by decide +kernel
theorem dX2_incomeAtHost_9 : decode cX2_incomeAtHost 9 = .ok (.aload_n 0, 1) := by decide +kernel
theorem dX2_incomeAtHost_10 : decode cX2_incomeAtHost 10 = .ok (.invokevirtual 96, 3) := by decide +kernel
theorem dX2_incomeAtHost_13 : decode cX2_incomeAtHost 13 = .ok (.iadd, 1) := by decide +kernel
theorem dX2_incomeAtHost_14 : decode cX2_incomeAtHost 14 = .ok (.istore_n 1, 1) := by decide +kernel
theorem dX2_incomeAtHost_15 : decode cX2_incomeAtHost 15 = .ok (.iconst 0, 1) := by decide +kernel
theorem dX2_incomeAtHost_16 : decode cX2_incomeAtHost 16 = .ok (.istore_n 2, 1) := by decide +kernel
theorem dX2_incomeAtHost_17 : decode cX2_incomeAtHost 17 = .ok (.iload_n 2, 1) := by decide +kernel
theorem dX2_incomeAtHost_18 : decode cX2_incomeAtHost 18 = .ok (.aload_n 0, 1) := by decide +kernel
theorem dX2_incomeAtHost_19 : decode cX2_incomeAtHost 19 = .ok (.getfield 12, 3) := by decide +kernel
theorem dX2_incomeAtHost_22 : decode cX2_incomeAtHost 22 = .ok (.invokeinterface 61 1, 5) := by decide +kernel
theorem dX2_incomeAtHost_27 : decode cX2_incomeAtHost 27 = .ok (.if_icmp .ge 29, 3) := by decide +kernel
theorem dX2_incomeAtHost_30 : decode cX2_incomeAtHost 30 = .ok (.iload_n 1, 1) := by decide +kernel
theorem dX2_incomeAtHost_31 : decode cX2_incomeAtHost 31 = .ok (.aload_n 0, 1) := by decide +kernel
theorem dX2_incomeAtHost_32 : decode cX2_incomeAtHost 32 = .ok (.aload_n 0, 1) := by decide +kernel
theorem dX2_incomeAtHost_33 : decode cX2_incomeAtHost 33 = .ok (.getfield 12, 3) := by decide +kernel
theorem dX2_incomeAtHost_36 : decode cX2_incomeAtHost 36 = .ok (.iload_n 2, 1) := by decide +kernel
theorem dX2_incomeAtHost_37 : decode cX2_incomeAtHost 37 = .ok (.invokeinterface 67 2, 5) := by decide +kernel
theorem dX2_incomeAtHost_42 : decode cX2_incomeAtHost 42 = .ok (.checkcast 48, 3) := by decide +kernel
theorem dX2_incomeAtHost_45 : decode cX2_incomeAtHost 45 = .ok (.invokevirtual 89, 3) := by decide +kernel
theorem dX2_incomeAtHost_48 : decode cX2_incomeAtHost 48 = .ok (.iadd, 1) := by decide +kernel
theorem dX2_incomeAtHost_49 : decode cX2_incomeAtHost 49 = .ok (.istore_n 1, 1) := by decide +kernel
theorem dX2_incomeAtHost_50 : decode cX2_incomeAtHost 50 = .ok (.iinc 2 1, 3) := by decide +kernel
theorem dX2_incomeAtHost_53 : decode cX2_incomeAtHost 53 = .ok (.goto (-36), 3) := by decide +kernel
theorem dX2_incomeAtHost_56 : decode cX2_incomeAtHost 56 = .ok (.iload_n 1, 1) := by decide +kernel
theorem dX2_incomeAtHost_57 : decode cX2_incomeAtHost 57 = .ok (.ireturn, 1) := by decide +kernel
set_option maxRecDepth 20000 in
theorem ggX2_taxAtHost_X2_incomeAtHost : GoodIn wsX2_taxAtHost wsX2_incomeAtHost := goodIn_r _ [6, 7, 8, 9, 10, 11, 12, 5, 13, 14, 15, 16, 17, 18, 19, 20, 21, 22, 23, 24, 25, 26, 27, 28, 29, 30, 31, 32, 33, 34, 35, 36, 37, 38, 39, 40, 41, 42, 43, 44, 45, 46, 47, 48, 49, 50, 51, 52, 53, 54, 55, 56, 57, 58, 59, 80, 81, 82, 83, 84, 85, 86, 87, 88, 89, 90, 91, 92, 93] (by decide +kernel) (by decide +kernel)
set_option maxRecDepth 20000 in
theorem gX2_taxAtHost_X2_incomeAtHost : GoodIn wsX2_taxAtHost (wsV RX2 99 RX2 yX2_incomeAtHost wsX2_incomeAtHost) := goodIn_app (goodIn_of _ (by decide +kernel)) ggX2_taxAtHost_X2_incomeAtHost
set_option maxRecDepth 20000 in
theorem ggX2_taxAtHost_X1_grossTaxOf : GoodIn wsX2_taxAtHost wsX1_grossTaxOf := goodIn_r _ [64, 65, 66, 63, 67, 68, 69, 70, 71, 72, 73, 27, 28, 29, 74, 75, 58, 59, 76, 77, 78, 79, 94, 95, 96, 97, 98] (by decide +kernel) (by decide +kernel)
set_option maxRecDepth 20000 in
theorem gX2_taxAtHost_X1_grossTaxOf : GoodIn wsX2_taxAtHost (wsV RX2 102 RX1 yX1_grossTaxOf wsX1_grossTaxOf) := goodIn_app (goodIn_of _ (by decide +kernel)) ggX2_taxAtHost_X1_grossTaxOf
theorem dX2_taxAtHost_0 : decode cX2_taxAtHost 0 = .ok (.aload_n 0, 1) := by decide +kernel
theorem dX2_taxAtHost_1 : decode cX2_taxAtHost 1 = .ok (.getfield 35, 3) := by decide +kernel
theorem dX2_taxAtHost_4 : decode cX2_taxAtHost 4 = .ok (.aload_n 0, 1) := by decide +kernel
theorem dX2_taxAtHost_5 : decode cX2_taxAtHost 5 = .ok (.invokevirtual 99, 3) := by decide +kernel
theorem dX2_taxAtHost_8 : decode cX2_taxAtHost 8 = .ok (.invokevirtual 102, 3) := by decide +kernel
theorem dX2_taxAtHost_11 : decode cX2_taxAtHost 11 = .ok (.ireturn, 1) := by decide +kernel
set_option maxRecDepth 20000 in
theorem ggX2_borneInYear_X2_heldInYear : GoodIn wsX2_borneInYear wsX2_heldInYear := goodIn_r _ [5, 6, 7, 8, 4, 9, 10, 11, 12, 13, 14, 15, 16, 17, 18, 19, 20, 21, 22, 23, 24, 25, 26, 27, 28, 29, 30, 31, 32, 33, 34, 35, 79, 80, 81, 82, 83, 84, 85, 86, 87, 88, 89, 90, 91] (by decide +kernel) (by decide +kernel)
set_option maxRecDepth 20000 in
theorem gX2_borneInYear_X2_heldInYear : GoodIn wsX2_borneInYear (wsV RX2 105 RX2 yX2_heldInYear wsX2_heldInYear) := goodIn_app (goodIn_of _ (by decide +kernel)) ggX2_borneInYear_X2_heldInYear
set_option maxRecDepth 20000 in
theorem ggX2_borneInYear_X2_taxAtHome : GoodIn wsX2_borneInYear wsX2_taxAtHome := goodIn_r _ [39, 16, 40, 41, 42, 4, 43, 17, 44, 45, 46, 47, 48, 49, 50, 51, 52, 53, 54, 55, 56, 57, 58, 59, 60, 61, 62, 63, 64, 65, 66, 67, 68, 18, 19, 20, 21, 22, 23, 24, 25, 26, 27, 28, 29, 30, 31, 32, 33, 34, 35, 69, 70, 71, 72, 6, 7, 8, 9, 10, 11, 73, 74, 75, 76, 77, 78, 79, 80, 81, 82, 83, 84, 85, 86, 92, 93, 94, 95, 96, 97, 87, 88, 89, 90, 91] (by decide +kernel) (by decide +kernel)
set_option maxRecDepth 20000 in
theorem gX2_borneInYear_X2_taxAtHome : GoodIn wsX2_borneInYear (wsV RX2 108 RX2 yX2_taxAtHome wsX2_taxAtHome) := goodIn_app (goodIn_of _ (by decide +kernel)) ggX2_borneInYear_X2_taxAtHome
theorem dX2_borneInYear_0 : decode cX2_borneInYear 0 = .ok (.aload_n 0, 1) := by decide +kernel
theorem dX2_borneInYear_1 : decode cX2_borneInYear 1 = .ok (.invokevirtual 105, 3) := by decide +kernel
theorem dX2_borneInYear_4 : decode cX2_borneInYear 4 = .ok (.aload_n 0, 1) := by decide +kernel
theorem dX2_borneInYear_5 : decode cX2_borneInYear 5 = .ok (.invokevirtual 108, 3) := by decide +kernel
theorem dX2_borneInYear_8 : decode cX2_borneInYear 8 = .ok (.iadd, 1) := by decide +kernel
theorem dX2_borneInYear_9 : decode cX2_borneInYear 9 = .ok (.ireturn, 1) := by decide +kernel
set_option maxRecDepth 20000 in
theorem ggX2_settlementOfYear_X2_supposedTaxOfYear : GoodIn wsX2_settlementOfYear wsX2_supposedTaxOfYear := goodIn_r _ [5, 6, 7, 8, 9, 4, 10, 11, 12, 13, 14, 15, 16, 17, 18, 19, 20, 21, 22, 23, 24, 25, 26, 27, 28, 29, 30, 31, 32, 33, 34, 35, 36, 37, 38, 39, 40, 41, 42, 43, 44, 45, 46, 47, 48, 49, 50, 51, 52, 53, 54, 87, 88, 89, 90, 91, 92, 93, 94, 95, 96, 97, 98, 99, 100, 101, 102, 103, 104, 105] (by decide +kernel) (by decide +kernel)
set_option maxRecDepth 20000 in
theorem gX2_settlementOfYear_X2_supposedTaxOfYear : GoodIn wsX2_settlementOfYear (wsV RX2 111 RX2 yX2_supposedTaxOfYear wsX2_supposedTaxOfYear) := goodIn_app (goodIn_of _ (by decide +kernel)) ggX2_settlementOfYear_X2_supposedTaxOfYear
set_option maxRecDepth 20000 in
theorem ggX2_settlementOfYear_X2_borneInYear : GoodIn wsX2_settlementOfYear wsX2_borneInYear := goodIn_r _ [58, 59, 60, 61, 4, 62, 63, 64, 65, 66, 67, 68, 69, 70, 71, 72, 6, 11, 37, 38, 39, 40, 41, 42, 43, 44, 45, 46, 47, 48, 49, 50, 51, 52, 53, 54, 73, 74, 75, 76, 7, 8, 9, 10, 12, 13, 14, 15, 16, 17, 18, 19, 20, 21, 22, 23, 24, 25, 26, 27, 28, 29, 30, 31, 32, 33, 34, 35, 36, 77, 78, 79, 80, 81, 82, 83, 84, 85, 86, 87, 88, 89, 90, 91, 92, 93, 94, 101, 102, 103, 104, 105, 95, 96, 97, 98, 99, 100] (by decide +kernel) (by decide +kernel)
set_option maxRecDepth 20000 in
theorem gX2_settlementOfYear_X2_borneInYear : GoodIn wsX2_settlementOfYear (wsV RX2 114 RX2 yX2_borneInYear wsX2_borneInYear) := goodIn_app (goodIn_of _ (by decide +kernel)) ggX2_settlementOfYear_X2_borneInYear
theorem dX2_settlementOfYear_0 : decode cX2_settlementOfYear 0 = .ok (.aload_n 0, 1) := by decide +kernel
theorem dX2_settlementOfYear_1 : decode cX2_settlementOfYear 1 = .ok (.invokevirtual 111, 3) := by decide +kernel
theorem dX2_settlementOfYear_4 : decode cX2_settlementOfYear 4 = .ok (.aload_n 0, 1) := by decide +kernel
theorem dX2_settlementOfYear_5 : decode cX2_settlementOfYear 5 = .ok (.invokevirtual 114, 3) := by decide +kernel
theorem dX2_settlementOfYear_8 : decode cX2_settlementOfYear 8 = .ok (.isub, 1) := by decide +kernel
theorem dX2_settlementOfYear_9 : decode cX2_settlementOfYear 9 = .ok (.ireturn, 1) := by decide +kernel
set_option maxRecDepth 20000 in
theorem ggX2_costOfYear_X2_taxAtHost : GoodIn wsX2_costOfYear wsX2_taxAtHost := goodIn_r _ [5, 6, 7, 8, 9, 4, 10, 11, 12, 13, 14, 15, 16, 17, 18, 19, 20, 21, 22, 23, 24, 25, 26, 27, 28, 29, 30, 31, 32, 33, 34, 35, 36, 37, 38, 39, 40, 41, 42, 43, 44, 45, 46, 47, 48, 49, 50, 51, 52, 53, 54, 55, 56, 57, 58, 59, 60, 61, 62, 63, 64, 65, 66, 67, 68, 69, 70, 71, 72, 73, 74, 75, 76, 77, 78, 79, 80, 81, 82, 83, 118, 119, 120, 121, 122, 123, 124, 125, 126, 127, 128, 129, 130, 131, 132, 133, 134, 135, 136] (by decide +kernel) (by decide +kernel)
set_option maxRecDepth 20000 in
theorem gX2_costOfYear_X2_taxAtHost : GoodIn wsX2_costOfYear (wsV RX2 117 RX2 yX2_taxAtHost wsX2_taxAtHost) := goodIn_app (goodIn_of _ (by decide +kernel)) ggX2_costOfYear_X2_taxAtHost
set_option maxRecDepth 20000 in
theorem ggX2_costOfYear_X2_housingInYear : GoodIn wsX2_costOfYear wsX2_housingInYear := goodIn_r _ [23, 24, 14, 15, 16, 4, 17, 18, 19, 25, 26, 27, 28, 11, 29, 30, 31, 32, 33, 118, 119, 120, 121, 122, 123, 124, 125] (by decide +kernel) (by decide +kernel)
set_option maxRecDepth 20000 in
theorem gX2_costOfYear_X2_housingInYear : GoodIn wsX2_costOfYear (wsV RX2 96 RX2 yX2_housingInYear wsX2_housingInYear) := goodIn_app (goodIn_of _ (by decide +kernel)) ggX2_costOfYear_X2_housingInYear
set_option maxRecDepth 20000 in
theorem ggX2_costOfYear_X2_heldInYear : GoodIn wsX2_costOfYear wsX2_heldInYear := goodIn_r _ [87, 14, 15, 16, 4, 17, 18, 19, 88, 89, 90, 91, 92, 11, 93, 73, 74, 67, 75, 76, 77, 31, 32, 33, 78, 79, 62, 63, 80, 81, 82, 83, 118, 119, 120, 121, 122, 123, 124, 125, 132, 133, 134, 135, 136] (by decide +kernel) (by decide +kernel)
set_option maxRecDepth 20000 in
theorem gX2_costOfYear_X2_heldInYear : GoodIn wsX2_costOfYear (wsV RX2 105 RX2 yX2_heldInYear wsX2_heldInYear) := goodIn_app (goodIn_of _ (by decide +kernel)) ggX2_costOfYear_X2_heldInYear
set_option maxRecDepth 20000 in
theorem ggX2_costOfYear_X2_settlementOfYear : GoodIn wsX2_costOfYear wsX2_settlementOfYear := goodIn_r _ [97, 98, 99, 100, 4, 101, 92, 102, 103, 104, 105, 11, 12, 13, 34, 35, 36, 37, 38, 39, 40, 41, 42, 43, 44, 45, 46, 47, 48, 49, 50, 51, 52, 53, 54, 55, 56, 93, 73, 74, 67, 75, 76, 77, 31, 32, 33, 78, 79, 62, 63, 80, 81, 82, 83, 106, 107, 108, 109, 84, 85, 86, 87, 14, 15, 16, 17, 18, 19, 88, 89, 90, 91, 110, 111, 112, 113, 114, 115, 116, 117, 57, 58, 59, 60, 30, 61, 118, 119, 120, 121, 122, 123, 124, 125, 129, 130, 131, 126, 127, 128, 132, 133, 134, 135, 136] (by decide +kernel) (by decide +kernel)
set_option maxRecDepth 20000 in
theorem gX2_costOfYear_X2_settlementOfYear : GoodIn wsX2_costOfYear (wsV RX2 120 RX2 yX2_settlementOfYear wsX2_settlementOfYear) := goodIn_app (goodIn_of _ (by decide +kernel)) ggX2_costOfYear_X2_settlementOfYear
theorem dX2_costOfYear_0 : decode cX2_costOfYear 0 = .ok (.aload_n 0, 1) := by decide +kernel
theorem dX2_costOfYear_1 : decode cX2_costOfYear 1 = .ok (.invokevirtual 117, 3) := by decide +kernel
theorem dX2_costOfYear_4 : decode cX2_costOfYear 4 = .ok (.aload_n 0, 1) := by decide +kernel
theorem dX2_costOfYear_5 : decode cX2_costOfYear 5 = .ok (.invokevirtual 96, 3) := by decide +kernel
theorem dX2_costOfYear_8 : decode cX2_costOfYear 8 = .ok (.iadd, 1) := by decide +kernel
theorem dX2_costOfYear_9 : decode cX2_costOfYear 9 = .ok (.aload_n 0, 1) := by decide +kernel
theorem dX2_costOfYear_10 : decode cX2_costOfYear 10 = .ok (.invokevirtual 105, 3) := by decide +kernel
theorem dX2_costOfYear_13 : decode cX2_costOfYear 13 = .ok (.isub, 1) := by decide +kernel
theorem dX2_costOfYear_14 : decode cX2_costOfYear 14 = .ok (.aload_n 0, 1) := by decide +kernel
theorem dX2_costOfYear_15 : decode cX2_costOfYear 15 = .ok (.invokevirtual 120, 3) := by decide +kernel
theorem dX2_costOfYear_18 : decode cX2_costOfYear 18 = .ok (.isub, 1) := by decide +kernel
theorem dX2_costOfYear_19 : decode cX2_costOfYear 19 = .ok (.ireturn, 1) := by decide +kernel
set_option maxRecDepth 20000 in
theorem ggX3_init_Jx4a65c_init_da8c8 : GoodIn wsX3_init wsJx4a65c_init_da8c8 := goodIn_r _ [14, 15, 16, 17, 18, 19, 20, 21, 22, 23, 24, 25, 26, 2, 3, 89, 90, 91] (by decide +kernel) (by decide +kernel)
set_option maxRecDepth 20000 in
theorem gX3_init_Jx4a65c_init_da8c8 : GoodIn wsX3_init (wsJx4a65c_init_da8c8) := ggX3_init_Jx4a65c_init_da8c8
set_option maxRecDepth 20000 in
theorem ggX3_init_X1_init : GoodIn wsX3_init wsX1_init := goodIn_r _ [28, 29, 2, 3, 30, 31, 32, 33, 34, 35, 94, 95, 96, 97, 98] (by decide +kernel) (by decide +kernel)
set_option maxRecDepth 20000 in
theorem gX3_init_X1_init_n21 : GoodIn wsX3_init (wsX1_init) := ggX3_init_X1_init
set_option maxRecDepth 20000 in
theorem ggX3_init_Jx4a65c_add_9ea2d : GoodIn wsX3_init wsJx4a65c_add_9ea2d := goodIn_r _ [39, 40, 41, 16, 42, 43, 44, 45, 6, 46, 47, 48, 49, 50, 51, 52, 53, 54, 15, 55, 56, 57, 58, 59, 60, 61, 62, 63, 64, 65, 66, 67, 68, 69, 70, 71, 72, 73, 74, 75, 76, 77, 78, 79, 80, 81, 82, 83, 84, 85, 86, 87, 88, 89, 90, 91] (by decide +kernel) (by decide +kernel)
set_option maxRecDepth 20000 in
theorem gX3_init_Jx4a65c_add_9ea2d_f22Jx4a65c : GoodIn wsX3_init (va_wsF RX3 22 RJx4a65c ⟨"java/util/List", "add", "(Ljava/lang/Object;)Z"⟩ yJx4a65c_add_9ea2d wsJx4a65c_add_9ea2d) := goodIn_app (goodIn_of _ (by decide +kernel)) ggX3_init_Jx4a65c_add_9ea2d
theorem dX3_init_0 : decode cX3_init 0 = .ok (.aload_n 0, 1) := by decide +kernel
theorem dX3_init_1 : decode cX3_init 1 = .ok (.invokespecial 1, 3) := by decide +kernel
theorem dX3_init_4 : decode cX3_init 4 = .ok (.aload_n 0, 1) := by decide +kernel
theorem dX3_init_5 : decode cX3_init 5 = .ok (.new 7, 3) := by decide +kernel
theorem dX3_init_8 : decode cX3_init 8 = .ok (.dup, 1) := by decide +kernel
theorem dX3_init_9 : decode cX3_init 9 = .ok (.invokespecial 9, 3) := by decide +kernel
theorem dX3_init_12 : decode cX3_init 12 = .ok (.putfield 10, 3) := by decide +kernel
theorem dX3_init_15 : decode cX3_init 15 = .ok (.aload_n 0, 1) := by decide +kernel
theorem dX3_init_16 : decode cX3_init 16 = .ok (.new 7, 3) := by decide +kernel
theorem dX3_init_19 : decode cX3_init 19 = .ok (.dup, 1) := by decide +kernel
theorem dX3_init_20 : decode cX3_init 20 = .ok (.invokespecial 9, 3) := by decide +kernel
theorem dX3_init_23 : decode cX3_init 23 = .ok (.putfield 16, 3) := by decide +kernel
theorem dX3_init_26 : decode cX3_init 26 = .ok (.iconst 0, 1) := by decide +kernel
theorem dX3_init_27 : decode cX3_init 27 = .ok (.istore_n 1, 1) := by decide +kernel
theorem dX3_init_28 : decode cX3_init 28 = .ok (.iload_n 1, 1) := by decide +kernel
theorem dX3_init_29 : decode cX3_init 29 = .ok (.iconst 4, 1) := by decide +kernel
theorem dX3_init_30 : decode cX3_init 30 = .ok (.if_icmp .ge 26, 3) := by decide +kernel
theorem dX3_init_33 : decode cX3_init 33 = .ok (.aload_n 0, 1) := by decide +kernel
theorem dX3_init_34 : decode cX3_init 34 = .ok (.getfield 10, 3) := by decide +kernel
theorem dX3_init_37 : decode cX3_init 37 = .ok (.new 19, 3) := by decide +kernel
theorem dX3_init_40 : decode cX3_init 40 = .ok (.dup, 1) := by decide +kernel
theorem dX3_init_41 : decode cX3_init 41 = .ok (.invokespecial 21, 3) := by decide +kernel
