theorem dX3_init_44 : decode cX3_init 44 = .ok (.invokeinterface 22 2, 5) := by decide +kernel
theorem dX3_init_49 : decode cX3_init 49 = .ok (.pop, 1) := by decide +kernel
theorem dX3_init_50 : decode cX3_init 50 = .ok (.iinc 1 1, 3) := by decide +kernel
theorem dX3_init_53 : decode cX3_init 53 = .ok (.goto (-25), 3) := by decide +kernel
theorem dX3_init_56 : decode cX3_init 56 = .ok (.return_, 1) := by decide +kernel
set_option maxRecDepth 20000 in
theorem ggX3_setLimits_X3_landAt : GoodIn wsX3_setLimits wsX3_landAt := goodIn_ca (goodIn_r _ [6, 7, 8, 9, 10, 11, 12, 13, 14, 15, 16, 17, 18, 19, 20, 21, 22, 23, 24, 25, 26, 27, 28, 29, 30, 31, 32, 33, 44, 45, 46, 47, 48] (by decide +kernel) (by decide +kernel)) (goodIn_sub (fun _ h => List.mem_cons_of_mem _ (List.mem_append_right _ h)) (by decide +kernel))
set_option maxRecDepth 20000 in
theorem gX3_setLimits_X3_landAt : GoodIn wsX3_setLimits (wsV RX3 28 RX3 yX3_landAt wsX3_landAt) := goodIn_app (goodIn_of _ (by decide +kernel)) ggX3_setLimits_X3_landAt
set_option maxRecDepth 20000 in
theorem ggX3_setLimits_X3_requireRange : GoodIn wsX3_setLimits wsX3_requireRange := goodIn_ca (goodIn_r _ [36, 7, 8] (by decide +kernel) (by decide +kernel)) (goodIn_sub (fun _ h => List.mem_cons_of_mem _ (List.mem_append_right _ h)) (by decide +kernel))
set_option maxRecDepth 20000 in
theorem gX3_setLimits_X3_requireRange : GoodIn wsX3_setLimits (va_wsS RX3 33 yX3_requireRange wsX3_requireRange) := goodIn_app (goodIn_of _ (by decide +kernel)) ggX3_setLimits_X3_requireRange
set_option maxRecDepth 20000 in
theorem ggX3_setLimits_X1_limit : GoodIn wsX3_setLimits wsX1_limit := goodIn_r _ [41, 42, 43, 49, 50, 51, 52, 53] (by decide +kernel) (by decide +kernel)
set_option maxRecDepth 20000 in
theorem gX3_setLimits_X1_limit : GoodIn wsX3_setLimits (wsV RX3 37 RX1 yX1_limit wsX1_limit) := goodIn_app (goodIn_of _ (by decide +kernel)) ggX3_setLimits_X1_limit
theorem dX3_setLimits_0 : decode cX3_setLimits 0 = .ok (.aload_n 0, 1) := by decide +kernel
theorem dX3_setLimits_1 : decode cX3_setLimits 1 = .ok (.iload_n 1, 1) := by decide +kernel
theorem dX3_setLimits_2 : decode cX3_setLimits 2 = .ok (.invokevirtual 28, 3) := by decide +kernel
theorem dX3_setLimits_5 : decode cX3_setLimits 5 = .ok (.astore 4, 2) := by decide +kernel
theorem dX3_setLimits_7 : decode cX3_setLimits 7 = .ok (.iload_n 2, 1) := by decide +kernel
theorem dX3_setLimits_8 : decode cX3_setLimits 8 = .ok (.iconst 0, 1) := by decide +kernel
theorem dX3_setLimits_9 : decode cX3_setLimits 9 = .ok (.ldc 32, 2) := by decide +kernel
theorem dX3_setLimits_11 : decode cX3_setLimits 11 = .ok (.invokestatic 33, 3) := by decide +kernel
theorem dX3_setLimits_14 : decode cX3_setLimits 14 = .ok (.iload_n 3, 1) := by decide +kernel
theorem dX3_setLimits_15 : decode cX3_setLimits 15 = .ok (.iload_n 2, 1) := by decide +kernel
theorem dX3_setLimits_16 : decode cX3_setLimits 16 = .ok (.ldc 32, 2) := by decide +kernel
theorem dX3_setLimits_18 : decode cX3_setLimits 18 = .ok (.invokestatic 33, 3) := by decide +kernel
theorem dX3_setLimits_21 : decode cX3_setLimits 21 = .ok (.aload 4, 2) := by decide +kernel
theorem dX3_setLimits_23 : decode cX3_setLimits 23 = .ok (.iload_n 2, 1) := by decide +kernel
theorem dX3_setLimits_24 : decode cX3_setLimits 24 = .ok (.iload_n 3, 1) := by decide +kernel
theorem dX3_setLimits_25 : decode cX3_setLimits 25 = .ok (.invokevirtual 37, 3) := by decide +kernel
theorem dX3_setLimits_28 : decode cX3_setLimits 28 = .ok (.return_, 1) := by decide +kernel
set_option maxRecDepth 20000 in
theorem ggX3_setRates_X3_landAt : GoodIn wsX3_setRates wsX3_landAt := goodIn_ca (goodIn_r _ [5, 6, 7, 8, 9, 10, 11, 12, 13, 14, 15, 16, 17, 18, 19, 20, 21, 22, 23, 24, 25, 26, 27, 28, 29, 30, 31, 32, 44, 45, 46, 47, 48] (by decide +kernel) (by decide +kernel)) (goodIn_sub (fun _ h => List.mem_cons_of_mem _ (List.mem_append_right _ h)) (by decide +kernel))
set_option maxRecDepth 20000 in
theorem gX3_setRates_X3_landAt : GoodIn wsX3_setRates (wsV RX3 28 RX3 yX3_landAt wsX3_landAt) := goodIn_app (goodIn_of _ (by decide +kernel)) ggX3_setRates_X3_landAt
set_option maxRecDepth 20000 in
theorem ggX3_setRates_X3_requireRange : GoodIn wsX3_setRates wsX3_requireRange := goodIn_ca (goodIn_r _ [35, 6, 7] (by decide +kernel) (by decide +kernel)) (goodIn_sub (fun _ h => List.mem_cons_of_mem _ (List.mem_append_right _ h)) (by decide +kernel))
set_option maxRecDepth 20000 in
theorem gX3_setRates_X3_requireRange : GoodIn wsX3_setRates (va_wsS RX3 33 yX3_requireRange wsX3_requireRange) := goodIn_app (goodIn_of _ (by decide +kernel)) ggX3_setRates_X3_requireRange
set_option maxRecDepth 20000 in
theorem ggX3_setRates_X1_rate : GoodIn wsX3_setRates wsX1_rate := goodIn_r _ [40, 41, 42, 43, 49, 50, 51, 52, 53] (by decide +kernel) (by decide +kernel)
set_option maxRecDepth 20000 in
theorem gX3_setRates_X1_rate : GoodIn wsX3_setRates (wsV RX3 41 RX1 yX1_rate wsX1_rate) := goodIn_app (goodIn_of _ (by decide +kernel)) ggX3_setRates_X1_rate
theorem dX3_setRates_0 : decode cX3_setRates 0 = .ok (.aload_n 0, 1) := by decide +kernel
theorem dX3_setRates_1 : decode cX3_setRates 1 = .ok (.iload_n 1, 1) := by decide +kernel
theorem dX3_setRates_2 : decode cX3_setRates 2 = .ok (.invokevirtual 28, 3) := by decide +kernel
theorem dX3_setRates_5 : decode cX3_setRates 5 = .ok (.astore 5, 2) := by decide +kernel
theorem dX3_setRates_7 : decode cX3_setRates 7 = .ok (.iload_n 2, 1) := by decide +kernel
theorem dX3_setRates_8 : decode cX3_setRates 8 = .ok (.iconst 0, 1) := by decide +kernel
theorem dX3_setRates_9 : decode cX3_setRates 9 = .ok (.bipush 60, 2) := by decide +kernel
theorem dX3_setRates_11 : decode cX3_setRates 11 = .ok (.invokestatic 33, 3) := by decide +kernel
theorem dX3_setRates_14 : decode cX3_setRates 14 = .ok (.iload_n 3, 1) := by decide +kernel
theorem dX3_setRates_15 : decode cX3_setRates 15 = .ok (.iconst 0, 1) := by decide +kernel
theorem dX3_setRates_16 : decode cX3_setRates 16 = .ok (.bipush 60, 2) := by decide +kernel
theorem dX3_setRates_18 : decode cX3_setRates 18 = .ok (.invokestatic 33, 3) := by decide +kernel
theorem dX3_setRates_21 : decode cX3_setRates 21 = .ok (.iload 4, 2) := by decide +kernel
theorem dX3_setRates_23 : decode cX3_setRates 23 = .ok (.iconst 0, 1) := by decide +kernel
theorem dX3_setRates_24 : decode cX3_setRates 24 = .ok (.bipush 60, 2) := by decide +kernel
theorem dX3_setRates_26 : decode cX3_setRates 26 = .ok (.invokestatic 33, 3) := by decide +kernel
theorem dX3_setRates_29 : decode cX3_setRates 29 = .ok (.aload 5, 2) := by decide +kernel
theorem dX3_setRates_31 : decode cX3_setRates 31 = .ok (.iload_n 2, 1) := by decide +kernel
theorem dX3_setRates_32 : decode cX3_setRates 32 = .ok (.iload_n 3, 1) := by decide +kernel
theorem dX3_setRates_33 : decode cX3_setRates 33 = .ok (.iload 4, 2) := by decide +kernel
theorem dX3_setRates_35 : decode cX3_setRates 35 = .ok (.invokevirtual 41, 3) := by decide +kernel
theorem dX3_setRates_38 : decode cX3_setRates 38 = .ok (.return_, 1) := by decide +kernel
set_option maxRecDepth 20000 in
theorem ggX3_tax_X3_landAt : GoodIn wsX3_tax wsX3_landAt := goodIn_ca (goodIn_r _ [6, 7, 8, 9, 10, 11, 12, 13, 14, 15, 16, 17, 18, 19, 20, 21, 22, 23, 24, 25, 26, 27, 28, 29, 30, 31, 32, 33, 55, 56, 57, 58, 59] (by decide +kernel) (by decide +kernel)) (goodIn_sub (fun _ h => List.mem_cons_of_mem _ (List.mem_append_right _ h)) (by decide +kernel))
set_option maxRecDepth 20000 in
theorem gX3_tax_X3_landAt : GoodIn wsX3_tax (wsV RX3 28 RX3 yX3_landAt wsX3_landAt) := goodIn_app (goodIn_of _ (by decide +kernel)) ggX3_tax_X3_landAt
set_option maxRecDepth 20000 in
theorem ggX3_tax_X3_requireRange : GoodIn wsX3_tax wsX3_requireRange := goodIn_ca (goodIn_r _ [36, 7, 8] (by decide +kernel) (by decide +kernel)) (goodIn_sub (fun _ h => List.mem_cons_of_mem _ (List.mem_append_right _ h)) (by decide +kernel))
set_option maxRecDepth 20000 in
theorem gX3_tax_X3_requireRange : GoodIn wsX3_tax (va_wsS RX3 33 yX3_requireRange wsX3_requireRange) := goodIn_app (goodIn_of _ (by decide +kernel)) ggX3_tax_X3_requireRange
set_option maxRecDepth 20000 in
theorem ggX3_tax_X1_taxOf : GoodIn wsX3_tax wsX1_taxOf := goodIn_r _ [41, 42, 43, 44, 45, 46, 47, 48, 49, 50, 51, 52, 53, 54, 60, 61, 62, 63, 64] (by decide +kernel) (by decide +kernel)
set_option maxRecDepth 20000 in
theorem gX3_tax_X1_taxOf : GoodIn wsX3_tax (wsV RX3 45 RX1 yX1_taxOf wsX1_taxOf) := goodIn_app (goodIn_of _ (by decide +kernel)) ggX3_tax_X1_taxOf
theorem dX3_tax_0 : decode cX3_tax 0 = .ok (.aload_n 0, 1) := by decide +kernel
theorem dX3_tax_1 : decode cX3_tax 1 = .ok (.iload_n 1, 1) := by decide +kernel
theorem dX3_tax_2 : decode cX3_tax 2 = .ok (.invokevirtual 28, 3) := by decide +kernel
theorem dX3_tax_5 : decode cX3_tax 5 = .ok (.astore_n 3, 1) := by decide +kernel
theorem dX3_tax_6 : decode cX3_tax 6 = .ok (.iload_n 2, 1) := by decide +kernel
theorem dX3_tax_7 : decode cX3_tax 7 = .ok (.iconst 0, 1) := by decide +kernel
theorem dX3_tax_8 : decode cX3_tax 8 = .ok (.ldc 44, 2) := by decide +kernel
theorem dX3_tax_10 : decode cX3_tax 10 = .ok (.invokestatic 33, 3) := by decide +kernel
theorem dX3_tax_13 : decode cX3_tax 13 = .ok (.aload_n 3, 1) := by decide +kernel
theorem dX3_tax_14 : decode cX3_tax 14 = .ok (.iload_n 2, 1) := by decide +kernel
theorem dX3_tax_15 : decode cX3_tax 15 = .ok (.invokevirtual 45, 3) := by decide +kernel
theorem dX3_tax_18 : decode cX3_tax 18 = .ok (.ireturn, 1) := by decide +kernel
set_option maxRecDepth 20000 in
theorem ggX3_grossTax_X3_landAt : GoodIn wsX3_grossTax wsX3_landAt := goodIn_ca (goodIn_r _ [6, 7, 8, 9, 10, 11, 12, 13, 14, 15, 16, 17, 18, 19, 20, 21, 22, 23, 24, 25, 26, 27, 28, 29, 30, 31, 32, 33, 62, 63, 64, 65, 66] (by decide +kernel) (by decide +kernel)) (goodIn_sub (fun _ h => List.mem_cons_of_mem _ (List.mem_append_right _ h)) (by decide +kernel))
set_option maxRecDepth 20000 in
theorem gX3_grossTax_X3_landAt : GoodIn wsX3_grossTax (wsV RX3 28 RX3 yX3_landAt wsX3_landAt) := goodIn_app (goodIn_of _ (by decide +kernel)) ggX3_grossTax_X3_landAt
set_option maxRecDepth 20000 in
theorem ggX3_grossTax_X3_requireRange : GoodIn wsX3_grossTax wsX3_requireRange := goodIn_ca (goodIn_r _ [36, 7, 8] (by decide +kernel) (by decide +kernel)) (goodIn_sub (fun _ h => List.mem_cons_of_mem _ (List.mem_append_right _ h)) (by decide +kernel))
set_option maxRecDepth 20000 in
theorem gX3_grossTax_X3_requireRange : GoodIn wsX3_grossTax (va_wsS RX3 33 yX3_requireRange wsX3_requireRange) := goodIn_app (goodIn_of _ (by decide +kernel)) ggX3_grossTax_X3_requireRange
set_option maxRecDepth 20000 in
theorem ggX3_grossTax_X1_grossTaxOf : GoodIn wsX3_grossTax wsX1_grossTaxOf := goodIn_r _ [41, 42, 43, 40, 44, 45, 46, 47, 48, 49, 50, 51, 52, 53, 54, 55, 56, 57, 58, 59, 60, 61, 67, 68, 69, 70, 71] (by decide +kernel) (by decide +kernel)
set_option maxRecDepth 20000 in
theorem gX3_grossTax_X1_grossTaxOf : GoodIn wsX3_grossTax (wsV RX3 49 RX1 yX1_grossTaxOf wsX1_grossTaxOf) := goodIn_app (goodIn_of _ (by decide +kernel)) ggX3_grossTax_X1_grossTaxOf
theorem dX3_grossTax_0 : decode cX3_grossTax 0 = .ok (.aload_n 0, 1) := by decide +kernel
theorem dX3_grossTax_1 : decode cX3_grossTax 1 = .ok (.iload_n 1, 1) := by decide +kernel
theorem dX3_grossTax_2 : decode cX3_grossTax 2 = .ok (.invokevirtual 28, 3) := by decide +kernel
theorem dX3_grossTax_5 : decode cX3_grossTax 5 = .ok (.astore_n 3, 1) := by decide +kernel
theorem dX3_grossTax_6 : decode cX3_grossTax 6 = .ok (.iload_n 2, 1) := by decide +kernel
theorem dX3_grossTax_7 : decode cX3_grossTax 7 = .ok (.iconst 0, 1) := by decide +kernel
theorem dX3_grossTax_8 : decode cX3_grossTax 8 = .ok (.ldc 44, 2) := by decide +kernel
theorem dX3_grossTax_10 : decode cX3_grossTax 10 = .ok (.invokestatic 33, 3) := by decide +kernel
theorem dX3_grossTax_13 : decode cX3_grossTax 13 = .ok (.aload_n 3, 1) := by decide +kernel
theorem dX3_grossTax_14 : decode cX3_grossTax 14 = .ok (.iload_n 2, 1) := by decide +kernel
theorem dX3_grossTax_15 : decode cX3_grossTax 15 = .ok (.invokevirtual 49, 3) := by decide +kernel
theorem dX3_grossTax_18 : decode cX3_grossTax 18 = .ok (.ireturn, 1) := by decide +kernel
set_option maxRecDepth 20000 in
theorem ggX3_grossTaxByTrying_X3_landAt : GoodIn wsX3_grossTaxByTrying wsX3_landAt := goodIn_ca (goodIn_r _ [5, 6, 7, 8, 9, 10, 11, 12, 13, 14, 15, 16, 17, 18, 19, 20, 21, 22, 23, 24, 25, 26, 27, 28, 29, 30, 31, 32, 61, 62, 63, 64, 65] (by decide +kernel) (by decide +kernel)) (goodIn_sub (fun _ h => List.mem_cons_of_mem _ (List.mem_append_right _ h)) (by decide +kernel))
set_option maxRecDepth 20000 in
theorem gX3_grossTaxByTrying_X3_landAt : GoodIn wsX3_grossTaxByTrying (wsV RX3 28 RX3 yX3_landAt wsX3_landAt) := goodIn_app (goodIn_of _ (by decide +kernel)) ggX3_grossTaxByTrying_X3_landAt
set_option maxRecDepth 20000 in
theorem ggX3_grossTaxByTrying_X3_requireRange : GoodIn wsX3_grossTaxByTrying wsX3_requireRange := goodIn_ca (goodIn_r _ [35, 6, 7] (by decide +kernel) (by decide +kernel)) (goodIn_sub (fun _ h => List.mem_cons_of_mem _ (List.mem_append_right _ h)) (by decide +kernel))
set_option maxRecDepth 20000 in
theorem gX3_grossTaxByTrying_X3_requireRange : GoodIn wsX3_grossTaxByTrying (va_wsS RX3 33 yX3_requireRange wsX3_requireRange) := goodIn_app (goodIn_of _ (by decide +kernel)) ggX3_grossTaxByTrying_X3_requireRange
set_option maxRecDepth 20000 in
theorem ggX3_grossTaxByTrying_X1_grossTaxTried : GoodIn wsX3_grossTaxByTrying wsX1_grossTaxTried := goodIn_r _ [40, 41, 42, 39, 43, 44, 45, 46, 47, 48, 49, 50, 51, 52, 53, 54, 55, 56, 57, 58, 59, 60, 66, 67, 68, 69, 70] (by decide +kernel) (by decide +kernel)
set_option maxRecDepth 20000 in
theorem gX3_grossTaxByTrying_X1_grossTaxTried : GoodIn wsX3_grossTaxByTrying (wsV RX3 52 RX1 yX1_grossTaxTried wsX1_grossTaxTried) := goodIn_app (goodIn_of _ (by decide +kernel)) ggX3_grossTaxByTrying_X1_grossTaxTried
theorem dX3_grossTaxByTrying_0 : decode cX3_grossTaxByTrying 0 = .ok (.aload_n 0, 1) := by decide +kernel
theorem dX3_grossTaxByTrying_1 : decode cX3_grossTaxByTrying 1 = .ok (.iload_n 1, 1) := by decide +kernel
theorem dX3_grossTaxByTrying_2 : decode cX3_grossTaxByTrying 2 = .ok (.invokevirtual 28, 3) := by decide +kernel
theorem dX3_grossTaxByTrying_5 : decode cX3_grossTaxByTrying 5 = .ok (.astore_n 3, 1) := by decide +kernel
theorem dX3_grossTaxByTrying_6 : decode cX3_grossTaxByTrying 6 = .ok (.iload_n 2, 1) := by decide +kernel
theorem dX3_grossTaxByTrying_7 : decode cX3_grossTaxByTrying 7 = .ok (.iconst 0, 1) := by decide +kernel
theorem dX3_grossTaxByTrying_8 : decode cX3_grossTaxByTrying 8 = .ok (.sipush 20000, 3) := by decide +kernel
theorem dX3_grossTaxByTrying_11 : decode cX3_grossTaxByTrying 11 = .ok (.invokestatic 33, 3) := by decide +kernel
theorem dX3_grossTaxByTrying_14 : decode cX3_grossTaxByTrying 14 = .ok (.aload_n 3, 1) := by decide +kernel
theorem dX3_grossTaxByTrying_15 : decode cX3_grossTaxByTrying 15 = .ok (.iload_n 2, 1) := by decide +kernel
theorem dX3_grossTaxByTrying_16 : decode cX3_grossTaxByTrying 16 = .ok (.invokevirtual 52, 3) := by decide +kernel
theorem dX3_grossTaxByTrying_19 : decode cX3_grossTaxByTrying 19 = .ok (.ireturn, 1) := by decide +kernel
set_option maxRecDepth 20000 in
theorem ggX3_add_X3_landAt : GoodIn wsX3_add wsX3_landAt := goodIn_ca (goodIn_r _ [14, 1, 2, 15, 16, 17, 18, 19, 20, 21, 22, 23, 24, 25, 26, 27, 28, 29, 30, 31, 32, 33, 34, 35, 36, 37, 38, 39, 125, 126, 135, 136, 137] (by decide +kernel) (by decide +kernel)) (goodIn_sub (fun _ h => List.mem_cons_of_mem _ (List.mem_append_left _ (List.mem_append_right _ h))) (by decide +kernel))
set_option maxRecDepth 20000 in
theorem gX3_add_X3_landAt : GoodIn wsX3_add (wsV RX3 28 RX3 yX3_landAt wsX3_landAt) := goodIn_app (goodIn_of _ (by decide +kernel)) ggX3_add_X3_landAt
set_option maxRecDepth 20000 in
theorem ggX3_add_X3_requireRange : GoodIn wsX3_add wsX3_requireRange := goodIn_ca (goodIn_r _ [42, 1, 2] (by decide +kernel) (by decide +kernel)) (goodIn_sub (fun _ h => List.mem_cons_of_mem _ (List.mem_append_left _ (List.mem_append_right _ h))) (by decide +kernel))
set_option maxRecDepth 20000 in
theorem gX3_add_X3_requireRange : GoodIn wsX3_add (va_wsS RX3 33 yX3_requireRange wsX3_requireRange) := goodIn_app (goodIn_of _ (by decide +kernel)) ggX3_add_X3_requireRange
set_option maxRecDepth 20000 in
theorem ggX3_add_Jx4a65c_size_8abf5 : GoodIn wsX3_add wsJx4a65c_size_8abf5 := goodIn_r _ [21, 22, 135, 136, 137] (by decide +kernel) (by decide +kernel)
set_option maxRecDepth 20000 in
theorem gX3_add_Jx4a65c_size_8abf5_f63Jx4a65c : GoodIn wsX3_add (va_wsF RX3 63 RJx4a65c ⟨"java/util/List", "size", "()I"⟩ yJx4a65c_size_8abf5 wsJx4a65c_size_8abf5) := goodIn_app (goodIn_of _ (by decide +kernel)) ggX3_add_Jx4a65c_size_8abf5
set_option maxRecDepth 20000 in
theorem ggX3_add_X2_init : GoodIn wsX3_add wsX2_init := goodIn_r _ [45, 46, 47, 48, 49, 50, 20, 51, 52, 53, 54, 55, 56, 57, 58, 59, 60, 61, 62, 39, 63, 64, 65, 66, 67, 68, 69, 70, 71, 72, 135, 136, 137, 127, 128, 129, 130, 131, 132, 133, 134] (by decide +kernel) (by decide +kernel)
set_option maxRecDepth 20000 in
theorem gX3_add_X2_init : GoodIn wsX3_add (wsX2_init) := ggX3_add_X2_init
set_option maxRecDepth 20000 in
theorem ggX3_add_Jx4a65c_add_9ea2d : GoodIn wsX3_add wsJx4a65c_add_9ea2d := goodIn_r _ [76, 77, 78, 39, 22, 79, 80, 81, 20, 82, 83, 84, 85, 86, 87, 88, 89, 90, 62, 91, 92, 93, 94, 95, 96, 97, 98, 99, 100, 101, 102, 103, 104, 105, 106, 107, 108, 109, 110, 111, 112, 113, 114, 115, 116, 117, 118, 119, 120, 121, 122, 123, 124, 135, 136, 137] (by decide +kernel) (by decide +kernel)
set_option maxRecDepth 20000 in
theorem gX3_add_Jx4a65c_add_9ea2d_f22Jx4a65c : GoodIn wsX3_add (va_wsF RX3 22 RJx4a65c ⟨"java/util/List", "add", "(Ljava/lang/Object;)Z"⟩ yJx4a65c_add_9ea2d wsJx4a65c_add_9ea2d) := goodIn_app (goodIn_of _ (by decide +kernel)) ggX3_add_Jx4a65c_add_9ea2d
theorem dX3_add_0 : decode cX3_add 0 = .ok (.aload_n 0, 1) := by decide +kernel
theorem dX3_add_1 : decode cX3_add 1 = .ok (.iload_n 1, 1) := by decide +kernel
theorem dX3_add_2 : decode cX3_add 2 = .ok (.invokevirtual 28, 3) := by decide +kernel
theorem dX3_add_5 : decode cX3_add 5 = .ok (.astore 4, 2) := by decide +kernel
theorem dX3_add_7 : decode cX3_add 7 = .ok (.aload_n 0, 1) := by decide +kernel
theorem dX3_add_8 : decode cX3_add 8 = .ok (.iload_n 2, 1) := by decide +kernel
theorem dX3_add_9 : decode cX3_add 9 = .ok (.invokevirtual 28, 3) := by decide +kernel
theorem dX3_add_12 : decode cX3_add 12 = .ok (.astore 5, 2) := by decide +kernel
theorem dX3_add_14 : decode cX3_add 14 = .ok (.iload_n 1, 1) := by decide +kernel
theorem dX3_add_15 : decode cX3_add 15 = .ok (.iload_n 2, 1) := by decide +kernel
theorem dX3_add_16 : decode cX3_add 16 = .ok (.if_icmp .ne 13, 3) := by decide +kernel
theorem dX3_add_19 : decode cX3_add 19 = .ok (.new 55, 3) := by decide +kernel
theorem dX3_add_22 : decode cX3_add 22 = .ok (.dup, 1) := by decide +kernel
theorem dX3_add_23 : decode cX3_add 23 = .ok (.ldc 57, 2) := by decide +kernel
theorem dX3_add_25 : decode cX3_add 25 = .ok (.invokespecial 59, 3) := by decide +kernel
theorem dX3_add_28 : decode cX3_add 28 = .ok (.athrow, 1) := by decide +kernel
theorem dX3_add_29 : decode cX3_add 29 = .ok (.iload_n 3, 1) := by decide +kernel
theorem dX3_add_30 : decode cX3_add 30 = .ok (.iconst 0, 1) := by decide +kernel
theorem dX3_add_31 : decode cX3_add 31 = .ok (.ldc 62, 2) := by decide +kernel
theorem dX3_add_33 : decode cX3_add 33 = .ok (.invokestatic 33, 3) := by decide +kernel
theorem dX3_add_36 : decode cX3_add 36 = .ok (.aload_n 0, 1) := by decide +kernel
theorem dX3_add_37 : decode cX3_add 37 = .ok (.getfield 16, 3) := by decide +kernel
theorem dX3_add_40 : decode cX3_add 40 = .ok (.invokeinterface 63 1, 5) := by decide +kernel
theorem dX3_add_45 : decode cX3_add 45 = .ok (.bipush 10, 2) := by decide +kernel
theorem dX3_add_47 : decode cX3_add 47 = .ok (.if_icmp .lt 13, 3) := by decide +kernel
theorem dX3_add_50 : decode cX3_add 50 = .ok (.new 67, 3) := by decide +kernel
theorem dX3_add_53 : decode cX3_add 53 = .ok (.dup, 1) := by decide +kernel
theorem dX3_add_54 : decode cX3_add 54 = .ok (.ldc 69, 2) := by decide +kernel
theorem dX3_add_56 : decode cX3_add 56 = .ok (.invokespecial 71, 3) := by decide +kernel
theorem dX3_add_59 : decode cX3_add 59 = .ok (.athrow, 1) := by decide +kernel
theorem dX3_add_60 : decode cX3_add 60 = .ok (.aload_n 0, 1) := by decide +kernel
theorem dX3_add_61 : decode cX3_add 61 = .ok (.getfield 16, 3) := by decide +kernel
theorem dX3_add_64 : decode cX3_add 64 = .ok (.new 72, 3) := by decide +kernel
theorem dX3_add_67 : decode cX3_add 67 = .ok (.dup, 1) := by decide +kernel
theorem dX3_add_68 : decode cX3_add 68 = .ok (.aload 4, 2) := by decide +kernel
theorem dX3_add_70 : decode cX3_add 70 = .ok (.aload 5, 2) := by decide +kernel
theorem dX3_add_72 : decode cX3_add 72 = .ok (.iload_n 3, 1) := by decide +kernel
theorem dX3_add_73 : decode cX3_add 73 = .ok (.invokespecial 74, 3) := by decide +kernel
theorem dX3_add_76 : decode cX3_add 76 = .ok (.invokeinterface 22 2, 5) := by decide +kernel
theorem dX3_add_81 : decode cX3_add 81 = .ok (.pop, 1) := by decide +kernel
theorem dX3_add_82 : decode cX3_add 82 = .ok (.aload_n 0, 1) := by decide +kernel
theorem dX3_add_83 : decode cX3_add 83 = .ok (.getfield 16, 3) := by decide +kernel
theorem dX3_add_86 : decode cX3_add 86 = .ok (.invokeinterface 63 1, 5) := by decide +kernel
theorem dX3_add_91 : decode cX3_add 91 = .ok (.iconst 1, 1) := by decide +kernel
theorem dX3_add_92 : decode cX3_add 92 = .ok (.isub, 1) := by decide +kernel
theorem dX3_add_93 : decode cX3_add 93 = .ok (.ireturn, 1) := by decide +kernel
set_option maxRecDepth 20000 in
theorem ggX3_setAbroad_X3_personAt : GoodIn wsX3_setAbroad wsX3_personAt := goodIn_ca (goodIn_r _ [5, 6, 7, 8, 9, 10, 11, 12, 13, 14, 15, 16, 17, 18, 19, 20, 21, 22, 23, 24, 25, 26, 27, 28, 29, 30, 31, 32, 53, 54, 55, 56, 57] (by decide +kernel) (by decide +kernel)) (goodIn_sub (fun _ h => List.mem_cons_of_mem _ (List.mem_append_left _ (List.mem_append_right _ h))) (by decide +kernel))
set_option maxRecDepth 20000 in
theorem gX3_setAbroad_X3_personAt : GoodIn wsX3_setAbroad (wsV RX3 77 RX3 yX3_personAt wsX3_personAt) := goodIn_app (goodIn_of _ (by decide +kernel)) ggX3_setAbroad_X3_personAt
set_option maxRecDepth 20000 in
theorem ggX3_setAbroad_X3_requireRange : GoodIn wsX3_setAbroad wsX3_requireRange := goodIn_ca (goodIn_r _ [35, 36, 37] (by decide +kernel) (by decide +kernel)) (goodIn_sub (fun _ h => List.mem_cons_of_mem _ (List.mem_append_right _ h)) (by decide +kernel))
set_option maxRecDepth 20000 in
theorem gX3_setAbroad_X3_requireRange : GoodIn wsX3_setAbroad (va_wsS RX3 33 yX3_requireRange wsX3_requireRange) := goodIn_app (goodIn_of _ (by decide +kernel)) ggX3_setAbroad_X3_requireRange
set_option maxRecDepth 20000 in
theorem ggX3_setAbroad_X2_monthsAbroad : GoodIn wsX3_setAbroad wsX2_monthsAbroad := goodIn_r _ [42, 43, 44, 45, 46, 47, 48, 49, 50, 51, 52] (by decide +kernel) (by decide +kernel)
set_option maxRecDepth 20000 in
theorem gX3_setAbroad_X2_monthsAbroad : GoodIn wsX3_setAbroad (wsV RX3 81 RX2 yX2_monthsAbroad wsX2_monthsAbroad) := goodIn_app (goodIn_of _ (by decide +kernel)) ggX3_setAbroad_X2_monthsAbroad
theorem dX3_setAbroad_0 : decode cX3_setAbroad 0 = .ok (.aload_n 0, 1) := by decide +kernel
theorem dX3_setAbroad_1 : decode cX3_setAbroad 1 = .ok (.iload_n 1, 1) := by decide +kernel
theorem dX3_setAbroad_2 : decode cX3_setAbroad 2 = .ok (.invokevirtual 77, 3) := by decide +kernel
theorem dX3_setAbroad_5 : decode cX3_setAbroad 5 = .ok (.astore 4, 2) := by decide +kernel
theorem dX3_setAbroad_7 : decode cX3_setAbroad 7 = .ok (.iload_n 2, 1) := by decide +kernel
theorem dX3_setAbroad_8 : decode cX3_setAbroad 8 = .ok (.iconst 0, 1) := by decide +kernel
theorem dX3_setAbroad_9 : decode cX3_setAbroad 9 = .ok (.bipush 12, 2) := by decide +kernel
theorem dX3_setAbroad_11 : decode cX3_setAbroad 11 = .ok (.invokestatic 33, 3) := by decide +kernel
theorem dX3_setAbroad_14 : decode cX3_setAbroad 14 = .ok (.iload_n 3, 1) := by decide +kernel
theorem dX3_setAbroad_15 : decode cX3_setAbroad 15 = .ok (.iload_n 2, 1) := by decide +kernel
theorem dX3_setAbroad_16 : decode cX3_setAbroad 16 = .ok (.bipush 12, 2) := by decide +kernel
theorem dX3_setAbroad_18 : decode cX3_setAbroad 18 = .ok (.invokestatic 33, 3) := by decide +kernel
theorem dX3_setAbroad_21 : decode cX3_setAbroad 21 = .ok (.aload 4, 2) := by decide +kernel
theorem dX3_setAbroad_23 : decode cX3_setAbroad 23 = .ok (.invokevirtual 81, 3) := by decide +kernel
theorem dX3_setAbroad_26 : decode cX3_setAbroad 26 = .ok (.istore 5, 2) := by decide +kernel
theorem dX3_setAbroad_28 : decode cX3_setAbroad 28 = .ok (.aload 4, 2) := by decide +kernel
theorem dX3_setAbroad_30 : decode cX3_setAbroad 30 = .ok (.iload_n 2, 1) := by decide +kernel
theorem dX3_setAbroad_31 : decode cX3_setAbroad 31 = .ok (.putfield 84, 3) := by decide +kernel
theorem dX3_setAbroad_34 : decode cX3_setAbroad 34 = .ok (.aload 4, 2) := by decide +kernel
theorem dX3_setAbroad_36 : decode cX3_setAbroad 36 = .ok (.iload_n 3, 1) := by decide +kernel
theorem dX3_setAbroad_37 : decode cX3_setAbroad 37 = .ok (.putfield 88, 3) := by decide +kernel
theorem dX3_setAbroad_40 : decode cX3_setAbroad 40 = .ok (.iload 5, 2) := by decide +kernel
theorem dX3_setAbroad_42 : decode cX3_setAbroad 42 = .ok (.ireturn, 1) := by decide +kernel
set_option maxRecDepth 20000 in
theorem ggX3_setPay_X3_personAt : GoodIn wsX3_setPay wsX3_personAt := goodIn_ca (goodIn_r _ [6, 7, 8, 9, 10, 11, 12, 13, 14, 15, 16, 17, 18, 19, 20, 21, 22, 23, 24, 25, 26, 27, 28, 29, 30, 31, 32, 33, 47, 48, 49, 50, 51] (by decide +kernel) (by decide +kernel)) (goodIn_sub (fun _ h => List.mem_cons_of_mem _ (List.mem_append_left _ (List.mem_append_right _ h))) (by decide +kernel))
set_option maxRecDepth 20000 in
theorem gX3_setPay_X3_personAt : GoodIn wsX3_setPay (wsV RX3 77 RX3 yX3_personAt wsX3_personAt) := goodIn_app (goodIn_of _ (by decide +kernel)) ggX3_setPay_X3_personAt
set_option maxRecDepth 20000 in
theorem ggX3_setPay_X3_requireRange : GoodIn wsX3_setPay wsX3_requireRange := goodIn_ca (goodIn_r _ [36, 37, 38] (by decide +kernel) (by decide +kernel)) (goodIn_sub (fun _ h => List.mem_cons_of_mem _ (List.mem_append_right _ h)) (by decide +kernel))
set_option maxRecDepth 20000 in
theorem gX3_setPay_X3_requireRange : GoodIn wsX3_setPay (va_wsS RX3 33 yX3_requireRange wsX3_requireRange) := goodIn_app (goodIn_of _ (by decide +kernel)) ggX3_setPay_X3_requireRange
theorem dX3_setPay_0 : decode cX3_setPay 0 = .ok (.aload_n 0, 1) := by decide +kernel
theorem dX3_setPay_1 : decode cX3_setPay 1 = .ok (.iload_n 1, 1) := by decide +kernel
theorem dX3_setPay_2 : decode cX3_setPay 2 = .ok (.invokevirtual 77, 3) := by decide +kernel
theorem dX3_setPay_5 : decode cX3_setPay 5 = .ok (.astore_n 3, 1) := by decide +kernel
theorem dX3_setPay_6 : decode cX3_setPay 6 = .ok (.iload_n 2, 1) := by decide +kernel
theorem dX3_setPay_7 : decode cX3_setPay 7 = .ok (.iconst 0, 1) := by decide +kernel
theorem dX3_setPay_8 : decode cX3_setPay 8 = .ok (.ldc 62, 2) := by decide +kernel
theorem dX3_setPay_10 : decode cX3_setPay 10 = .ok (.invokestatic 33, 3) := by decide +kernel
theorem dX3_setPay_13 : decode cX3_setPay 13 = .ok (.aload_n 3, 1) := by decide +kernel
theorem dX3_setPay_14 : decode cX3_setPay 14 = .ok (.getfield 91, 3) := by decide +kernel
theorem dX3_setPay_17 : decode cX3_setPay 17 = .ok (.istore 4, 2) := by decide +kernel
theorem dX3_setPay_19 : decode cX3_setPay 19 = .ok (.aload_n 3, 1) := by decide +kernel
theorem dX3_setPay_20 : decode cX3_setPay 20 = .ok (.iload_n 2, 1) := by decide +kernel
theorem dX3_setPay_21 : decode cX3_setPay 21 = .ok (.putfield 91, 3) := by decide +kernel
theorem dX3_setPay_24 : decode cX3_setPay 24 = .ok (.iload 4, 2) := by decide +kernel
theorem dX3_setPay_26 : decode cX3_setPay 26 = .ok (.ireturn, 1) := by decide +kernel
set_option maxRecDepth 20000 in
theorem ggX3_setHousing_X3_personAt : GoodIn wsX3_setHousing wsX3_personAt := goodIn_ca (goodIn_r _ [6, 7, 8, 9, 10, 11, 12, 13, 14, 15, 16, 17, 18, 19, 20, 21, 22, 23, 24, 25, 26, 27, 28, 29, 30, 31, 32, 33, 59, 60, 61, 62, 63] (by decide +kernel) (by decide +kernel)) (goodIn_sub (fun _ h => List.mem_cons_of_mem _ (List.mem_append_left _ (List.mem_append_right _ h))) (by decide +kernel))
set_option maxRecDepth 20000 in
theorem gX3_setHousing_X3_personAt : GoodIn wsX3_setHousing (wsV RX3 77 RX3 yX3_personAt wsX3_personAt) := goodIn_app (goodIn_of _ (by decide +kernel)) ggX3_setHousing_X3_personAt
set_option maxRecDepth 20000 in
theorem ggX3_setHousing_X3_requireRange : GoodIn wsX3_setHousing wsX3_requireRange := goodIn_ca (goodIn_r _ [36, 37, 38] (by decide +kernel) (by decide +kernel)) (goodIn_sub (fun _ h => List.mem_cons_of_mem _ (List.mem_append_right _ h)) (by decide +kernel))
set_option maxRecDepth 20000 in
theorem gX3_setHousing_X3_requireRange : GoodIn wsX3_setHousing (va_wsS RX3 33 yX3_requireRange wsX3_requireRange) := goodIn_app (goodIn_of _ (by decide +kernel)) ggX3_setHousing_X3_requireRange
set_option maxRecDepth 20000 in
theorem ggX3_setHousing_X2_ownShare : GoodIn wsX3_setHousing wsX2_ownShare := goodIn_r _ [43, 44, 45, 46, 47, 48, 49, 50, 51, 52, 53, 54, 55, 56, 57, 58] (by decide +kernel) (by decide +kernel)
set_option maxRecDepth 20000 in
theorem gX3_setHousing_X2_ownShare : GoodIn wsX3_setHousing (wsV RX3 101 RX2 yX2_ownShare wsX2_ownShare) := goodIn_app (goodIn_of _ (by decide +kernel)) ggX3_setHousing_X2_ownShare
theorem dX3_setHousing_0 : decode cX3_setHousing 0 = .ok (.aload_n 0, 1) := by decide +kernel
theorem dX3_setHousing_1 : decode cX3_setHousing 1 = .ok (.iload_n 1, 1) := by decide +kernel
theorem dX3_setHousing_2 : decode cX3_setHousing 2 = .ok (.invokevirtual 77, 3) := by decide +kernel
theorem dX3_setHousing_5 : decode cX3_setHousing 5 = .ok (.astore 4, 2) := by decide +kernel
theorem dX3_setHousing_7 : decode cX3_setHousing 7 = .ok (.iload_n 2, 1) := by decide +kernel
theorem dX3_setHousing_8 : decode cX3_setHousing 8 = .ok (.iconst 0, 1) := by decide +kernel
theorem dX3_setHousing_9 : decode cX3_setHousing 9 = .ok (.ldc 94, 2) := by decide +kernel
theorem dX3_setHousing_11 : decode cX3_setHousing 11 = .ok (.invokestatic 33, 3) := by decide +kernel
theorem dX3_setHousing_14 : decode cX3_setHousing 14 = .ok (.iload_n 3, 1) := by decide +kernel
theorem dX3_setHousing_15 : decode cX3_setHousing 15 = .ok (.iconst 0, 1) := by decide +kernel
theorem dX3_setHousing_16 : decode cX3_setHousing 16 = .ok (.bipush 40, 2) := by decide +kernel
theorem dX3_setHousing_18 : decode cX3_setHousing 18 = .ok (.invokestatic 33, 3) := by decide +kernel
theorem dX3_setHousing_21 : decode cX3_setHousing 21 = .ok (.aload 4, 2) := by decide +kernel
theorem dX3_setHousing_23 : decode cX3_setHousing 23 = .ok (.iload_n 2, 1) := by decide +kernel
theorem dX3_setHousing_24 : decode cX3_setHousing 24 = .ok (.putfield 95, 3) := by decide +kernel
theorem dX3_setHousing_27 : decode cX3_setHousing 27 = .ok (.aload 4, 2) := by decide +kernel
theorem dX3_setHousing_29 : decode cX3_setHousing 29 = .ok (.iload_n 3, 1) := by decide +kernel
theorem dX3_setHousing_30 : decode cX3_setHousing 30 = .ok (.putfield 98, 3) := by decide +kernel
theorem dX3_setHousing_33 : decode cX3_setHousing 33 = .ok (.aload 4, 2) := by decide +kernel
theorem dX3_setHousing_35 : decode cX3_setHousing 35 = .ok (.invokevirtual 101, 3) := by decide +kernel
theorem dX3_setHousing_38 : decode cX3_setHousing 38 = .ok (.ireturn, 1) := by decide +kernel
set_option maxRecDepth 20000 in
theorem ggX3_addBonus_X3_personAt : GoodIn wsX3_addBonus wsX3_personAt := goodIn_ca (goodIn_r _ [11, 12, 13, 14, 15, 16, 17, 18, 19, 20, 21, 22, 23, 24, 25, 26, 27, 28, 29, 30, 31, 32, 33, 34, 35, 36, 37, 38, 117, 118, 119, 120, 121] (by decide +kernel) (by decide +kernel)) (goodIn_sub (fun _ h => List.mem_cons_of_mem _ (List.mem_append_left _ (List.mem_append_right _ h))) (by decide +kernel))
set_option maxRecDepth 20000 in
theorem gX3_addBonus_X3_personAt : GoodIn wsX3_addBonus (wsV RX3 77 RX3 yX3_personAt wsX3_personAt) := goodIn_app (goodIn_of _ (by decide +kernel)) ggX3_addBonus_X3_personAt
set_option maxRecDepth 20000 in
theorem ggX3_addBonus_X3_requireRange : GoodIn wsX3_addBonus wsX3_requireRange := goodIn_ca (goodIn_r _ [41, 42, 43] (by decide +kernel) (by decide +kernel)) (goodIn_sub (fun _ h => List.mem_cons_of_mem _ (List.mem_append_right _ h)) (by decide +kernel))
set_option maxRecDepth 20000 in
theorem gX3_addBonus_X3_requireRange : GoodIn wsX3_addBonus (va_wsS RX3 33 yX3_requireRange wsX3_requireRange) := goodIn_app (goodIn_of _ (by decide +kernel)) ggX3_addBonus_X3_requireRange
set_option maxRecDepth 20000 in
theorem ggX3_addBonus_Jx4a65c_size_8abf5 : GoodIn wsX3_addBonus wsJx4a65c_size_8abf5 := goodIn_r _ [20, 21, 119, 120, 121] (by decide +kernel) (by decide +kernel)
set_option maxRecDepth 20000 in
theorem gX3_addBonus_Jx4a65c_size_8abf5_f63Jx4a65c : GoodIn wsX3_addBonus (va_wsF RX3 63 RJx4a65c ⟨"java/util/List", "size", "()I"⟩ yJx4a65c_size_8abf5 wsJx4a65c_size_8abf5) := goodIn_app (goodIn_of _ (by decide +kernel)) ggX3_addBonus_Jx4a65c_size_8abf5
set_option maxRecDepth 20000 in
theorem ggX3_addBonus_X0_init : GoodIn wsX3_addBonus wsX0_init := goodIn_r _ [46, 47, 48, 49, 50, 51, 52, 114, 115, 116] (by decide +kernel) (by decide +kernel)
set_option maxRecDepth 20000 in
theorem gX3_addBonus_X0_init : GoodIn wsX3_addBonus (wsX0_init) := ggX3_addBonus_X0_init
set_option maxRecDepth 20000 in
theorem ggX3_addBonus_Jx4a65c_add_9ea2d : GoodIn wsX3_addBonus wsJx4a65c_add_9ea2d := goodIn_r _ [56, 57, 58, 38, 21, 59, 60, 61, 19, 62, 63, 64, 65, 66, 67, 68, 69, 70, 71, 72, 73, 74, 75, 76, 77, 78, 79, 80, 81, 82, 83, 84, 85, 86, 87, 88, 89, 90, 91, 92, 93, 94, 95, 96, 97, 98, 99, 100, 101, 102, 103, 104, 105, 119, 120, 121] (by decide +kernel) (by decide +kernel)
set_option maxRecDepth 20000 in
theorem gX3_addBonus_Jx4a65c_add_9ea2d_f22Jx4a65c : GoodIn wsX3_addBonus (va_wsF RX3 22 RJx4a65c ⟨"java/util/List", "add", "(Ljava/lang/Object;)Z"⟩ yJx4a65c_add_9ea2d wsJx4a65c_add_9ea2d) := goodIn_app (goodIn_of _ (by decide +kernel)) ggX3_addBonus_Jx4a65c_add_9ea2d
theorem dX3_addBonus_0 : decode cX3_addBonus 0 = .ok (.aload_n 0, 1) := by decide +kernel
theorem dX3_addBonus_1 : decode cX3_addBonus 1 = .ok (.iload_n 1, 1) := by decide +kernel
theorem dX3_addBonus_2 : decode cX3_addBonus 2 = .ok (.invokevirtual 77, 3) := by decide +kernel
theorem dX3_addBonus_5 : decode cX3_addBonus 5 = .ok (.astore 5, 2) := by decide +kernel
theorem dX3_addBonus_7 : decode cX3_addBonus 7 = .ok (.iload_n 2, 1) := by decide +kernel
theorem dX3_addBonus_8 : decode cX3_addBonus 8 = .ok (.iconst 1, 1) := by decide +kernel
theorem dX3_addBonus_9 : decode cX3_addBonus 9 = .ok (.ldc 104, 2) := by decide +kernel
theorem dX3_addBonus_11 : decode cX3_addBonus 11 = .ok (.invokestatic 33, 3) := by decide +kernel
theorem dX3_addBonus_14 : decode cX3_addBonus 14 = .ok (.iload_n 3, 1) := by decide +kernel
theorem dX3_addBonus_15 : decode cX3_addBonus 15 = .ok (.iconst 0, 1) := by decide +kernel
theorem dX3_addBonus_16 : decode cX3_addBonus 16 = .ok (.bipush 11, 2) := by decide +kernel
theorem dX3_addBonus_18 : decode cX3_addBonus 18 = .ok (.invokestatic 33, 3) := by decide +kernel
theorem dX3_addBonus_21 : decode cX3_addBonus 21 = .ok (.iload 4, 2) := by decide +kernel
theorem dX3_addBonus_23 : decode cX3_addBonus 23 = .ok (.iload_n 3, 1) := by decide +kernel
theorem dX3_addBonus_24 : decode cX3_addBonus 24 = .ok (.iconst 1, 1) := by decide +kernel
theorem dX3_addBonus_25 : decode cX3_addBonus 25 = .ok (.iadd, 1) := by decide +kernel
theorem dX3_addBonus_26 : decode cX3_addBonus 26 = .ok (.bipush 12, 2) := by decide +kernel
theorem dX3_addBonus_28 : decode cX3_addBonus 28 = .ok (.invokestatic 33, 3) := by decide +kernel
theorem dX3_addBonus_31 : decode cX3_addBonus 31 = .ok (.aload 5, 2) := by decide +kernel
theorem dX3_addBonus_33 : decode cX3_addBonus 33 = .ok (.getfield 105, 3) := by decide +kernel
theorem dX3_addBonus_36 : decode cX3_addBonus 36 = .ok (.invokeinterface 63 1, 5) := by decide +kernel
theorem dX3_addBonus_41 : decode cX3_addBonus 41 = .ok (.bipush 6, 2) := by decide +kernel
theorem dX3_addBonus_43 : decode cX3_addBonus 43 = .ok (.if_icmp .lt 13, 3) := by decide +kernel
theorem dX3_addBonus_46 : decode cX3_addBonus 46 = .ok (.new 67, 3) := by decide +kernel
theorem dX3_addBonus_49 : decode cX3_addBonus 49 = .ok (.dup, 1) := by decide +kernel
theorem dX3_addBonus_50 : decode cX3_addBonus 50 = .ok (.ldc 108, 2) := by decide +kernel
theorem dX3_addBonus_52 : decode cX3_addBonus 52 = .ok (.invokespecial 71, 3) := by decide +kernel
theorem dX3_addBonus_55 : decode cX3_addBonus 55 = .ok (.athrow, 1) := by decide +kernel
theorem dX3_addBonus_56 : decode cX3_addBonus 56 = .ok (.aload 5, 2) := by decide +kernel
theorem dX3_addBonus_58 : decode cX3_addBonus 58 = .ok (.getfield 105, 3) := by decide +kernel
theorem dX3_addBonus_61 : decode cX3_addBonus 61 = .ok (.new 110, 3) := by decide +kernel
theorem dX3_addBonus_64 : decode cX3_addBonus 64 = .ok (.dup, 1) := by decide +kernel
theorem dX3_addBonus_65 : decode cX3_addBonus 65 = .ok (.iload_n 2, 1) := by decide +kernel
theorem dX3_addBonus_66 : decode cX3_addBonus 66 = .ok (.iload_n 3, 1) := by decide +kernel
theorem dX3_addBonus_67 : decode cX3_addBonus 67 = .ok (.iload 4, 2) := by decide +kernel
theorem dX3_addBonus_69 : decode cX3_addBonus 69 = .ok (.invokespecial 112, 3) := by decide +kernel
theorem dX3_addBonus_72 : decode cX3_addBonus 72 = .ok (.invokeinterface 22 2, 5) := by decide +kernel
theorem dX3_addBonus_77 : decode cX3_addBonus 77 = .ok (.pop, 1) := by decide +kernel
theorem dX3_addBonus_78 : decode cX3_addBonus 78 = .ok (.aload 5, 2) := by decide +kernel
theorem dX3_addBonus_80 : decode cX3_addBonus 80 = .ok (.getfield 105, 3) := by decide +kernel
theorem dX3_addBonus_83 : decode cX3_addBonus 83 = .ok (.invokeinterface 63 1, 5) := by decide +kernel
theorem dX3_addBonus_88 : decode cX3_addBonus 88 = .ok (.iconst 1, 1) := by decide +kernel
theorem dX3_addBonus_89 : decode cX3_addBonus 89 = .ok (.isub, 1) := by decide +kernel
theorem dX3_addBonus_90 : decode cX3_addBonus 90 = .ok (.ireturn, 1) := by decide +kernel
set_option maxRecDepth 20000 in
theorem ggX3_people_Jx4a65c_size_8abf5 : GoodIn wsX3_people wsJx4a65c_size_8abf5 := goodIn_r _ [6, 7, 10, 11, 12] (by decide +kernel) (by decide +kernel)
set_option maxRecDepth 20000 in
theorem gX3_people_Jx4a65c_size_8abf5_f63Jx4a65c : GoodIn wsX3_people (va_wsF RX3 63 RJx4a65c ⟨"java/util/List", "size", "()I"⟩ yJx4a65c_size_8abf5 wsJx4a65c_size_8abf5) := goodIn_app (goodIn_of _ (by decide +kernel)) ggX3_people_Jx4a65c_size_8abf5
theorem dX3_people_0 : decode cX3_people 0 = .ok (.aload_n 0, 1) := by decide +kernel
theorem dX3_people_1 : decode cX3_people 1 = .ok (.getfield 16, 3) := by decide +kernel
theorem dX3_people_4 : decode cX3_people 4 = .ok (.invokeinterface 63 1, 5) := by decide +kernel
theorem dX3_people_9 : decode cX3_people 9 = .ok (.ireturn, 1) := by decide +kernel
set_option maxRecDepth 20000 in
theorem ggX3_abroadPart_X3_personAt : GoodIn wsX3_abroadPart wsX3_personAt := goodIn_ca (goodIn_r _ [8, 1, 2, 9, 10, 11, 12, 13, 14, 15, 16, 17, 18, 19, 20, 21, 22, 23, 24, 25, 26, 27, 28, 29, 30, 31, 32, 33, 56, 57, 58, 59, 60] (by decide +kernel) (by decide +kernel)) (goodIn_sub (fun _ h => List.mem_cons_of_mem _ (List.mem_append_right _ h)) (by decide +kernel))
set_option maxRecDepth 20000 in
theorem gX3_abroadPart_X3_personAt : GoodIn wsX3_abroadPart (wsV RX3 77 RX3 yX3_personAt wsX3_personAt) := goodIn_app (goodIn_of _ (by decide +kernel)) ggX3_abroadPart_X3_personAt
set_option maxRecDepth 20000 in
theorem ggX3_abroadPart_Jx4a65c_size_8abf5 : GoodIn wsX3_abroadPart wsJx4a65c_size_8abf5 := goodIn_r _ [15, 16, 58, 59, 60] (by decide +kernel) (by decide +kernel)
set_option maxRecDepth 20000 in
theorem gX3_abroadPart_Jx4a65c_size_8abf5_f63Jx4a65c : GoodIn wsX3_abroadPart (va_wsF RX3 63 RJx4a65c ⟨"java/util/List", "size", "()I"⟩ yJx4a65c_size_8abf5 wsJx4a65c_size_8abf5) := goodIn_app (goodIn_of _ (by decide +kernel)) ggX3_abroadPart_Jx4a65c_size_8abf5
set_option maxRecDepth 20000 in
theorem ggX3_abroadPart_Jx4a65c_get_915e3 : GoodIn wsX3_abroadPart wsJx4a65c_get_915e3 := goodIn_r _ [20, 16, 21, 22, 23, 24, 25, 26, 27, 28, 29, 30, 31, 14, 32, 33, 58, 59, 60] (by decide +kernel) (by decide +kernel)
set_option maxRecDepth 20000 in
theorem gX3_abroadPart_Jx4a65c_get_915e3_f119Jx4a65c : GoodIn wsX3_abroadPart (va_wsF RX3 119 RJx4a65c ⟨"java/util/List", "get", "(I)Ljava/lang/Object;"⟩ yJx4a65c_get_915e3 wsJx4a65c_get_915e3) := goodIn_app (goodIn_of _ (by decide +kernel)) ggX3_abroadPart_Jx4a65c_get_915e3
set_option maxRecDepth 20000 in
theorem ggX3_abroadPart_X2_partAbroad : GoodIn wsX3_abroadPart wsX2_partAbroad := goodIn_r _ [38, 39, 40, 41, 42, 43, 44, 45, 46, 47, 61, 62, 63, 48, 49, 50, 51, 52, 53, 54, 55] (by decide +kernel) (by decide +kernel)
set_option maxRecDepth 20000 in
theorem gX3_abroadPart_X2_partAbroad : GoodIn wsX3_abroadPart (wsV RX3 123 RX2 yX2_partAbroad wsX2_partAbroad) := goodIn_app (goodIn_of _ (by decide +kernel)) ggX3_abroadPart_X2_partAbroad
theorem dX3_abroadPart_0 : decode cX3_abroadPart 0 = .ok (.aload_n 0, 1) := by decide +kernel
theorem dX3_abroadPart_1 : decode cX3_abroadPart 1 = .ok (.iload_n 1, 1) := by decide +kernel
theorem dX3_abroadPart_2 : decode cX3_abroadPart 2 = .ok (.invokevirtual 77, 3) := by decide +kernel
theorem dX3_abroadPart_5 : decode cX3_abroadPart 5 = .ok (.astore_n 3, 1) := by decide +kernel
theorem dX3_abroadPart_6 : decode cX3_abroadPart 6 = .ok (.iload_n 2, 1) := by decide +kernel
theorem dX3_abroadPart_7 : decode cX3_abroadPart 7 = .ok (.ifCond .lt 16, 3) := by decide +kernel
theorem dX3_abroadPart_10 : decode cX3_abroadPart 10 = .ok (.iload_n 2, 1) := by decide +kernel
theorem dX3_abroadPart_11 : decode cX3_abroadPart 11 = .ok (.aload_n 3, 1) := by decide +kernel
theorem dX3_abroadPart_12 : decode cX3_abroadPart 12 = .ok (.getfield 105, 3) := by decide +kernel
theorem dX3_abroadPart_15 : decode cX3_abroadPart 15 = .ok (.invokeinterface 63 1, 5) := by decide +kernel
theorem dX3_abroadPart_20 : decode cX3_abroadPart 20 = .ok (.if_icmp .lt 13, 3) := by decide +kernel
theorem dX3_abroadPart_23 : decode cX3_abroadPart 23 = .ok (.new 114, 3) := by decide +kernel
theorem dX3_abroadPart_26 : decode cX3_abroadPart 26 = .ok (.dup, 1) := by decide +kernel
theorem dX3_abroadPart_27 : decode cX3_abroadPart 27 = .ok (.ldc 116, 2) := by decide +kernel
theorem dX3_abroadPart_29 : decode cX3_abroadPart 29 = .ok (.invokespecial 118, 3) := by decide +kernel
theorem dX3_abroadPart_32 : decode cX3_abroadPart 32 = .ok (.athrow, 1) := by decide +kernel
theorem dX3_abroadPart_33 : decode cX3_abroadPart 33 = .ok (.aload_n 3, 1) := by decide +kernel
theorem dX3_abroadPart_34 : decode cX3_abroadPart 34 = .ok (.aload_n 3, 1) := by decide +kernel
theorem dX3_abroadPart_35 : decode cX3_abroadPart 35 = .ok (.getfield 105, 3) := by decide +kernel
theorem dX3_abroadPart_38 : decode cX3_abroadPart 38 = .ok (.iload_n 2, 1) := by decide +kernel
theorem dX3_abroadPart_39 : decode cX3_abroadPart 39 = .ok (.invokeinterface 119 2, 5) := by decide +kernel
theorem dX3_abroadPart_44 : decode cX3_abroadPart 44 = .ok (.checkcast 110, 3) := by decide +kernel
theorem dX3_abroadPart_47 : decode cX3_abroadPart 47 = .ok (.invokevirtual 123, 3) := by decide +kernel
theorem dX3_abroadPart_50 : decode cX3_abroadPart 50 = .ok (.ireturn, 1) := by decide +kernel
set_option maxRecDepth 20000 in
theorem ggX3_held_X3_personAt : GoodIn wsX3_held wsX3_personAt := goodIn_ca (goodIn_r _ [5, 6, 7, 8, 9, 10, 11, 12, 13, 14, 15, 16, 17, 18, 19, 20, 21, 22, 23, 24, 25, 26, 27, 28, 29, 30, 31, 32, 69, 70, 71, 72, 73] (by decide +kernel) (by decide +kernel)) (goodIn_sub (fun _ h => List.mem_cons_of_mem _ (List.mem_append_left _ (List.mem_append_right _ h))) (by decide +kernel))
set_option maxRecDepth 20000 in
theorem gX3_held_X3_personAt : GoodIn wsX3_held (wsV RX3 77 RX3 yX3_personAt wsX3_personAt) := goodIn_app (goodIn_of _ (by decide +kernel)) ggX3_held_X3_personAt
set_option maxRecDepth 20000 in
theorem ggX3_held_X3_requireRange : GoodIn wsX3_held wsX3_requireRange := goodIn_ca (goodIn_r _ [35, 36, 37] (by decide +kernel) (by decide +kernel)) (goodIn_sub (fun _ h => List.mem_cons_of_mem _ (List.mem_append_right _ h)) (by decide +kernel))
set_option maxRecDepth 20000 in
theorem gX3_held_X3_requireRange : GoodIn wsX3_held (va_wsS RX3 33 yX3_requireRange wsX3_requireRange) := goodIn_app (goodIn_of _ (by decide +kernel)) ggX3_held_X3_requireRange
set_option maxRecDepth 20000 in
theorem ggX3_held_X2_isAbroadIn : GoodIn wsX3_held wsX2_isAbroadIn := goodIn_r _ [42, 43, 44, 74, 75, 76, 77, 78, 79, 80, 81] (by decide +kernel) (by decide +kernel)
set_option maxRecDepth 20000 in
theorem gX3_held_X2_isAbroadIn : GoodIn wsX3_held (wsV RX3 127 RX2 yX2_isAbroadIn wsX2_isAbroadIn) := goodIn_app (goodIn_of _ (by decide +kernel)) ggX3_held_X2_isAbroadIn
set_option maxRecDepth 20000 in
theorem ggX3_held_X2_heldEachMonth : GoodIn wsX3_held wsX2_heldEachMonth := goodIn_r _ [48, 49, 50, 51, 52, 53, 54, 55, 56, 57, 58, 59, 60, 61, 62, 63, 64, 65, 66, 67, 68, 74, 75, 76, 77, 78, 79, 80, 81, 82, 83, 84, 85, 86] (by decide +kernel) (by decide +kernel)
set_option maxRecDepth 20000 in
theorem gX3_held_X2_heldEachMonth : GoodIn wsX3_held (wsV RX3 131 RX2 yX2_heldEachMonth wsX2_heldEachMonth) := goodIn_app (goodIn_of _ (by decide +kernel)) ggX3_held_X2_heldEachMonth
theorem dX3_held_0 : decode cX3_held 0 = .ok (.aload_n 0, 1) := by decide +kernel
theorem dX3_held_1 : decode cX3_held 1 = .ok (.iload_n 1, 1) := by decide +kernel
theorem dX3_held_2 : decode cX3_held 2 = .ok (.invokevirtual 77, 3) := by decide +kernel
theorem dX3_held_5 : decode cX3_held 5 = .ok (.astore_n 3, 1) := by decide +kernel
theorem dX3_held_6 : decode cX3_held 6 = .ok (.iload_n 2, 1) := by decide +kernel
theorem dX3_held_7 : decode cX3_held 7 = .ok (.iconst 0, 1) := by decide +kernel
theorem dX3_held_8 : decode cX3_held 8 = .ok (.bipush 11, 2) := by decide +kernel
theorem dX3_held_10 : decode cX3_held 10 = .ok (.invokestatic 33, 3) := by decide +kernel
theorem dX3_held_13 : decode cX3_held 13 = .ok (.aload_n 3, 1) := by decide +kernel
theorem dX3_held_14 : decode cX3_held 14 = .ok (.iload_n 2, 1) := by decide +kernel
theorem dX3_held_15 : decode cX3_held 15 = .ok (.invokevirtual 127, 3) := by decide +kernel
theorem dX3_held_18 : decode cX3_held 18 = .ok (.ifCond .eq 10, 3) := by decide +kernel
theorem dX3_held_21 : decode cX3_held 21 = .ok (.aload_n 3, 1) := by decide +kernel
theorem dX3_held_22 : decode cX3_held 22 = .ok (.invokevirtual 131, 3) := by decide +kernel
theorem dX3_held_25 : decode cX3_held 25 = .ok (.goto 4, 3) := by decide +kernel
theorem dX3_held_28 : decode cX3_held 28 = .ok (.iconst 0, 1) := by decide +kernel
theorem dX3_held_29 : decode cX3_held 29 = .ok (.ireturn, 1) := by decide +kernel
set_option maxRecDepth 20000 in
theorem ggX3_supposedTax_X3_personAt : GoodIn wsX3_supposedTax wsX3_personAt := goodIn_ca (goodIn_r _ [5, 6, 7, 8, 9, 10, 11, 12, 13, 14, 15, 16, 17, 18, 19, 20, 21, 22, 23, 24, 25, 26, 27, 28, 29, 30, 31, 32, 66, 67, 68, 69, 70] (by decide +kernel) (by decide +kernel)) (goodIn_sub (fun _ h => List.mem_cons_of_mem _ (List.mem_append_right _ h)) (by decide +kernel))
set_option maxRecDepth 20000 in
theorem gX3_supposedTax_X3_personAt : GoodIn wsX3_supposedTax (wsV RX3 77 RX3 yX3_personAt wsX3_personAt) := goodIn_app (goodIn_of _ (by decide +kernel)) ggX3_supposedTax_X3_personAt
set_option maxRecDepth 20000 in
theorem ggX3_supposedTax_X2_supposedTaxOfYear : GoodIn wsX3_supposedTax wsX2_supposedTaxOfYear := goodIn_r _ [37, 38, 39, 40, 41, 36, 42, 43, 44, 45, 46, 11, 12, 13, 14, 15, 47, 17, 18, 19, 20, 21, 22, 23, 24, 25, 26, 27, 28, 29, 30, 31, 32, 48, 49, 50, 51, 52, 53, 54, 55, 56, 57, 58, 59, 60, 61, 62, 63, 64, 65, 71, 72, 73, 74, 75, 76, 77, 78, 79, 80, 81, 68, 69, 70, 82, 83, 84, 85, 86] (by decide +kernel) (by decide +kernel)
set_option maxRecDepth 20000 in
theorem gX3_supposedTax_X2_supposedTaxOfYear : GoodIn wsX3_supposedTax (wsV RX3 134 RX2 yX2_supposedTaxOfYear wsX2_supposedTaxOfYear) := goodIn_app (goodIn_of _ (by decide +kernel)) ggX3_supposedTax_X2_supposedTaxOfYear
theorem dX3_supposedTax_0 : decode cX3_supposedTax 0 = .ok (.aload_n 0, 1) := by decide +kernel
theorem dX3_supposedTax_1 : decode cX3_supposedTax 1 = .ok (.iload_n 1, 1) := by decide +kernel
theorem dX3_supposedTax_2 : decode cX3_supposedTax 2 = .ok (.invokevirtual 77, 3) := by decide +kernel
theorem dX3_supposedTax_5 : decode cX3_supposedTax 5 = .ok (.invokevirtual 134, 3) := by decide +kernel
theorem dX3_supposedTax_8 : decode cX3_supposedTax 8 = .ok (.ireturn, 1) := by decide +kernel
set_option maxRecDepth 20000 in
theorem ggX3_homeIncome_X3_personAt : GoodIn wsX3_homeIncome wsX3_personAt := goodIn_ca (goodIn_r _ [5, 6, 7, 8, 9, 10, 11, 12, 13, 14, 15, 16, 17, 18, 19, 20, 21, 22, 23, 24, 25, 26, 27, 28, 29, 30, 31, 32, 60, 61, 62, 63, 64] (by decide +kernel) (by decide +kernel)) (goodIn_sub (fun _ h => List.mem_cons_of_mem _ (List.mem_append_right _ h)) (by decide +kernel))
set_option maxRecDepth 20000 in
theorem gX3_homeIncome_X3_personAt : GoodIn wsX3_homeIncome (wsV RX3 77 RX3 yX3_personAt wsX3_personAt) := goodIn_app (goodIn_of _ (by decide +kernel)) ggX3_homeIncome_X3_personAt
set_option maxRecDepth 20000 in
theorem ggX3_homeIncome_X2_incomeAtHome : GoodIn wsX3_homeIncome wsX2_incomeAtHome := goodIn_r _ [37, 38, 39, 40, 41, 42, 43, 36, 44, 45, 46, 47, 11, 12, 13, 14, 15, 48, 17, 18, 19, 20, 21, 22, 23, 24, 25, 26, 27, 28, 29, 30, 31, 32, 49, 50, 51, 52, 53, 54, 55, 56, 57, 58, 59, 65, 66, 67, 68, 69, 70, 71, 72, 73, 74, 75, 62, 63, 64] (by decide +kernel) (by decide +kernel)
set_option maxRecDepth 20000 in
theorem gX3_homeIncome_X2_incomeAtHome : GoodIn wsX3_homeIncome (wsV RX3 137 RX2 yX2_incomeAtHome wsX2_incomeAtHome) := goodIn_app (goodIn_of _ (by decide +kernel)) ggX3_homeIncome_X2_incomeAtHome
theorem dX3_homeIncome_0 : decode cX3_homeIncome 0 = .ok (.aload_n 0, 1) := by decide +kernel
theorem dX3_homeIncome_1 : decode cX3_homeIncome 1 = .ok (.iload_n 1, 1) := by decide +kernel
theorem dX3_homeIncome_2 : decode cX3_homeIncome 2 = .ok (.invokevirtual 77, 3) := by decide +kernel
theorem dX3_homeIncome_5 : decode cX3_homeIncome 5 = .ok (.invokevirtual 137, 3) := by decide +kernel
theorem dX3_homeIncome_8 : decode cX3_homeIncome 8 = .ok (.ireturn, 1) := by decide +kernel
set_option maxRecDepth 20000 in
theorem ggX3_homeTax_X3_personAt : GoodIn wsX3_homeTax wsX3_personAt := goodIn_ca (goodIn_r _ [5, 6, 7, 8, 9, 10, 11, 12, 13, 14, 15, 16, 17, 18, 19, 20, 21, 22, 23, 24, 25, 26, 27, 28, 29, 30, 31, 32, 82, 83, 84, 85, 86] (by decide +kernel) (by decide +kernel)) (goodIn_sub (fun _ h => List.mem_cons_of_mem _ (List.mem_append_right _ h)) (by decide +kernel))
set_option maxRecDepth 20000 in
theorem gX3_homeTax_X3_personAt : GoodIn wsX3_homeTax (wsV RX3 77 RX3 yX3_personAt wsX3_personAt) := goodIn_app (goodIn_of _ (by decide +kernel)) ggX3_homeTax_X3_personAt
set_option maxRecDepth 20000 in
theorem ggX3_homeTax_X2_taxAtHome : GoodIn wsX3_homeTax wsX2_taxAtHome := goodIn_r _ [37, 38, 39, 40, 41, 36, 42, 43, 44, 45, 46, 11, 12, 13, 14, 15, 47, 17, 18, 19, 20, 21, 22, 23, 24, 25, 26, 27, 28, 29, 30, 31, 32, 48, 49, 50, 51, 52, 53, 54, 55, 56, 57, 58, 59, 60, 61, 62, 63, 64, 65, 66, 67, 68, 69, 70, 71, 72, 73, 74, 75, 76, 77, 78, 79, 80, 81, 87, 88, 89, 90, 91, 92, 93, 94, 95, 96, 97, 84, 85, 86, 98, 99, 100, 101, 102] (by decide +kernel) (by decide +kernel)
set_option maxRecDepth 20000 in
theorem gX3_homeTax_X2_taxAtHome : GoodIn wsX3_homeTax (wsV RX3 140 RX2 yX2_taxAtHome wsX2_taxAtHome) := goodIn_app (goodIn_of _ (by decide +kernel)) ggX3_homeTax_X2_taxAtHome
theorem dX3_homeTax_0 : decode cX3_homeTax 0 = .ok (.aload_n 0, 1) := by decide +kernel
theorem dX3_homeTax_1 : decode cX3_homeTax 1 = .ok (.iload_n 1, 1) := by decide +kernel
theorem dX3_homeTax_2 : decode cX3_homeTax 2 = .ok (.invokevirtual 77, 3) := by decide +kernel
theorem dX3_homeTax_5 : decode cX3_homeTax 5 = .ok (.invokevirtual 140, 3) := by decide +kernel
theorem dX3_homeTax_8 : decode cX3_homeTax 8 = .ok (.ireturn, 1) := by decide +kernel
set_option maxRecDepth 20000 in
theorem ggX3_hostIncome_X3_personAt : GoodIn wsX3_hostIncome wsX3_personAt := goodIn_ca (goodIn_r _ [5, 6, 7, 8, 9, 10, 11, 12, 13, 14, 15, 16, 17, 18, 19, 20, 21, 22, 23, 24, 25, 26, 27, 28, 29, 30, 31, 32, 70, 71, 72, 73, 74] (by decide +kernel) (by decide +kernel)) (goodIn_sub (fun _ h => List.mem_cons_of_mem _ (List.mem_append_right _ h)) (by decide +kernel))
set_option maxRecDepth 20000 in
theorem gX3_hostIncome_X3_personAt : GoodIn wsX3_hostIncome (wsV RX3 77 RX3 yX3_personAt wsX3_personAt) := goodIn_app (goodIn_of _ (by decide +kernel)) ggX3_hostIncome_X3_personAt
set_option maxRecDepth 20000 in
theorem ggX3_hostIncome_X2_incomeAtHost : GoodIn wsX3_hostIncome wsX2_incomeAtHost := goodIn_r _ [37, 38, 39, 40, 41, 42, 43, 36, 44, 45, 46, 47, 48, 49, 50, 51, 52, 53, 54, 55, 56, 57, 58, 59, 60, 61, 11, 12, 13, 14, 15, 62, 17, 18, 19, 20, 21, 22, 23, 24, 25, 26, 27, 28, 29, 30, 31, 32, 63, 64, 65, 66, 67, 68, 69, 75, 76, 77, 78, 79, 80, 81, 82, 72, 73, 74, 83, 84, 85] (by decide +kernel) (by decide +kernel)
set_option maxRecDepth 20000 in
theorem gX3_hostIncome_X2_incomeAtHost : GoodIn wsX3_hostIncome (wsV RX3 143 RX2 yX2_incomeAtHost wsX2_incomeAtHost) := goodIn_app (goodIn_of _ (by decide +kernel)) ggX3_hostIncome_X2_incomeAtHost
theorem dX3_hostIncome_0 : decode cX3_hostIncome 0 = .ok (.aload_n 0, 1) := by decide +kernel
theorem dX3_hostIncome_1 : decode cX3_hostIncome 1 = .ok (.iload_n 1, 1) := by decide +kernel
theorem dX3_hostIncome_2 : decode cX3_hostIncome 2 = .ok (.invokevirtual 77, 3) := by decide +kernel
theorem dX3_hostIncome_5 : decode cX3_hostIncome 5 = .ok (.invokevirtual 143, 3) := by decide +kernel
theorem dX3_hostIncome_8 : decode cX3_hostIncome 8 = .ok (.ireturn, 1) := by decide +kernel
set_option maxRecDepth 20000 in
theorem ggX3_hostTax_X3_personAt : GoodIn wsX3_hostTax wsX3_personAt := goodIn_ca (goodIn_r _ [5, 6, 7, 8, 9, 10, 11, 12, 13, 14, 15, 16, 17, 18, 19, 20, 21, 22, 23, 24, 25, 26, 27, 28, 29, 30, 31, 32, 95, 96, 97, 98, 99] (by decide +kernel) (by decide +kernel)) (goodIn_sub (fun _ h => List.mem_cons_of_mem _ (List.mem_append_right _ h)) (by decide +kernel))
set_option maxRecDepth 20000 in
theorem gX3_hostTax_X3_personAt : GoodIn wsX3_hostTax (wsV RX3 77 RX3 yX3_personAt wsX3_personAt) := goodIn_app (goodIn_of _ (by decide +kernel)) ggX3_hostTax_X3_personAt
set_option maxRecDepth 20000 in
theorem ggX3_hostTax_X2_taxAtHost : GoodIn wsX3_hostTax wsX2_taxAtHost := goodIn_r _ [37, 38, 39, 40, 41, 36, 42, 43, 44, 45, 46, 47, 48, 49, 50, 51, 52, 53, 54, 55, 56, 57, 58, 59, 60, 61, 62, 63, 64, 65, 66, 11, 12, 13, 14, 15, 67, 17, 18, 19, 20, 21, 22, 23, 24, 25, 26, 27, 28, 29, 30, 31, 32, 68, 69, 70, 71, 72, 73, 74, 75, 76, 77, 78, 79, 80, 81, 82, 83, 84, 85, 86, 87, 88, 89, 90, 91, 92, 93, 94, 100, 101, 102, 103, 104, 105, 106, 107, 97, 98, 99, 108, 109, 110, 111, 112, 113, 114, 115] (by decide +kernel) (by decide +kernel)
set_option maxRecDepth 20000 in
theorem gX3_hostTax_X2_taxAtHost : GoodIn wsX3_hostTax (wsV RX3 146 RX2 yX2_taxAtHost wsX2_taxAtHost) := goodIn_app (goodIn_of _ (by decide +kernel)) ggX3_hostTax_X2_taxAtHost
theorem dX3_hostTax_0 : decode cX3_hostTax 0 = .ok (.aload_n 0, 1) := by decide +kernel
theorem dX3_hostTax_1 : decode cX3_hostTax 1 = .ok (.iload_n 1, 1) := by decide +kernel
theorem dX3_hostTax_2 : decode cX3_hostTax 2 = .ok (.invokevirtual 77, 3) := by decide +kernel
theorem dX3_hostTax_5 : decode cX3_hostTax 5 = .ok (.invokevirtual 146, 3) := by decide +kernel
theorem dX3_hostTax_8 : decode cX3_hostTax 8 = .ok (.ireturn, 1) := by decide +kernel
set_option maxRecDepth 20000 in
theorem ggX3_borne_X3_personAt : GoodIn wsX3_borne wsX3_personAt := goodIn_ca (goodIn_r _ [5, 6, 7, 8, 9, 10, 11, 12, 13, 14, 15, 16, 17, 18, 19, 20, 21, 22, 23, 24, 25, 26, 27, 28, 29, 30, 31, 32, 94, 95, 96, 97, 98] (by decide +kernel) (by decide +kernel)) (goodIn_sub (fun _ h => List.mem_cons_of_mem _ (List.mem_append_right _ h)) (by decide +kernel))
set_option maxRecDepth 20000 in
theorem gX3_borne_X3_personAt : GoodIn wsX3_borne (wsV RX3 77 RX3 yX3_personAt wsX3_personAt) := goodIn_app (goodIn_of _ (by decide +kernel)) ggX3_borne_X3_personAt
set_option maxRecDepth 20000 in
theorem ggX3_borne_X2_borneInYear : GoodIn wsX3_borne wsX2_borneInYear := goodIn_r _ [37, 38, 39, 40, 36, 41, 42, 43, 44, 45, 46, 47, 48, 49, 50, 51, 52, 53, 54, 55, 56, 57, 58, 59, 60, 61, 62, 63, 64, 65, 66, 67, 68, 69, 70, 71, 72, 73, 74, 75, 76, 77, 78, 79, 80, 81, 82, 11, 12, 13, 14, 15, 83, 17, 18, 19, 20, 21, 22, 23, 24, 25, 26, 27, 28, 29, 30, 31, 32, 84, 85, 86, 87, 88, 89, 90, 91, 92, 93, 99, 100, 101, 102, 103, 104, 105, 106, 107, 108, 109, 110, 111, 112, 113, 114, 96, 97, 98] (by decide +kernel) (by decide +kernel)
set_option maxRecDepth 20000 in
theorem gX3_borne_X2_borneInYear : GoodIn wsX3_borne (wsV RX3 149 RX2 yX2_borneInYear wsX2_borneInYear) := goodIn_app (goodIn_of _ (by decide +kernel)) ggX3_borne_X2_borneInYear
theorem dX3_borne_0 : decode cX3_borne 0 = .ok (.aload_n 0, 1) := by decide +kernel
theorem dX3_borne_1 : decode cX3_borne 1 = .ok (.iload_n 1, 1) := by decide +kernel
theorem dX3_borne_2 : decode cX3_borne 2 = .ok (.invokevirtual 77, 3) := by decide +kernel
theorem dX3_borne_5 : decode cX3_borne 5 = .ok (.invokevirtual 149, 3) := by decide +kernel
theorem dX3_borne_8 : decode cX3_borne 8 = .ok (.ireturn, 1) := by decide +kernel
set_option maxRecDepth 20000 in
theorem ggX3_settlement_X3_personAt : GoodIn wsX3_settlement wsX3_personAt := goodIn_ca (goodIn_r _ [5, 6, 7, 8, 9, 10, 11, 12, 13, 14, 15, 16, 17, 18, 19, 20, 21, 22, 23, 24, 25, 26, 27, 28, 29, 30, 31, 32, 102, 103, 104, 105, 106] (by decide +kernel) (by decide +kernel)) (goodIn_sub (fun _ h => List.mem_cons_of_mem _ (List.mem_append_right _ h)) (by decide +kernel))
set_option maxRecDepth 20000 in
theorem gX3_settlement_X3_personAt : GoodIn wsX3_settlement (wsV RX3 77 RX3 yX3_personAt wsX3_personAt) := goodIn_app (goodIn_of _ (by decide +kernel)) ggX3_settlement_X3_personAt
set_option maxRecDepth 20000 in
theorem ggX3_settlement_X2_settlementOfYear : GoodIn wsX3_settlement wsX2_settlementOfYear := goodIn_r _ [37, 38, 39, 40, 36, 41, 42, 43, 44, 45, 46, 47, 48, 49, 50, 11, 12, 13, 14, 15, 51, 17, 18, 19, 20, 21, 22, 23, 24, 25, 26, 27, 28, 29, 30, 31, 32, 52, 53, 54, 55, 56, 57, 58, 59, 60, 61, 62, 63, 64, 65, 66, 67, 68, 69, 70, 71, 72, 73, 74, 75, 76, 77, 78, 79, 80, 81, 82, 83, 84, 85, 86, 87, 88, 89, 90, 91, 92, 93, 94, 95, 96, 97, 98, 99, 100, 101, 107, 108, 109, 110, 111, 112, 113, 114, 115, 116, 117, 104, 105, 106, 118, 119, 120, 121, 122] (by decide +kernel) (by decide +kernel)
set_option maxRecDepth 20000 in
theorem gX3_settlement_X2_settlementOfYear : GoodIn wsX3_settlement (wsV RX3 152 RX2 yX2_settlementOfYear wsX2_settlementOfYear) := goodIn_app (goodIn_of _ (by decide +kernel)) ggX3_settlement_X2_settlementOfYear
theorem dX3_settlement_0 : decode cX3_settlement 0 = .ok (.aload_n 0, 1) := by decide +kernel
theorem dX3_settlement_1 : decode cX3_settlement 1 = .ok (.iload_n 1, 1) := by decide +kernel
theorem dX3_settlement_2 : decode cX3_settlement 2 = .ok (.invokevirtual 77, 3) := by decide +kernel
theorem dX3_settlement_5 : decode cX3_settlement 5 = .ok (.invokevirtual 152, 3) := by decide +kernel
theorem dX3_settlement_8 : decode cX3_settlement 8 = .ok (.ireturn, 1) := by decide +kernel
set_option maxRecDepth 20000 in
theorem ggX3_cost_X3_personAt : GoodIn wsX3_cost wsX3_personAt := goodIn_ca (goodIn_r _ [5, 6, 7, 8, 9, 10, 11, 12, 13, 14, 15, 16, 17, 18, 19, 20, 21, 22, 23, 24, 25, 26, 27, 28, 29, 30, 31, 32, 133, 134, 135, 136, 137] (by decide +kernel) (by decide +kernel)) (goodIn_sub (fun _ h => List.mem_cons_of_mem _ (List.mem_append_right _ h)) (by decide +kernel))
set_option maxRecDepth 20000 in
theorem gX3_cost_X3_personAt : GoodIn wsX3_cost (wsV RX3 77 RX3 yX3_personAt wsX3_personAt) := goodIn_app (goodIn_of _ (by decide +kernel)) ggX3_cost_X3_personAt
set_option maxRecDepth 20000 in
theorem ggX3_cost_X2_costOfYear : GoodIn wsX3_cost wsX2_costOfYear := goodIn_r _ [37, 38, 39, 40, 36, 41, 42, 43, 44, 45, 46, 47, 48, 49, 50, 51, 52, 53, 54, 55, 56, 57, 58, 59, 60, 61, 62, 63, 64, 65, 66, 67, 68, 69, 70, 11, 12, 13, 14, 15, 71, 17, 18, 19, 20, 21, 22, 23, 24, 25, 26, 27, 28, 29, 30, 31, 32, 72, 73, 74, 75, 76, 77, 78, 79, 80, 81, 82, 83, 84, 85, 86, 87, 88, 89, 90, 91, 92, 93, 94, 95, 96, 97, 98, 99, 100, 101, 102, 103, 104, 105, 106, 107, 108, 109, 110, 111, 112, 113, 114, 115, 116, 117, 118, 119, 120, 121, 122, 123, 124, 125, 126, 127, 128, 129, 130, 131, 132, 138, 139, 140, 141, 142, 143, 144, 145, 135, 136, 137, 146, 147, 148, 149, 150, 151, 152, 153] (by decide +kernel) (by decide +kernel)
set_option maxRecDepth 20000 in
theorem gX3_cost_X2_costOfYear : GoodIn wsX3_cost (wsV RX3 155 RX2 yX2_costOfYear wsX2_costOfYear) := goodIn_app (goodIn_of _ (by decide +kernel)) ggX3_cost_X2_costOfYear
theorem dX3_cost_0 : decode cX3_cost 0 = .ok (.aload_n 0, 1) := by decide +kernel
theorem dX3_cost_1 : decode cX3_cost 1 = .ok (.iload_n 1, 1) := by decide +kernel
theorem dX3_cost_2 : decode cX3_cost 2 = .ok (.invokevirtual 77, 3) := by decide +kernel
theorem dX3_cost_5 : decode cX3_cost 5 = .ok (.invokevirtual 155, 3) := by decide +kernel
theorem dX3_cost_8 : decode cX3_cost 8 = .ok (.ireturn, 1) := by decide +kernel
set_option maxRecDepth 20000 in
theorem ggX3_dearest_Jx4a65c_size_8abf5 : GoodIn wsX3_dearest wsJx4a65c_size_8abf5 := goodIn_r _ [7, 8, 128, 129, 130] (by decide +kernel) (by decide +kernel)
set_option maxRecDepth 20000 in
theorem gX3_dearest_Jx4a65c_size_8abf5_f63Jx4a65c : GoodIn wsX3_dearest (va_wsF RX3 63 RJx4a65c ⟨"java/util/List", "size", "()I"⟩ yJx4a65c_size_8abf5 wsJx4a65c_size_8abf5) := goodIn_app (goodIn_of _ (by decide +kernel)) ggX3_dearest_Jx4a65c_size_8abf5
set_option maxRecDepth 20000 in
theorem ggX3_dearest_Jx4a65c_get_915e3 : GoodIn wsX3_dearest wsJx4a65c_get_915e3 := goodIn_r _ [12, 8, 13, 14, 15, 16, 17, 18, 19, 20, 21, 22, 23, 6, 24, 25, 128, 129, 130] (by decide +kernel) (by decide +kernel)
set_option maxRecDepth 20000 in
theorem gX3_dearest_Jx4a65c_get_915e3_f119Jx4a65c : GoodIn wsX3_dearest (va_wsF RX3 119 RJx4a65c ⟨"java/util/List", "get", "(I)Ljava/lang/Object;"⟩ yJx4a65c_get_915e3 wsJx4a65c_get_915e3) := goodIn_app (goodIn_of _ (by decide +kernel)) ggX3_dearest_Jx4a65c_get_915e3
set_option maxRecDepth 20000 in
theorem ggX3_dearest_X2_costOfYear : GoodIn wsX3_dearest wsX2_costOfYear := goodIn_r _ [30, 31, 32, 33, 29, 34, 35, 36, 37, 38, 39, 40, 41, 42, 43, 44, 45, 46, 47, 48, 49, 50, 51, 52, 53, 54, 55, 56, 57, 58, 59, 60, 61, 62, 63, 4, 5, 6, 7, 8, 64, 10, 11, 12, 13, 14, 15, 16, 17, 18, 19, 20, 21, 22, 23, 24, 25, 65, 66, 67, 68, 69, 70, 71, 72, 73, 74, 75, 76, 77, 78, 79, 80, 81, 82, 83, 84, 85, 86, 87, 88, 89, 90, 91, 92, 93, 94, 95, 96, 97, 98, 99, 100, 101, 102, 103, 104, 105, 106, 107, 108, 109, 110, 111, 112, 113, 114, 115, 116, 117, 118, 119, 120, 121, 122, 123, 124, 125, 131, 132, 133, 134, 135, 136, 137, 138, 128, 129, 130, 139, 140, 141, 142, 143, 144, 145, 146] (by decide +kernel) (by decide +kernel)
set_option maxRecDepth 20000 in
theorem gX3_dearest_X2_costOfYear : GoodIn wsX3_dearest (wsV RX3 155 RX2 yX2_costOfYear wsX2_costOfYear) := goodIn_app (goodIn_of _ (by decide +kernel)) ggX3_dearest_X2_costOfYear
theorem dX3_dearest_0 : decode cX3_dearest 0 = .ok (.iconst (-1), 1) := by decide +kernel
theorem dX3_dearest_1 : decode cX3_dearest 1 = .ok (.istore_n 1, 1) := by decide +kernel
theorem dX3_dearest_2 : decode cX3_dearest 2 = .ok (.iconst 0, 1) := by decide +kernel
theorem dX3_dearest_3 : decode cX3_dearest 3 = .ok (.istore_n 2, 1) := by decide +kernel
theorem dX3_dearest_4 : decode cX3_dearest 4 = .ok (.iconst 0, 1) := by decide +kernel
theorem dX3_dearest_5 : decode cX3_dearest 5 = .ok (.istore_n 3, 1) := by decide +kernel
theorem dX3_dearest_6 : decode cX3_dearest 6 = .ok (.iload_n 3, 1) := by decide +kernel
theorem dX3_dearest_7 : decode cX3_dearest 7 = .ok (.aload_n 0, 1) := by decide +kernel
theorem dX3_dearest_8 : decode cX3_dearest 8 = .ok (.getfield 16, 3) := by decide +kernel
theorem dX3_dearest_11 : decode cX3_dearest 11 = .ok (.invokeinterface 63 1, 5) := by decide +kernel
theorem dX3_dearest_16 : decode cX3_dearest 16 = .ok (.if_icmp .ge 42, 3) := by decide +kernel
theorem dX3_dearest_19 : decode cX3_dearest 19 = .ok (.aload_n 0, 1) := by decide +kernel
theorem dX3_dearest_20 : decode cX3_dearest 20 = .ok (.getfield 16, 3) := by decide +kernel
theorem dX3_dearest_23 : decode cX3_dearest 23 = .ok (.iload_n 3, 1) := by decide +kernel
theorem dX3_dearest_24 : decode cX3_dearest 24 = .ok (.invokeinterface 119 2, 5) := by decide +kernel
theorem dX3_dearest_29 : decode cX3_dearest 29 = .ok (.checkcast 72, 3) := by decide +kernel
theorem dX3_dearest_32 : decode cX3_dearest 32 = .ok (.invokevirtual 155, 3) := by decide +kernel
theorem dX3_dearest_35 : decode cX3_dearest 35 = .ok (.istore 4, 2) := by decide +kernel
theorem dX3_dearest_37 : decode cX3_dearest 37 = .ok (.iload_n 1, 1) := by decide +kernel
theorem dX3_dearest_38 : decode cX3_dearest 38 = .ok (.ifCond .lt 9, 3) := by decide +kernel
theorem dX3_dearest_41 : decode cX3_dearest 41 = .ok (.iload 4, 2) := by decide +kernel
theorem dX3_dearest_43 : decode cX3_dearest 43 = .ok (.iload_n 2, 1) := by decide +kernel
theorem dX3_dearest_44 : decode cX3_dearest 44 = .ok (.if_icmp .le 8, 3) := by decide +kernel
theorem dX3_dearest_47 : decode cX3_dearest 47 = .ok (.iload_n 3, 1) := by decide +kernel
theorem dX3_dearest_48 : decode cX3_dearest 48 = .ok (.istore_n 1, 1) := by decide +kernel
theorem dX3_dearest_49 : decode cX3_dearest 49 = .ok (.iload 4, 2) := by decide +kernel
theorem dX3_dearest_51 : decode cX3_dearest 51 = .ok (.istore_n 2, 1) := by decide +kernel
theorem dX3_dearest_52 : decode cX3_dearest 52 = .ok (.iinc 3 1, 3) := by decide +kernel
theorem dX3_dearest_55 : decode cX3_dearest 55 = .ok (.goto (-49), 3) := by decide +kernel
theorem dX3_dearest_58 : decode cX3_dearest 58 = .ok (.iload_n 1, 1) := by decide +kernel
theorem dX3_dearest_59 : decode cX3_dearest 59 = .ok (.ireturn, 1) := by decide +kernel
set_option maxRecDepth 20000 in
theorem ggX3_landAt_Jx4a65c_size_8abf5 : GoodIn wsX3_landAt wsJx4a65c_size_8abf5 := goodIn_r _ [9, 10, 30, 31, 32] (by decide +kernel) (by decide +kernel)
set_option maxRecDepth 20000 in
theorem gX3_landAt_Jx4a65c_size_8abf5_f63Jx4a65c : GoodIn wsX3_landAt (va_wsF RX3 63 RJx4a65c ⟨"java/util/List", "size", "()I"⟩ yJx4a65c_size_8abf5 wsJx4a65c_size_8abf5) := goodIn_app (goodIn_of _ (by decide +kernel)) ggX3_landAt_Jx4a65c_size_8abf5
set_option maxRecDepth 20000 in
theorem ggX3_landAt_Jx4a65c_get_915e3 : GoodIn wsX3_landAt wsJx4a65c_get_915e3 := goodIn_r _ [14, 10, 15, 16, 17, 18, 19, 20, 21, 22, 23, 24, 25, 8, 26, 27, 30, 31, 32] (by decide +kernel) (by decide +kernel)
set_option maxRecDepth 20000 in
theorem gX3_landAt_Jx4a65c_get_915e3_f119Jx4a65c : GoodIn wsX3_landAt (va_wsF RX3 119 RJx4a65c ⟨"java/util/List", "get", "(I)Ljava/lang/Object;"⟩ yJx4a65c_get_915e3 wsJx4a65c_get_915e3) := goodIn_app (goodIn_of _ (by decide +kernel)) ggX3_landAt_Jx4a65c_get_915e3
