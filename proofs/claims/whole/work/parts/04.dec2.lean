theorem dX3_setHousing_35 : decode cX3_setHousing 35 = .ok (.invokevirtual 101, 3) := by decide +kernel
theorem dX3_setHousing_38 : decode cX3_setHousing 38 = .ok (.ireturn, 1) := by decide +kernel
set_option maxRecDepth 20000 in
theorem ggX3_addBonus_X3_personAt : GoodIn wsX3_addBonus wsX3_personAt := goodIn_ca (goodIn_r _ [11, 12, 13, 14, 15, 16, 17, 18, 19, 20, 21, 22, 23, 24, 25, 26, 27, 28, 29, 30, 31, 32, 33, 34, 35, 36, 37, 38, 117, 118, 119, 120, 121] (by decide +kernel) (by decide +kernel)) (goodIn_sub (fun _ h => List.mem_cons_of_mem _ (List.mem_append_left _ (List.mem_append_right _ h))) (by decide +kernel))
set_option maxRecDepth 20000 in
theorem gX3_addBonus_X3_personAt : GoodIn wsX3_addBonus (wsV RX3 77 RX3 yX3_personAt wsX3_personAt) := goodIn_app (goodIn_of _ (by decide +kernel)) ggX3_addBonus_X3_personAt
set_option maxRecDepth 20000 in
theorem ggX3_addBonus_X3_requireRange : GoodIn wsX3_addBonus wsX3_requireRange := goodIn_ca (goodIn_r _ [41, 42, 43] (by decide +kernel) (by decide +kernel)) (goodIn_sub (fun _ h => List.mem_cons_of_mem _ (List.mem_append_right _ h)) (by decide +kernel))
set_option maxRecDepth 20000 in
theorem gX3_addBonus_X3_requireRange : GoodIn wsX3_addBonus (va_wsS RX3 33 yX3_requireRange wsX3_requireRange) := goodIn_app (goodIn_of _ (by decide +kernel)) ggX3_addBonus_X3_requireRange
set_option maxRecDepth 20000 in
theorem ggX3_addBonus_Jx4a65c_size_8abf5 : GoodIn wsX3_addBonus wsJx4a65c_size_8abf5 := goodIn_r _ [20, 21, 119, 120, 121] (by decide +kernel) (by decide +kernel)
set_option maxRecDepth 20000 in
theorem gX3_addBonus_Jx4a65c_size_8abf5_f63Jx4a65c : GoodIn wsX3_addBonus (va_wsF RX3 63 RJx4a65c ⟨"java/util/List", "size", "()I"⟩ yJx4a65c_size_8abf5 wsJx4a65c_size_8abf5) := goodIn_app (goodIn_of _ (by decide +kernel)) ggX3_addBonus_Jx4a65c_size_8abf5
set_option maxRecDepth 20000 in
theorem ggX3_addBonus_X0_init : GoodIn wsX3_addBonus wsX0_init := goodIn_r _ [46, 47, 48, 49, 50, 51, 52, 114, 115, 116] (by decide +kernel) (by decide +kernel)
set_option maxRecDepth 20000 in
theorem gX3_addBonus_X0_init : GoodIn wsX3_addBonus (wsX0_init) := ggX3_addBonus_X0_init
set_option maxRecDepth 20000 in
theorem ggX3_addBonus_Jx4a65c_add_9ea2d : GoodIn wsX3_addBonus wsJx4a65c_add_9ea2d := goodIn_r _ [56, 57, 58, 38, 21, 59, 60, 61, 19, 62, 63, 64, 65, 66, 67, 68, 69, 70, 71, 72, 73, 74, 75, 76, 77, 78, 79, 80, 81, 82, 83, 84, 85, 86, 87, 88, 89, 90, 91, 92, 93, 94, 95, 96, 97, 98, 99, 100, 101, 102, 103, 104, 105, 119, 120, 121] (by decide +kernel) (by decide +kernel)
set_option maxRecDepth 20000 in
theorem gX3_addBonus_Jx4a65c_add_9ea2d_f22Jx4a65c : GoodIn wsX3_addBonus (va_wsF RX3 22 RJx4a65c ⟨"java/util/List", "add", "(Ljava/lang/Object;)Z"⟩ yJx4a65c_add_9ea2d wsJx4a65c_add_9ea2d) := goodIn_app (goodIn_of _ (by decide +kernel)) ggX3_addBonus_Jx4a65c_add_9ea2d
theorem dX3_addBonus_0 : decode cX3_addBonus 0 = .ok (.aload_n 0, 1) := by decide +kernel
theorem dX3_addBonus_1 : decode cX3_addBonus 1 = .ok (.iload_n 1, 1) := by decide +kernel
theorem dX3_addBonus_2 : decode cX3_addBonus 2 = .ok (.invokevirtual 77, 3) := by decide +kernel
theorem dX3_addBonus_5 : decode cX3_addBonus 5 = .ok (.astore 5, 2) := by decide +kernel
theorem dX3_addBonus_7 : decode cX3_addBonus 7 = .ok (.iload_n 2, 1) := by decide +kernel
theorem dX3_addBonus_8 : decode cX3_addBonus 8 = .ok (.iconst 1, 1) := by decide +kernel
theorem dX3_addBonus_9 : decode cX3_addBonus 9 = .ok (.ldc 104, 2) := by decide +kernel
theorem dX3_addBonus_11 : decode cX3_addBonus 11 = .ok (.invokestatic 33, 3) := by decide +kernel
theorem dX3_addBonus_14 : decode cX3_addBonus 14 = .ok (.iload_n 3, 1) := by decide +kernel
theorem dX3_addBonus_15 : decode cX3_addBonus 15 = .ok (.iconst 0, 1) := by decide +kernel
theorem dX3_addBonus_16 : decode cX3_addBonus 16 = .ok (.bipush 11, 2) := by decide +kernel
theorem dX3_addBonus_18 : decode cX3_addBonus 18 = .ok (.invokestatic 33, 3) := by decide +kernel
theorem dX3_addBonus_21 : decode cX3_addBonus 21 = .ok (.iload 4, 2) := by decide +kernel
theorem dX3_addBonus_23 : decode cX3_addBonus 23 = .ok (.iload_n 3, 1) := by decide +kernel
theorem dX3_addBonus_24 : decode cX3_addBonus 24 = .ok (.iconst 1, 1) := by decide +kernel
theorem dX3_addBonus_25 : decode cX3_addBonus 25 = .ok (.iadd, 1) := by decide +kernel
theorem dX3_addBonus_26 : decode cX3_addBonus 26 = .ok (.bipush 12, 2) := by decide +kernel
theorem dX3_addBonus_28 : decode cX3_addBonus 28 = .ok (.invokestatic 33, 3) := by decide +kernel
theorem dX3_addBonus_31 : decode cX3_addBonus 31 = .ok (.aload 5, 2) := by decide +kernel
theorem dX3_addBonus_33 : decode cX3_addBonus 33 = .ok (.getfield 105, 3) := by decide +kernel
theorem dX3_addBonus_36 : decode cX3_addBonus 36 = .ok (.invokeinterface 63 1, 5) := by decide +kernel
theorem dX3_addBonus_41 : decode cX3_addBonus 41 = .ok (.bipush 6, 2) := by decide +kernel
theorem dX3_addBonus_43 : decode cX3_addBonus 43 = .ok (.if_icmp .lt 13, 3) := by decide +kernel
theorem dX3_addBonus_46 : decode cX3_addBonus 46 = .ok (.new 67, 3) := by decide +kernel
theorem dX3_addBonus_49 : decode cX3_addBonus 49 = .ok (.dup, 1) := by decide +kernel
theorem dX3_addBonus_50 : decode cX3_addBonus 50 = .ok (.ldc 108, 2) := by decide +kernel
theorem dX3_addBonus_52 : decode cX3_addBonus 52 = .ok (.invokespecial 71, 3) := by decide +kernel
theorem dX3_addBonus_55 : decode cX3_addBonus 55 = .ok (.athrow, 1) := by decide +kernel
theorem dX3_addBonus_56 : decode cX3_addBonus 56 = .ok (.aload 5, 2) := by decide +kernel
theorem dX3_addBonus_58 : decode cX3_addBonus 58 = .ok (.getfield 105, 3) := by decide +kernel
theorem dX3_addBonus_61 : decode cX3_addBonus 61 = .ok (.new 110, 3) := by decide +kernel
theorem dX3_addBonus_64 : decode cX3_addBonus 64 = .ok (.dup, 1) := by decide +kernel
theorem dX3_addBonus_65 : decode cX3_addBonus 65 = .ok (.iload_n 2, 1) := by decide +kernel
theorem dX3_addBonus_66 : decode cX3_addBonus 66 = .ok (.iload_n 3, 1) := by decide +kernel
theorem dX3_addBonus_67 : decode cX3_addBonus 67 = .ok (.iload 4, 2) := by decide +kernel
theorem dX3_addBonus_69 : decode cX3_addBonus 69 = .ok (.invokespecial 112, 3) := by decide +kernel
theorem dX3_addBonus_72 : decode cX3_addBonus 72 = .ok (.invokeinterface 22 2, 5) := by decide +kernel
theorem dX3_addBonus_77 : decode cX3_addBonus 77 = .ok (.pop, 1) := by decide +kernel
theorem dX3_addBonus_78 : decode cX3_addBonus 78 = .ok (.aload 5, 2) := by decide +kernel
theorem dX3_addBonus_80 : decode cX3_addBonus 80 = .ok (.getfield 105, 3) := by decide +kernel
theorem dX3_addBonus_83 : decode cX3_addBonus 83 = .ok (.invokeinterface 63 1, 5) := by decide +kernel
theorem dX3_addBonus_88 : decode cX3_addBonus 88 = .ok (.iconst 1, 1) := by decide +kernel
theorem dX3_addBonus_89 : decode cX3_addBonus 89 = .ok (.isub, 1) := by decide +kernel
theorem dX3_addBonus_90 : decode cX3_addBonus 90 = .ok (.ireturn, 1) := by decide +kernel
set_option maxRecDepth 20000 in
theorem ggX3_people_Jx4a65c_size_8abf5 : GoodIn wsX3_people wsJx4a65c_size_8abf5 := goodIn_r _ [6, 7, 10, 11, 12] (by decide +kernel) (by decide +kernel)
set_option maxRecDepth 20000 in
theorem gX3_people_Jx4a65c_size_8abf5_f63Jx4a65c : GoodIn wsX3_people (va_wsF RX3 63 RJx4a65c ⟨"java/util/List", "size", "()I"⟩ yJx4a65c_size_8abf5 wsJx4a65c_size_8abf5) := goodIn_app (goodIn_of _ (by decide +kernel)) ggX3_people_Jx4a65c_size_8abf5
theorem dX3_people_0 : decode cX3_people 0 = .ok (.aload_n 0, 1) := by decide +kernel
theorem dX3_people_1 : decode cX3_people 1 = .ok (.getfield 16, 3) := by decide +kernel
theorem dX3_people_4 : decode cX3_people 4 = .ok (.invokeinterface 63 1, 5) := by decide +kernel
theorem dX3_people_9 : decode cX3_people 9 = .ok (.ireturn, 1) := by decide +kernel
set_option maxRecDepth 20000 in
theorem ggX3_abroadPart_X3_personAt : GoodIn wsX3_abroadPart wsX3_personAt := goodIn_ca (goodIn_r _ [8, 1, 2, 9, 10, 11, 12, 13, 14, 15, 16, 17, 18, 19, 20, 21, 22, 23, 24, 25, 26, 27, 28, 29, 30, 31, 32, 33, 56, 57, 58, 59, 60] (by decide +kernel) (by decide +kernel)) (goodIn_sub (fun _ h => List.mem_cons_of_mem _ (List.mem_append_right _ h)) (by decide +kernel))
set_option maxRecDepth 20000 in
theorem gX3_abroadPart_X3_personAt : GoodIn wsX3_abroadPart (wsV RX3 77 RX3 yX3_personAt wsX3_personAt) := goodIn_app (goodIn_of _ (by decide +kernel)) ggX3_abroadPart_X3_personAt
set_option maxRecDepth 20000 in
theorem ggX3_abroadPart_Jx4a65c_size_8abf5 : GoodIn wsX3_abroadPart wsJx4a65c_size_8abf5 := goodIn_r _ [15, 16, 58, 59, 60] (by decide +kernel) (by decide +kernel)
set_option maxRecDepth 20000 in
theorem gX3_abroadPart_Jx4a65c_size_8abf5_f63Jx4a65c : GoodIn wsX3_abroadPart (va_wsF RX3 63 RJx4a65c ⟨"java/util/List", "size", "()I"⟩ yJx4a65c_size_8abf5 wsJx4a65c_size_8abf5) := goodIn_app (goodIn_of _ (by decide +kernel)) ggX3_abroadPart_Jx4a65c_size_8abf5
set_option maxRecDepth 20000 in
theorem ggX3_abroadPart_Jx4a65c_get_915e3 : GoodIn wsX3_abroadPart wsJx4a65c_get_915e3 := goodIn_r _ [20, 16, 21, 22, 23, 24, 25, 26, 27, 28, 29, 30, 31, 14, 32, 33, 58, 59, 60] (by decide +kernel) (by decide +kernel)
set_option maxRecDepth 20000 in
theorem gX3_abroadPart_Jx4a65c_get_915e3_f119Jx4a65c : GoodIn wsX3_abroadPart (va_wsF RX3 119 RJx4a65c ⟨"java/util/List", "get", "(I)Ljava/lang/Object;"⟩ yJx4a65c_get_915e3 wsJx4a65c_get_915e3) := goodIn_app (goodIn_of _ (by decide +kernel)) ggX3_abroadPart_Jx4a65c_get_915e3
set_option maxRecDepth 20000 in
theorem ggX3_abroadPart_X2_partAbroad : GoodIn wsX3_abroadPart wsX2_partAbroad := goodIn_r _ [38, 39, 40, 41, 42, 43, 44, 45, 46, 47, 61, 62, 63, 48, 49, 50, 51, 52, 53, 54, 55] (by decide +kernel) (by decide +kernel)
set_option maxRecDepth 20000 in
theorem gX3_abroadPart_X2_partAbroad : GoodIn wsX3_abroadPart (wsV RX3 123 RX2 yX2_partAbroad wsX2_partAbroad) := goodIn_app (goodIn_of _ (by decide +kernel)) ggX3_abroadPart_X2_partAbroad
theorem dX3_abroadPart_0 : decode cX3_abroadPart 0 = .ok (.aload_n 0, 1) := by decide +kernel
theorem dX3_abroadPart_1 : decode cX3_abroadPart 1 = .ok (.iload_n 1, 1) := by decide +kernel
theorem dX3_abroadPart_2 : decode cX3_abroadPart 2 = .ok (.invokevirtual 77, 3) := by decide +kernel
theorem dX3_abroadPart_5 : decode cX3_abroadPart 5 = .ok (.astore_n 3, 1) := by decide +kernel
theorem dX3_abroadPart_6 : decode cX3_abroadPart 6 = .ok (.iload_n 2, 1) := by decide +kernel
theorem dX3_abroadPart_7 : decode cX3_abroadPart 7 = .ok (.ifCond .lt 16, 3) := by decide +kernel
theorem dX3_abroadPart_10 : decode cX3_abroadPart 10 = .ok (.iload_n 2, 1) := by decide +kernel
theorem dX3_abroadPart_11 : decode cX3_abroadPart 11 = .ok (.aload_n 3, 1) := by decide +kernel
theorem dX3_abroadPart_12 : decode cX3_abroadPart 12 = .ok (.getfield 105, 3) := by decide +kernel
theorem dX3_abroadPart_15 : decode cX3_abroadPart 15 = .ok (.invokeinterface 63 1, 5) := by decide +kernel
theorem dX3_abroadPart_20 : decode cX3_abroadPart 20 = .ok (.if_icmp .lt 13, 3) := by decide +kernel
theorem dX3_abroadPart_23 : decode cX3_abroadPart 23 = .ok (.new 114, 3) := by decide +kernel
theorem dX3_abroadPart_26 : decode cX3_abroadPart 26 = .ok (.dup, 1) := by decide +kernel
theorem dX3_abroadPart_27 : decode cX3_abroadPart 27 = .ok (.ldc 116, 2) := by decide +kernel
theorem dX3_abroadPart_29 : decode cX3_abroadPart 29 = .ok (.invokespecial 118, 3) := by decide +kernel
theorem dX3_abroadPart_32 : decode cX3_abroadPart 32 = .ok (.athrow, 1) := by decide +kernel
theorem dX3_abroadPart_33 : decode cX3_abroadPart 33 = .ok (.aload_n 3, 1) := by decide +kernel
theorem dX3_abroadPart_34 : decode cX3_abroadPart 34 = .ok (.aload_n 3, 1) := by decide +kernel
theorem dX3_abroadPart_35 : decode cX3_abroadPart 35 = .ok (.getfield 105, 3) := by decide +kernel
theorem dX3_abroadPart_38 : decode cX3_abroadPart 38 = .ok (.iload_n 2, 1) := by decide +kernel
theorem dX3_abroadPart_39 : decode cX3_abroadPart 39 = .ok (.invokeinterface 119 2, 5) := by decide +kernel
theorem dX3_abroadPart_44 : decode cX3_abroadPart 44 = .ok (.checkcast 110, 3) := by decide +kernel
theorem dX3_abroadPart_47 : decode cX3_abroadPart 47 = .ok (.invokevirtual 123, 3) := by decide +kernel
theorem dX3_abroadPart_50 : decode cX3_abroadPart 50 = .ok (.ireturn, 1) := by decide +kernel
set_option maxRecDepth 20000 in
theorem ggX3_held_X3_personAt : GoodIn wsX3_held wsX3_personAt := goodIn_ca (goodIn_r _ [5, 6, 7, 8, 9, 10, 11, 12, 13, 14, 15, 16, 17, 18, 19, 20, 21, 22, 23, 24, 25, 26, 27, 28, 29, 30, 31, 32, 69, 70, 71, 72, 73] (by decide +kernel) (by decide +kernel)) (goodIn_sub (fun _ h => List.mem_cons_of_mem _ (List.mem_append_left _ (List.mem_append_right _ h))) (by decide +kernel))
set_option maxRecDepth 20000 in
theorem gX3_held_X3_personAt : GoodIn wsX3_held (wsV RX3 77 RX3 yX3_personAt wsX3_personAt) := goodIn_app (goodIn_of _ (by decide +kernel)) ggX3_held_X3_personAt
set_option maxRecDepth 20000 in
theorem ggX3_held_X3_requireRange : GoodIn wsX3_held wsX3_requireRange := goodIn_ca (goodIn_r _ [35, 36, 37] (by decide +kernel) (by decide +kernel)) (goodIn_sub (fun _ h => List.mem_cons_of_mem _ (List.mem_append_right _ h)) (by decide +kernel))
set_option maxRecDepth 20000 in
theorem gX3_held_X3_requireRange : GoodIn wsX3_held (va_wsS RX3 33 yX3_requireRange wsX3_requireRange) := goodIn_app (goodIn_of _ (by decide +kernel)) ggX3_held_X3_requireRange
set_option maxRecDepth 20000 in
theorem ggX3_held_X2_isAbroadIn : GoodIn wsX3_held wsX2_isAbroadIn := goodIn_r _ [42, 43, 44, 74, 75, 76, 77, 78, 79, 80, 81] (by decide +kernel) (by decide +kernel)
set_option maxRecDepth 20000 in
theorem gX3_held_X2_isAbroadIn : GoodIn wsX3_held (wsV RX3 127 RX2 yX2_isAbroadIn wsX2_isAbroadIn) := goodIn_app (goodIn_of _ (by decide +kernel)) ggX3_held_X2_isAbroadIn
set_option maxRecDepth 20000 in
theorem ggX3_held_X2_heldEachMonth : GoodIn wsX3_held wsX2_heldEachMonth := goodIn_r _ [48, 49, 50, 51, 52, 53, 54, 55, 56, 57, 58, 59, 60, 61, 62, 63, 64, 65, 66, 67, 68, 74, 75, 76, 77, 78, 79, 80, 81, 82, 83, 84, 85, 86] (by decide +kernel) (by decide +kernel)
set_option maxRecDepth 20000 in
theorem gX3_held_X2_heldEachMonth : GoodIn wsX3_held (wsV RX3 131 RX2 yX2_heldEachMonth wsX2_heldEachMonth) := goodIn_app (goodIn_of _ (by decide +kernel)) ggX3_held_X2_heldEachMonth
theorem dX3_held_0 : decode cX3_held 0 = .ok (.aload_n 0, 1) := by decide +kernel
theorem dX3_held_1 : decode cX3_held 1 = .ok (.iload_n 1, 1) := by decide +kernel
theorem dX3_held_2 : decode cX3_held 2 = .ok (.invokevirtual 77, 3) := by decide +kernel
theorem dX3_held_5 : decode cX3_held 5 = .ok (.astore_n 3, 1) := by decide +kernel
theorem dX3_held_6 : decode cX3_held 6 = .ok (.iload_n 2, 1) := by decide +kernel
theorem dX3_held_7 : decode cX3_held 7 = .ok (.iconst 0, 1) := by decide +kernel
theorem dX3_held_8 : decode cX3_held 8 = .ok (.bipush 11, 2) := by decide +kernel
theorem dX3_held_10 : decode cX3_held 10 = .ok (.invokestatic 33, 3) := by decide +kernel
theorem dX3_held_13 : decode cX3_held 13 = .ok (.aload_n 3, 1) := by decide +kernel
theorem dX3_held_14 : decode cX3_held 14 = .ok (.iload_n 2, 1) := by decide +kernel
theorem dX3_held_15 : decode cX3_held 15 = .ok (.invokevirtual 127, 3) := by decide +kernel
theorem dX3_held_18 : decode cX3_held 18 = .ok (.ifCond .eq 10, 3) := by decide +kernel
theorem dX3_held_21 : decode cX3_held 21 = .ok (.aload_n 3, 1) := by decide +kernel
theorem dX3_held_22 : decode cX3_held 22 = .ok (.invokevirtual 131, 3) := by decide +kernel
theorem dX3_held_25 : decode cX3_held 25 = .ok (.goto 4, 3) := by decide +kernel
theorem dX3_held_28 : decode cX3_held 28 = .ok (.iconst 0, 1) := by decide +kernel
theorem dX3_held_29 : decode cX3_held 29 = .ok (.ireturn, 1) := by decide +kernel
set_option maxRecDepth 20000 in
theorem ggX3_supposedTax_X3_personAt : GoodIn wsX3_supposedTax wsX3_personAt := goodIn_ca (goodIn_r _ [5, 6, 7, 8, 9, 10, 11, 12, 13, 14, 15, 16, 17, 18, 19, 20, 21, 22, 23, 24, 25, 26, 27, 28, 29, 30, 31, 32, 66, 67, 68, 69, 70] (by decide +kernel) (by decide +kernel)) (goodIn_sub (fun _ h => List.mem_cons_of_mem _ (List.mem_append_right _ h)) (by decide +kernel))
set_option maxRecDepth 20000 in
theorem gX3_supposedTax_X3_personAt : GoodIn wsX3_supposedTax (wsV RX3 77 RX3 yX3_personAt wsX3_personAt) := goodIn_app (goodIn_of _ (by decide +kernel)) ggX3_supposedTax_X3_personAt
set_option maxRecDepth 20000 in
theorem ggX3_supposedTax_X2_supposedTaxOfYear : GoodIn wsX3_supposedTax wsX2_supposedTaxOfYear := goodIn_r _ [37, 38, 39, 40, 41, 36, 42, 43, 44, 45, 46, 11, 12, 13, 14, 15, 47, 17, 18, 19, 20, 21, 22, 23, 24, 25, 26, 27, 28, 29, 30, 31, 32, 48, 49, 50, 51, 52, 53, 54, 55, 56, 57, 58, 59, 60, 61, 62, 63, 64, 65, 71, 72, 73, 74, 75, 76, 77, 78, 79, 80, 81, 68, 69, 70, 82, 83, 84, 85, 86] (by decide +kernel) (by decide +kernel)
set_option maxRecDepth 20000 in
theorem gX3_supposedTax_X2_supposedTaxOfYear : GoodIn wsX3_supposedTax (wsV RX3 134 RX2 yX2_supposedTaxOfYear wsX2_supposedTaxOfYear) := goodIn_app (goodIn_of _ (by decide +kernel)) ggX3_supposedTax_X2_supposedTaxOfYear
theorem dX3_supposedTax_0 : decode cX3_supposedTax 0 = .ok (.aload_n 0, 1) := by decide +kernel
theorem dX3_supposedTax_1 : decode cX3_supposedTax 1 = .ok (.iload_n 1, 1) := by decide +kernel
theorem dX3_supposedTax_2 : decode cX3_supposedTax 2 = .ok (.invokevirtual 77, 3) := by decide +kernel
theorem dX3_supposedTax_5 : decode cX3_supposedTax 5 = .ok (.invokevirtual 134, 3) := by decide +kernel
theorem dX3_supposedTax_8 : decode cX3_supposedTax 8 = .ok (.ireturn, 1) := by decide +kernel
set_option maxRecDepth 20000 in
theorem ggX3_homeIncome_X3_personAt : GoodIn wsX3_homeIncome wsX3_personAt := goodIn_ca (goodIn_r _ [5, 6, 7, 8, 9, 10, 11, 12, 13, 14, 15, 16, 17, 18, 19, 20, 21, 22, 23, 24, 25, 26, 27, 28, 29, 30, 31, 32, 60, 61, 62, 63, 64] (by decide +kernel) (by decide +kernel)) (goodIn_sub (fun _ h => List.mem_cons_of_mem _ (List.mem_append_right _ h)) (by decide +kernel))
set_option maxRecDepth 20000 in
theorem gX3_homeIncome_X3_personAt : GoodIn wsX3_homeIncome (wsV RX3 77 RX3 yX3_personAt wsX3_personAt) := goodIn_app (goodIn_of _ (by decide +kernel)) ggX3_homeIncome_X3_personAt
set_option maxRecDepth 20000 in
theorem ggX3_homeIncome_X2_incomeAtHome : GoodIn wsX3_homeIncome wsX2_incomeAtHome := goodIn_r _ [37, 38, 39, 40, 41, 42, 43, 36, 44, 45, 46, 47, 11, 12, 13, 14, 15, 48, 17, 18, 19, 20, 21, 22, 23, 24, 25, 26, 27, 28, 29, 30, 31, 32, 49, 50, 51, 52, 53, 54, 55, 56, 57, 58, 59, 65, 66, 67, 68, 69, 70, 71, 72, 73, 74, 75, 62, 63, 64] (by decide +kernel) (by decide +kernel)
set_option maxRecDepth 20000 in
theorem gX3_homeIncome_X2_incomeAtHome : GoodIn wsX3_homeIncome (wsV RX3 137 RX2 yX2_incomeAtHome wsX2_incomeAtHome) := goodIn_app (goodIn_of _ (by decide +kernel)) ggX3_homeIncome_X2_incomeAtHome
theorem dX3_homeIncome_0 : decode cX3_homeIncome 0 = .ok (.aload_n 0, 1) := by decide +kernel
theorem dX3_homeIncome_1 : decode cX3_homeIncome 1 = .ok (.iload_n 1, 1) := by decide +kernel
theorem dX3_homeIncome_2 : decode cX3_homeIncome 2 = .ok (.invokevirtual 77, 3) := by decide +kernel
theorem dX3_homeIncome_5 : decode cX3_homeIncome 5 = .ok (.invokevirtual 137, 3) := by decide +kernel
theorem dX3_homeIncome_8 : decode cX3_homeIncome 8 = .ok (.ireturn, 1) := by decide +kernel
set_option maxRecDepth 20000 in
theorem ggX3_homeTax_X3_personAt : GoodIn wsX3_homeTax wsX3_personAt := goodIn_ca (goodIn_r _ [5, 6, 7, 8, 9, 10, 11, 12, 13, 14, 15, 16, 17, 18, 19, 20, 21, 22, 23, 24, 25, 26, 27, 28, 29, 30, 31, 32, 82, 83, 84, 85, 86] (by decide +kernel) (by decide +kernel)) (goodIn_sub (fun _ h => List.mem_cons_of_mem _ (List.mem_append_right _ h)) (by decide +kernel))
set_option maxRecDepth 20000 in
theorem gX3_homeTax_X3_personAt : GoodIn wsX3_homeTax (wsV RX3 77 RX3 yX3_personAt wsX3_personAt) := goodIn_app (goodIn_of _ (by decide +kernel)) ggX3_homeTax_X3_personAt
set_option maxRecDepth 20000 in
theorem ggX3_homeTax_X2_taxAtHome : GoodIn wsX3_homeTax wsX2_taxAtHome := goodIn_r _ [37, 38, 39, 40, 41, 36, 42, 43, 44, 45, 46, 11, 12, 13, 14, 15, 47, 17, 18, 19, 20, 21, 22, 23, 24, 25, 26, 27, 28, 29, 30, 31, 32, 48, 49, 50, 51, 52, 53, 54, 55, 56, 57, 58, 59, 60, 61, 62, 63, 64, 65, 66, 67, 68, 69, 70, 71, 72, 73, 74, 75, 76, 77, 78, 79, 80, 81, 87, 88, 89, 90, 91, 92, 93, 94, 95, 96, 97, 84, 85, 86, 98, 99, 100, 101, 102] (by decide +kernel) (by decide +kernel)
set_option maxRecDepth 20000 in
theorem gX3_homeTax_X2_taxAtHome : GoodIn wsX3_homeTax (wsV RX3 140 RX2 yX2_taxAtHome wsX2_taxAtHome) := goodIn_app (goodIn_of _ (by decide +kernel)) ggX3_homeTax_X2_taxAtHome
theorem dX3_homeTax_0 : decode cX3_homeTax 0 = .ok (.aload_n 0, 1) := by decide +kernel
theorem dX3_homeTax_1 : decode cX3_homeTax 1 = .ok (.iload_n 1, 1) := by decide +kernel
theorem dX3_homeTax_2 : decode cX3_homeTax 2 = .ok (.invokevirtual 77, 3) := by decide +kernel
theorem dX3_homeTax_5 : decode cX3_homeTax 5 = .ok (.invokevirtual 140, 3) := by decide +kernel
theorem dX3_homeTax_8 : decode cX3_homeTax 8 = .ok (.ireturn, 1) := by decide +kernel
set_option maxRecDepth 20000 in
theorem ggX3_hostIncome_X3_personAt : GoodIn wsX3_hostIncome wsX3_personAt := goodIn_ca (goodIn_r _ [5, 6, 7, 8, 9, 10, 11, 12, 13, 14, 15, 16, 17, 18, 19, 20, 21, 22, 23, 24, 25, 26, 27, 28, 29, 30, 31, 32, 70, 71, 72, 73, 74] (by decide +kernel) (by decide +kernel)) (goodIn_sub (fun _ h => List.mem_cons_of_mem _ (List.mem_append_right _ h)) (by decide +kernel))
set_option maxRecDepth 20000 in
theorem gX3_hostIncome_X3_personAt : GoodIn wsX3_hostIncome (wsV RX3 77 RX3 yX3_personAt wsX3_personAt) := goodIn_app (goodIn_of _ (by decide +kernel)) ggX3_hostIncome_X3_personAt
set_option maxRecDepth 20000 in
theorem ggX3_hostIncome_X2_incomeAtHost : GoodIn wsX3_hostIncome wsX2_incomeAtHost := goodIn_r _ [37, 38, 39, 40, 41, 42, 43, 36, 44, 45, 46, 47, 48, 49, 50, 51, 52, 53, 54, 55, 56, 57, 58, 59, 60, 61, 11, 12, 13, 14, 15, 62, 17, 18, 19, 20, 21, 22, 23, 24, 25, 26, 27, 28, 29, 30, 31, 32, 63, 64, 65, 66, 67, 68, 69, 75, 76, 77, 78, 79, 80, 81, 82, 72, 73, 74, 83, 84, 85] (by decide +kernel) (by decide +kernel)
set_option maxRecDepth 20000 in
theorem gX3_hostIncome_X2_incomeAtHost : GoodIn wsX3_hostIncome (wsV RX3 143 RX2 yX2_incomeAtHost wsX2_incomeAtHost) := goodIn_app (goodIn_of _ (by decide +kernel)) ggX3_hostIncome_X2_incomeAtHost
theorem dX3_hostIncome_0 : decode cX3_hostIncome 0 = .ok (.aload_n 0, 1) := by decide +kernel
theorem dX3_hostIncome_1 : decode cX3_hostIncome 1 = .ok (.iload_n 1, 1) := by decide +kernel
theorem dX3_hostIncome_2 : decode cX3_hostIncome 2 = .ok (.invokevirtual 77, 3) := by decide +kernel
theorem dX3_hostIncome_5 : decode cX3_hostIncome 5 = .ok (.invokevirtual 143, 3) := by decide +kernel
theorem dX3_hostIncome_8 : decode cX3_hostIncome 8 = .ok (.ireturn, 1) := by decide +kernel
set_option maxRecDepth 20000 in
theorem ggX3_hostTax_X3_personAt : GoodIn wsX3_hostTax wsX3_personAt := goodIn_ca (goodIn_r _ [5, 6, 7, 8, 9, 10, 11, 12, 13, 14, 15, 16, 17, 18, 19, 20, 21, 22, 23, 24, 25, 26, 27, 28, 29, 30, 31, 32, 95, 96, 97, 98, 99] (by decide +kernel) (by decide +kernel)) (goodIn_sub (fun _ h => List.mem_cons_of_mem _ (List.mem_append_right _ h)) (by decide +kernel))
set_option maxRecDepth 20000 in
theorem gX3_hostTax_X3_personAt : GoodIn wsX3_hostTax (wsV RX3 77 RX3 yX3_personAt wsX3_personAt) := goodIn_app (goodIn_of _ (by decide +kernel)) ggX3_hostTax_X3_personAt
set_option maxRecDepth 20000 in
theorem ggX3_hostTax_X2_taxAtHost : GoodIn wsX3_hostTax wsX2_taxAtHost := goodIn_r _ [37, 38, 39, 40, 41, 36, 42, 43, 44, 45, 46, 47, 48, 49, 50, 51, 52, 53, 54, 55, 56, 57, 58, 59, 60, 61, 62, 63, 64, 65, 66, 11, 12, 13, 14, 15, 67, 17, 18, 19, 20, 21, 22, 23, 24, 25, 26, 27, 28, 29, 30, 31, 32, 68, 69, 70, 71, 72, 73, 74, 75, 76, 77, 78, 79, 80, 81, 82, 83, 84, 85, 86, 87, 88, 89, 90, 91, 92, 93, 94, 100, 101, 102, 103, 104, 105, 106, 107, 97, 98, 99, 108, 109, 110, 111, 112, 113, 114, 115] (by decide +kernel) (by decide +kernel)
set_option maxRecDepth 20000 in
theorem gX3_hostTax_X2_taxAtHost : GoodIn wsX3_hostTax (wsV RX3 146 RX2 yX2_taxAtHost wsX2_taxAtHost) := goodIn_app (goodIn_of _ (by decide +kernel)) ggX3_hostTax_X2_taxAtHost
theorem dX3_hostTax_0 : decode cX3_hostTax 0 = .ok (.aload_n 0, 1) := by decide +kernel
theorem dX3_hostTax_1 : decode cX3_hostTax 1 = .ok (.iload_n 1, 1) := by decide +kernel
theorem dX3_hostTax_2 : decode cX3_hostTax 2 = .ok (.invokevirtual 77, 3) := by decide +kernel
theorem dX3_hostTax_5 : decode cX3_hostTax 5 = .ok (.invokevirtual 146, 3) := by decide +kernel
theorem dX3_hostTax_8 : decode cX3_hostTax 8 = .ok (.ireturn, 1) := by decide +kernel
set_option maxRecDepth 20000 in
theorem ggX3_borne_X3_personAt : GoodIn wsX3_borne wsX3_personAt := goodIn_ca (goodIn_r _ [5, 6, 7, 8, 9, 10, 11, 12, 13, 14, 15, 16, 17, 18, 19, 20, 21, 22, 23, 24, 25, 26, 27, 28, 29, 30, 31, 32, 94, 95, 96, 97, 98] (by decide +kernel) (by decide +kernel)) (goodIn_sub (fun _ h => List.mem_cons_of_mem _ (List.mem_append_right _ h)) (by decide +kernel))
set_option maxRecDepth 20000 in
theorem gX3_borne_X3_personAt : GoodIn wsX3_borne (wsV RX3 77 RX3 yX3_personAt wsX3_personAt) := goodIn_app (goodIn_of _ (by decide +kernel)) ggX3_borne_X3_personAt
set_option maxRecDepth 20000 in
theorem ggX3_borne_X2_borneInYear : GoodIn wsX3_borne wsX2_borneInYear := goodIn_r _ [37, 38, 39, 40, 36, 41, 42, 43, 44, 45, 46, 47, 48, 49, 50, 51, 52, 53, 54, 55, 56, 57, 58, 59, 60, 61, 62, 63, 64, 65, 66, 67, 68, 69, 70, 71, 72, 73, 74, 75, 76, 77, 78, 79, 80, 81, 82, 11, 12, 13, 14, 15, 83, 17, 18, 19, 20, 21, 22, 23, 24, 25, 26, 27, 28, 29, 30, 31, 32, 84, 85, 86, 87, 88, 89, 90, 91, 92, 93, 99, 100, 101, 102, 103, 104, 105, 106, 107, 108, 109, 110, 111, 112, 113, 114, 96, 97, 98] (by decide +kernel) (by decide +kernel)
set_option maxRecDepth 20000 in
theorem gX3_borne_X2_borneInYear : GoodIn wsX3_borne (wsV RX3 149 RX2 yX2_borneInYear wsX2_borneInYear) := goodIn_app (goodIn_of _ (by decide +kernel)) ggX3_borne_X2_borneInYear
theorem dX3_borne_0 : decode cX3_borne 0 = .ok (.aload_n 0, 1) := by decide +kernel
theorem dX3_borne_1 : decode cX3_borne 1 = .ok (.iload_n 1, 1) := by decide +kernel
theorem dX3_borne_2 : decode cX3_borne 2 = .ok (.invokevirtual 77, 3) := by decide +kernel
theorem dX3_borne_5 : decode cX3_borne 5 = .ok (.invokevirtual 149, 3) := by decide +kernel
theorem dX3_borne_8 : decode cX3_borne 8 = .ok (.ireturn, 1) := by decide +kernel
set_option maxRecDepth 20000 in
theorem ggX3_settlement_X3_personAt : GoodIn wsX3_settlement wsX3_personAt := goodIn_ca (goodIn_r _ [5, 6, 7, 8, 9, 10, 11, 12, 13, 14, 15, 16, 17, 18, 19, 20, 21, 22, 23, 24, 25, 26, 27, 28, 29, 30, 31, 32, 102, 103, 104, 105, 106] (by decide +kernel) (by decide +kernel)) (goodIn_sub (fun _ h => List.mem_cons_of_mem _ (List.mem_append_right _ h)) (by decide +kernel))
set_option maxRecDepth 20000 in
theorem gX3_settlement_X3_personAt : GoodIn wsX3_settlement (wsV RX3 77 RX3 yX3_personAt wsX3_personAt) := goodIn_app (goodIn_of _ (by decide +kernel)) ggX3_settlement_X3_personAt
set_option maxRecDepth 20000 in
theorem ggX3_settlement_X2_settlementOfYear : GoodIn wsX3_settlement wsX2_settlementOfYear := goodIn_r _ [37, 38, 39, 40, 36, 41, 42, 43, 44, 45, 46, 47, 48, 49, 50, 11, 12, 13, 14, 15, 51, 17, 18, 19, 20, 21, 22, 23, 24, 25, 26, 27, 28, 29, 30, 31, 32, 52, 53, 54, 55, 56, 57, 58, 59, 60, 61, 62, 63, 64, 65, 66, 67, 68, 69, 70, 71, 72, 73, 74, 75, 76, 77, 78, 79, 80, 81, 82, 83, 84, 85, 86, 87, 88, 89, 90, 91, 92, 93, 94, 95, 96, 97, 98, 99, 100, 101, 107, 108, 109, 110, 111, 112, 113, 114, 115, 116, 117, 104, 105, 106, 118, 119, 120, 121, 122] (by decide +kernel) (by decide +kernel)
set_option maxRecDepth 20000 in
theorem gX3_settlement_X2_settlementOfYear : GoodIn wsX3_settlement (wsV RX3 152 RX2 yX2_settlementOfYear wsX2_settlementOfYear) := goodIn_app (goodIn_of _ (by decide +kernel)) ggX3_settlement_X2_settlementOfYear
theorem dX3_settlement_0 : decode cX3_settlement 0 = .ok (.aload_n 0, 1) := by decide +kernel
theorem dX3_settlement_1 : decode cX3_settlement 1 = .ok (.iload_n 1, 1) := by decide +kernel
theorem dX3_settlement_2 : decode cX3_settlement 2 = .ok (.invokevirtual 77, 3) := by decide +kernel
theorem dX3_settlement_5 : decode cX3_settlement 5 = .ok (.invokevirtual 152, 3) := by decide +kernel
theorem dX3_settlement_8 : decode cX3_settlement 8 = .ok (.ireturn, 1) := by decide +kernel
set_option maxRecDepth 20000 in
theorem ggX3_cost_X3_personAt : GoodIn wsX3_cost wsX3_personAt := goodIn_ca (goodIn_r _ [5, 6, 7, 8, 9, 10, 11, 12, 13, 14, 15, 16, 17, 18, 19, 20, 21, 22, 23, 24, 25, 26, 27, 28, 29, 30, 31, 32, 133, 134, 135, 136, 137] (by decide +kernel) (by decide +kernel)) (goodIn_sub (fun _ h => List.mem_cons_of_mem _ (List.mem_append_right _ h)) (by decide +kernel))
set_option maxRecDepth 20000 in
theorem gX3_cost_X3_personAt : GoodIn wsX3_cost (wsV RX3 77 RX3 yX3_personAt wsX3_personAt) := goodIn_app (goodIn_of _ (by decide +kernel)) ggX3_cost_X3_personAt
set_option maxRecDepth 20000 in
theorem ggX3_cost_X2_costOfYear : GoodIn wsX3_cost wsX2_costOfYear := goodIn_r _ [37, 38, 39, 40, 36, 41, 42, 43, 44, 45, 46, 47, 48, 49, 50, 51, 52, 53, 54, 55, 56, 57, 58, 59, 60, 61, 62, 63, 64, 65, 66, 67, 68, 69, 70, 11, 12, 13, 14, 15, 71, 17, 18, 19, 20, 21, 22, 23, 24, 25, 26, 27, 28, 29, 30, 31, 32, 72, 73, 74, 75, 76, 77, 78, 79, 80, 81, 82, 83, 84, 85, 86, 87, 88, 89, 90, 91, 92, 93, 94, 95, 96, 97, 98, 99, 100, 101, 102, 103, 104, 105, 106, 107, 108, 109, 110, 111, 112, 113, 114, 115, 116, 117, 118, 119, 120, 121, 122, 123, 124, 125, 126, 127, 128, 129, 130, 131, 132, 138, 139, 140, 141, 142, 143, 144, 145, 135, 136, 137, 146, 147, 148, 149, 150, 151, 152, 153] (by decide +kernel) (by decide +kernel)
set_option maxRecDepth 20000 in
theorem gX3_cost_X2_costOfYear : GoodIn wsX3_cost (wsV RX3 155 RX2 yX2_costOfYear wsX2_costOfYear) := goodIn_app (goodIn_of _ (by decide +kernel)) ggX3_cost_X2_costOfYear
theorem dX3_cost_0 : decode cX3_cost 0 = .ok (.aload_n 0, 1) := by decide +kernel
theorem dX3_cost_1 : decode cX3_cost 1 = .ok (.iload_n 1, 1) := by decide +kernel
theorem dX3_cost_2 : decode cX3_cost 2 = .ok (.invokevirtual 77, 3) := by decide +kernel
theorem dX3_cost_5 : decode cX3_cost 5 = .ok (.invokevirtual 155, 3) := by decide +kernel
theorem dX3_cost_8 : decode cX3_cost 8 = .ok (.ireturn, 1) := by decide +kernel
set_option maxRecDepth 20000 in
theorem ggX3_dearest_Jx4a65c_size_8abf5 : GoodIn wsX3_dearest wsJx4a65c_size_8abf5 := goodIn_r _ [7, 8, 128, 129, 130] (by decide +kernel) (by decide +kernel)
set_option maxRecDepth 20000 in
theorem gX3_dearest_Jx4a65c_size_8abf5_f63Jx4a65c : GoodIn wsX3_dearest (va_wsF RX3 63 RJx4a65c ⟨"java/util/List", "size", "()I"⟩ yJx4a65c_size_8abf5 wsJx4a65c_size_8abf5) := goodIn_app (goodIn_of _ (by decide +kernel)) ggX3_dearest_Jx4a65c_size_8abf5
set_option maxRecDepth 20000 in
theorem ggX3_dearest_Jx4a65c_get_915e3 : GoodIn wsX3_dearest wsJx4a65c_get_915e3 := goodIn_r _ [12, 8, 13, 14, 15, 16, 17, 18, 19, 20, 21, 22, 23, 6, 24, 25, 128, 129, 130] (by decide +kernel) (by decide +kernel)
set_option maxRecDepth 20000 in
theorem gX3_dearest_Jx4a65c_get_915e3_f119Jx4a65c : GoodIn wsX3_dearest (va_wsF RX3 119 RJx4a65c ⟨"java/util/List", "get", "(I)Ljava/lang/Object;"⟩ yJx4a65c_get_915e3 wsJx4a65c_get_915e3) := goodIn_app (goodIn_of _ (by decide +kernel)) ggX3_dearest_Jx4a65c_get_915e3
set_option maxRecDepth 20000 in
theorem ggX3_dearest_X2_costOfYear : GoodIn wsX3_dearest wsX2_costOfYear := goodIn_r _ [30, 31, 32, 33, 29, 34, 35, 36, 37, 38, 39, 40, 41, 42, 43, 44, 45, 46, 47, 48, 49, 50, 51, 52, 53, 54, 55, 56, 57, 58, 59, 60, 61, 62, 63, 4, 5, 6, 7, 8, 64, 10, 11, 12, 13, 14, 15, 16, 17, 18, 19, 20, 21, 22, 23, 24, 25, 65, 66, 67, 68, 69, 70, 71, 72, 73, 74, 75, 76, 77, 78, 79, 80, 81, 82, 83, 84, 85, 86, 87, 88, 89, 90, 91, 92, 93, 94, 95, 96, 97, 98, 99, 100, 101, 102, 103, 104, 105, 106, 107, 108, 109, 110, 111, 112, 113, 114, 115, 116, 117, 118, 119, 120, 121, 122, 123, 124, 125, 131, 132, 133, 134, 135, 136, 137, 138, 128, 129, 130, 139, 140, 141, 142, 143, 144, 145, 146] (by decide +kernel) (by decide +kernel)
set_option maxRecDepth 20000 in
theorem gX3_dearest_X2_costOfYear : GoodIn wsX3_dearest (wsV RX3 155 RX2 yX2_costOfYear wsX2_costOfYear) := goodIn_app (goodIn_of _ (by decide +kernel)) ggX3_dearest_X2_costOfYear
theorem dX3_dearest_0 : decode cX3_dearest 0 = .ok (.iconst (-1), 1) := by decide +kernel
theorem dX3_dearest_1 : decode cX3_dearest 1 = .ok (.istore_n 1, 1) := by decide +kernel
theorem dX3_dearest_2 : decode cX3_dearest 2 = .ok (.iconst 0, 1) := by decide +kernel
theorem dX3_dearest_3 : decode cX3_dearest 3 = .ok (.istore_n 2, 1) := by decide +kernel
theorem dX3_dearest_4 : decode cX3_dearest 4 = .ok (.iconst 0, 1) := by decide +kernel
theorem dX3_dearest_5 : decode cX3_dearest 5 = .ok (.istore_n 3, 1) := by decide +kernel
theorem dX3_dearest_6 : decode cX3_dearest 6 = .ok (.iload_n 3, 1) := by decide +kernel
theorem dX3_dearest_7 : decode cX3_dearest 7 = .ok (.aload_n 0, 1) := by decide +kernel
theorem dX3_dearest_8 : decode cX3_dearest 8 = .ok (.getfield 16, 3) := by decide +kernel
theorem dX3_dearest_11 : decode cX3_dearest 11 = .ok (.invokeinterface 63 1, 5) := by decide +kernel
theorem dX3_dearest_16 : decode cX3_dearest 16 = .ok (.if_icmp .ge 42, 3) := by decide +kernel
theorem dX3_dearest_19 : decode cX3_dearest 19 = .ok (.aload_n 0, 1) := by decide +kernel
theorem dX3_dearest_20 : decode cX3_dearest 20 = .ok (.getfield 16, 3) := by decide +kernel
theorem dX3_dearest_23 : decode cX3_dearest 23 = .ok (.iload_n 3, 1) := by decide +kernel
theorem dX3_dearest_24 : decode cX3_dearest 24 = .ok (.invokeinterface 119 2, 5) := by decide +kernel
theorem dX3_dearest_29 : decode cX3_dearest 29 = .ok (.checkcast 72, 3) := by decide +kernel
theorem dX3_dearest_32 : decode cX3_dearest 32 = .ok (.invokevirtual 155, 3) := by decide +kernel
theorem dX3_dearest_35 : decode cX3_dearest 35 = .ok (.istore 4, 2) := by decide +kernel
theorem dX3_dearest_37 : decode cX3_dearest 37 = .ok (.iload_n 1, 1) := by decide +kernel
theorem dX3_dearest_38 : decode cX3_dearest 38 = .ok (.ifCond .lt 9, 3) := by decide +kernel
theorem dX3_dearest_41 : decode cX3_dearest 41 = .ok (.iload 4, 2) := by decide +kernel
theorem dX3_dearest_43 : decode cX3_dearest 43 = .ok (.iload_n 2, 1) := by decide +kernel
theorem dX3_dearest_44 : decode cX3_dearest 44 = .ok (.if_icmp .le 8, 3) := by decide +kernel
theorem dX3_dearest_47 : decode cX3_dearest 47 = .ok (.iload_n 3, 1) := by decide +kernel
theorem dX3_dearest_48 : decode cX3_dearest 48 = .ok (.istore_n 1, 1) := by decide +kernel
theorem dX3_dearest_49 : decode cX3_dearest 49 = .ok (.iload 4, 2) := by decide +kernel
theorem dX3_dearest_51 : decode cX3_dearest 51 = .ok (.istore_n 2, 1) := by decide +kernel
theorem dX3_dearest_52 : decode cX3_dearest 52 = .ok (.iinc 3 1, 3) := by decide +kernel
theorem dX3_dearest_55 : decode cX3_dearest 55 = .ok (.goto (-49), 3) := by decide +kernel
theorem dX3_dearest_58 : decode cX3_dearest 58 = .ok (.iload_n 1, 1) := by decide +kernel
theorem dX3_dearest_59 : decode cX3_dearest 59 = .ok (.ireturn, 1) := by decide +kernel
set_option maxRecDepth 20000 in
theorem ggX3_landAt_Jx4a65c_size_8abf5 : GoodIn wsX3_landAt wsJx4a65c_size_8abf5 := goodIn_r _ [9, 10, 30, 31, 32] (by decide +kernel) (by decide +kernel)
set_option maxRecDepth 20000 in
theorem gX3_landAt_Jx4a65c_size_8abf5_f63Jx4a65c : GoodIn wsX3_landAt (va_wsF RX3 63 RJx4a65c ⟨"java/util/List", "size", "()I"⟩ yJx4a65c_size_8abf5 wsJx4a65c_size_8abf5) := goodIn_app (goodIn_of _ (by decide +kernel)) ggX3_landAt_Jx4a65c_size_8abf5
set_option maxRecDepth 20000 in
theorem ggX3_landAt_Jx4a65c_get_915e3 : GoodIn wsX3_landAt wsJx4a65c_get_915e3 := goodIn_r _ [14, 10, 15, 16, 17, 18, 19, 20, 21, 22, 23, 24, 25, 8, 26, 27, 30, 31, 32] (by decide +kernel) (by decide +kernel)
set_option maxRecDepth 20000 in
theorem gX3_landAt_Jx4a65c_get_915e3_f119Jx4a65c : GoodIn wsX3_landAt (va_wsF RX3 119 RJx4a65c ⟨"java/util/List", "get", "(I)Ljava/lang/Object;"⟩ yJx4a65c_get_915e3 wsJx4a65c_get_915e3) := goodIn_app (goodIn_of _ (by decide +kernel)) ggX3_landAt_Jx4a65c_get_915e3
theorem dX3_landAt_0 : decode cX3_landAt 0 = .ok (.iload_n 1, 1) := by decide +kernel
theorem dX3_landAt_1 : decode cX3_landAt 1 = .ok (.ifCond .lt 16, 3) := by decide +kernel
theorem dX3_landAt_4 : decode cX3_landAt 4 = .ok (.iload_n 1, 1) := by decide +kernel
theorem dX3_landAt_5 : decode cX3_landAt 5 = .ok (.aload_n 0, 1) := by decide +kernel
theorem dX3_landAt_6 : decode cX3_landAt 6 = .ok (.getfield 10, 3) := by decide +kernel
theorem dX3_landAt_9 : decode cX3_landAt 9 = .ok (.invokeinterface 63 1, 5) := by decide +kernel
theorem dX3_landAt_14 : decode cX3_landAt 14 = .ok (.if_icmp .lt 13, 3) := by decide +kernel
theorem dX3_landAt_17 : decode cX3_landAt 17 = .ok (.new 55, 3) := by decide +kernel
theorem dX3_landAt_20 : decode cX3_landAt 20 = .ok (.dup, 1) := by decide +kernel
theorem dX3_landAt_21 : decode cX3_landAt 21 = .ok (.ldc 158, 2) := by decide +kernel
theorem dX3_landAt_23 : decode cX3_landAt 23 = .ok (.invokespecial 59, 3) := by decide +kernel
theorem dX3_landAt_26 : decode cX3_landAt 26 = .ok (.athrow, 1) := by decide +kernel
theorem dX3_landAt_27 : decode cX3_landAt 27 = .ok (.aload_n 0, 1) := by decide +kernel
theorem dX3_landAt_28 : decode cX3_landAt 28 = .ok (.getfield 10, 3) := by decide +kernel
theorem dX3_landAt_31 : decode cX3_landAt 31 = .ok (.iload_n 1, 1) := by decide +kernel
theorem dX3_landAt_32 : decode cX3_landAt 32 = .ok (.invokeinterface 119 2, 5) := by decide +kernel
theorem dX3_landAt_37 : decode cX3_landAt 37 = .ok (.checkcast 19, 3) := by decide +kernel
theorem dX3_landAt_40 : decode cX3_landAt 40 = .ok (.areturn, 1) := by decide +kernel
set_option maxRecDepth 20000 in
theorem ggX3_personAt_Jx4a65c_size_8abf5 : GoodIn wsX3_personAt wsJx4a65c_size_8abf5 := goodIn_r _ [9, 10, 30, 31, 32] (by decide +kernel) (by decide +kernel)
set_option maxRecDepth 20000 in
theorem gX3_personAt_Jx4a65c_size_8abf5_f63Jx4a65c : GoodIn wsX3_personAt (va_wsF RX3 63 RJx4a65c ⟨"java/util/List", "size", "()I"⟩ yJx4a65c_size_8abf5 wsJx4a65c_size_8abf5) := goodIn_app (goodIn_of _ (by decide +kernel)) ggX3_personAt_Jx4a65c_size_8abf5
set_option maxRecDepth 20000 in
theorem ggX3_personAt_Jx4a65c_get_915e3 : GoodIn wsX3_personAt wsJx4a65c_get_915e3 := goodIn_r _ [14, 10, 15, 16, 17, 18, 19, 20, 21, 22, 23, 24, 25, 8, 26, 27, 30, 31, 32] (by decide +kernel) (by decide +kernel)
set_option maxRecDepth 20000 in
theorem gX3_personAt_Jx4a65c_get_915e3_f119Jx4a65c : GoodIn wsX3_personAt (va_wsF RX3 119 RJx4a65c ⟨"java/util/List", "get", "(I)Ljava/lang/Object;"⟩ yJx4a65c_get_915e3 wsJx4a65c_get_915e3) := goodIn_app (goodIn_of _ (by decide +kernel)) ggX3_personAt_Jx4a65c_get_915e3
theorem dX3_personAt_0 : decode cX3_personAt 0 = .ok (.iload_n 1, 1) := by decide +kernel
theorem dX3_personAt_1 : decode cX3_personAt 1 = .ok (.ifCond .lt 16, 3) := by decide +kernel
theorem dX3_personAt_4 : decode cX3_personAt 4 = .ok (.iload_n 1, 1) := by decide +kernel
theorem dX3_personAt_5 : decode cX3_personAt 5 = .ok (.aload_n 0, 1) := by decide +kernel
theorem dX3_personAt_6 : decode cX3_personAt 6 = .ok (.getfield 16, 3) := by decide +kernel
theorem dX3_personAt_9 : decode cX3_personAt 9 = .ok (.invokeinterface 63 1, 5) := by decide +kernel
theorem dX3_personAt_14 : decode cX3_personAt 14 = .ok (.if_icmp .lt 13, 3) := by decide +kernel
theorem dX3_personAt_17 : decode cX3_personAt 17 = .ok (.new 114, 3) := by decide +kernel
theorem dX3_personAt_20 : decode cX3_personAt 20 = .ok (.dup, 1) := by decide +kernel
theorem dX3_personAt_21 : decode cX3_personAt 21 = .ok (.ldc 160, 2) := by decide +kernel
theorem dX3_personAt_23 : decode cX3_personAt 23 = .ok (.invokespecial 118, 3) := by decide +kernel
theorem dX3_personAt_26 : decode cX3_personAt 26 = .ok (.athrow, 1) := by decide +kernel
theorem dX3_personAt_27 : decode cX3_personAt 27 = .ok (.aload_n 0, 1) := by decide +kernel
theorem dX3_personAt_28 : decode cX3_personAt 28 = .ok (.getfield 16, 3) := by decide +kernel
theorem dX3_personAt_31 : decode cX3_personAt 31 = .ok (.iload_n 1, 1) := by decide +kernel
theorem dX3_personAt_32 : decode cX3_personAt 32 = .ok (.invokeinterface 119 2, 5) := by decide +kernel
theorem dX3_personAt_37 : decode cX3_personAt 37 = .ok (.checkcast 72, 3) := by decide +kernel
theorem dX3_personAt_40 : decode cX3_personAt 40 = .ok (.areturn, 1) := by decide +kernel
theorem dX3_requireRange_0 : decode cX3_requireRange 0 = .ok (.iload_n 0, 1) := by decide +kernel
theorem dX3_requireRange_1 : decode cX3_requireRange 1 = .ok (.iload_n 1, 1) := by decide +kernel
theorem dX3_requireRange_2 : decode cX3_requireRange 2 = .ok (.if_icmp .lt 8, 3) := by decide +kernel
theorem dX3_requireRange_5 : decode cX3_requireRange 5 = .ok (.iload_n 0, 1) := by decide +kernel
theorem dX3_requireRange_6 : decode cX3_requireRange 6 = .ok (.iload_n 2, 1) := by decide +kernel
theorem dX3_requireRange_7 : decode cX3_requireRange 7 = .ok (.if_icmp .le 13, 3) := by decide +kernel
theorem dX3_requireRange_10 : decode cX3_requireRange 10 = .ok (.new 55, 3) := by decide +kernel
theorem dX3_requireRange_13 : decode cX3_requireRange 13 = .ok (.dup, 1) := by decide +kernel
theorem dX3_requireRange_14 : decode cX3_requireRange 14 = .ok (.ldc 162, 2) := by decide +kernel
theorem dX3_requireRange_16 : decode cX3_requireRange 16 = .ok (.invokespecial 59, 3) := by decide +kernel
theorem dX3_requireRange_19 : decode cX3_requireRange 19 = .ok (.athrow, 1) := by decide +kernel
theorem dX3_requireRange_20 : decode cX3_requireRange 20 = .ok (.return_, 1) := by decide +kernel
theorem dX4_init_0 : decode cX4_init 0 = .ok (.aload_n 0, 1) := by decide +kernel
theorem dX4_init_1 : decode cX4_init 1 = .ok (.invokespecial 1, 3) := by decide +kernel
theorem dX4_init_4 : decode cX4_init 4 = .ok (.aload_n 0, 1) := by decide +kernel
theorem dX4_init_5 : decode cX4_init 5 = .ok (.iconst 4, 1) := by decide +kernel
theorem dX4_init_6 : decode cX4_init 6 = .ok (.newarray .int, 2) := by decide +kernel
theorem dX4_init_8 : decode cX4_init 8 = .ok (.putfield 7, 3) := by decide +kernel
theorem dX4_init_11 : decode cX4_init 11 = .ok (.aload_n 0, 1) := by decide +kernel
theorem dX4_init_12 : decode cX4_init 12 = .ok (.iconst 4, 1) := by decide +kernel
theorem dX4_init_13 : decode cX4_init 13 = .ok (.newarray .int, 2) := by decide +kernel
theorem dX4_init_15 : decode cX4_init 15 = .ok (.putfield 13, 3) := by decide +kernel
theorem dX4_init_18 : decode cX4_init 18 = .ok (.aload_n 0, 1) := by decide +kernel
theorem dX4_init_19 : decode cX4_init 19 = .ok (.bipush 12, 2) := by decide +kernel
theorem dX4_init_21 : decode cX4_init 21 = .ok (.newarray .int, 2) := by decide +kernel
theorem dX4_init_23 : decode cX4_init 23 = .ok (.putfield 16, 3) := by decide +kernel
theorem dX4_init_26 : decode cX4_init 26 = .ok (.aload_n 0, 1) := by decide +kernel
theorem dX4_init_27 : decode cX4_init 27 = .ok (.bipush 10, 2) := by decide +kernel
theorem dX4_init_29 : decode cX4_init 29 = .ok (.newarray .int, 2) := by decide +kernel
theorem dX4_init_31 : decode cX4_init 31 = .ok (.putfield 19, 3) := by decide +kernel
theorem dX4_init_34 : decode cX4_init 34 = .ok (.aload_n 0, 1) := by decide +kernel
theorem dX4_init_35 : decode cX4_init 35 = .ok (.bipush 10, 2) := by decide +kernel
theorem dX4_init_37 : decode cX4_init 37 = .ok (.newarray .int, 2) := by decide +kernel
theorem dX4_init_39 : decode cX4_init 39 = .ok (.putfield 22, 3) := by decide +kernel
theorem dX4_init_42 : decode cX4_init 42 = .ok (.aload_n 0, 1) := by decide +kernel
theorem dX4_init_43 : decode cX4_init 43 = .ok (.bipush 10, 2) := by decide +kernel
theorem dX4_init_45 : decode cX4_init 45 = .ok (.newarray .int, 2) := by decide +kernel
theorem dX4_init_47 : decode cX4_init 47 = .ok (.putfield 25, 3) := by decide +kernel
theorem dX4_init_50 : decode cX4_init 50 = .ok (.aload_n 0, 1) := by decide +kernel
theorem dX4_init_51 : decode cX4_init 51 = .ok (.bipush 10, 2) := by decide +kernel
theorem dX4_init_53 : decode cX4_init 53 = .ok (.newarray .int, 2) := by decide +kernel
theorem dX4_init_55 : decode cX4_init 55 = .ok (.putfield 28, 3) := by decide +kernel
theorem dX4_init_58 : decode cX4_init 58 = .ok (.aload_n 0, 1) := by decide +kernel
theorem dX4_init_59 : decode cX4_init 59 = .ok (.bipush 10, 2) := by decide +kernel
theorem dX4_init_61 : decode cX4_init 61 = .ok (.newarray .int, 2) := by decide +kernel
theorem dX4_init_63 : decode cX4_init 63 = .ok (.putfield 31, 3) := by decide +kernel
theorem dX4_init_66 : decode cX4_init 66 = .ok (.aload_n 0, 1) := by decide +kernel
theorem dX4_init_67 : decode cX4_init 67 = .ok (.bipush 10, 2) := by decide +kernel
theorem dX4_init_69 : decode cX4_init 69 = .ok (.newarray .int, 2) := by decide +kernel
theorem dX4_init_71 : decode cX4_init 71 = .ok (.putfield 34, 3) := by decide +kernel
theorem dX4_init_74 : decode cX4_init 74 = .ok (.aload_n 0, 1) := by decide +kernel
theorem dX4_init_75 : decode cX4_init 75 = .ok (.bipush 10, 2) := by decide +kernel
theorem dX4_init_77 : decode cX4_init 77 = .ok (.newarray .int, 2) := by decide +kernel
theorem dX4_init_79 : decode cX4_init 79 = .ok (.putfield 37, 3) := by decide +kernel
theorem dX4_init_82 : decode cX4_init 82 = .ok (.aload_n 0, 1) := by decide +kernel
theorem dX4_init_83 : decode cX4_init 83 = .ok (.bipush 10, 2) := by decide +kernel
theorem dX4_init_85 : decode cX4_init 85 = .ok (.newarray .int, 2) := by decide +kernel
theorem dX4_init_87 : decode cX4_init 87 = .ok (.putfield 40, 3) := by decide +kernel
theorem dX4_init_90 : decode cX4_init 90 = .ok (.aload_n 0, 1) := by decide +kernel
theorem dX4_init_91 : decode cX4_init 91 = .ok (.bipush 60, 2) := by decide +kernel
theorem dX4_init_93 : decode cX4_init 93 = .ok (.newarray .int, 2) := by decide +kernel
theorem dX4_init_95 : decode cX4_init 95 = .ok (.putfield 43, 3) := by decide +kernel
theorem dX4_init_98 : decode cX4_init 98 = .ok (.aload_n 0, 1) := by decide +kernel
theorem dX4_init_99 : decode cX4_init 99 = .ok (.bipush 60, 2) := by decide +kernel
theorem dX4_init_101 : decode cX4_init 101 = .ok (.newarray .int, 2) := by decide +kernel
theorem dX4_init_103 : decode cX4_init 103 = .ok (.putfield 46, 3) := by decide +kernel
theorem dX4_init_106 : decode cX4_init 106 = .ok (.aload_n 0, 1) := by decide +kernel
theorem dX4_init_107 : decode cX4_init 107 = .ok (.bipush 60, 2) := by decide +kernel
theorem dX4_init_109 : decode cX4_init 109 = .ok (.newarray .int, 2) := by decide +kernel
theorem dX4_init_111 : decode cX4_init 111 = .ok (.putfield 49, 3) := by decide +kernel
theorem dX4_init_114 : decode cX4_init 114 = .ok (.iconst 0, 1) := by decide +kernel
theorem dX4_init_115 : decode cX4_init 115 = .ok (.istore_n 1, 1) := by decide +kernel
theorem dX4_init_116 : decode cX4_init 116 = .ok (.iload_n 1, 1) := by decide +kernel
theorem dX4_init_117 : decode cX4_init 117 = .ok (.iconst 4, 1) := by decide +kernel
theorem dX4_init_118 : decode cX4_init 118 = .ok (.if_icmp .ge 60, 3) := by decide +kernel
theorem dX4_init_121 : decode cX4_init 121 = .ok (.aload_n 0, 1) := by decide +kernel
theorem dX4_init_122 : decode cX4_init 122 = .ok (.getfield 7, 3) := by decide +kernel
theorem dX4_init_125 : decode cX4_init 125 = .ok (.iload_n 1, 1) := by decide +kernel
theorem dX4_init_126 : decode cX4_init 126 = .ok (.sipush 10000, 3) := by decide +kernel
theorem dX4_init_129 : decode cX4_init 129 = .ok (.iastore, 1) := by decide +kernel
theorem dX4_init_130 : decode cX4_init 130 = .ok (.aload_n 0, 1) := by decide +kernel
theorem dX4_init_131 : decode cX4_init 131 = .ok (.getfield 13, 3) := by decide +kernel
theorem dX4_init_134 : decode cX4_init 134 = .ok (.iload_n 1, 1) := by decide +kernel
theorem dX4_init_135 : decode cX4_init 135 = .ok (.ldc 52, 2) := by decide +kernel
theorem dX4_init_137 : decode cX4_init 137 = .ok (.iastore, 1) := by decide +kernel
theorem dX4_init_138 : decode cX4_init 138 = .ok (.aload_n 0, 1) := by decide +kernel
theorem dX4_init_139 : decode cX4_init 139 = .ok (.getfield 16, 3) := by decide +kernel
theorem dX4_init_142 : decode cX4_init 142 = .ok (.iconst 3, 1) := by decide +kernel
theorem dX4_init_143 : decode cX4_init 143 = .ok (.iload_n 1, 1) := by decide +kernel
theorem dX4_init_144 : decode cX4_init 144 = .ok (.imul, 1) := by decide +kernel
theorem dX4_init_145 : decode cX4_init 145 = .ok (.bipush 10, 2) := by decide +kernel
theorem dX4_init_147 : decode cX4_init 147 = .ok (.iastore, 1) := by decide +kernel
theorem dX4_init_148 : decode cX4_init 148 = .ok (.aload_n 0, 1) := by decide +kernel
theorem dX4_init_149 : decode cX4_init 149 = .ok (.getfield 16, 3) := by decide +kernel
theorem dX4_init_152 : decode cX4_init 152 = .ok (.iconst 3, 1) := by decide +kernel
theorem dX4_init_153 : decode cX4_init 153 = .ok (.iload_n 1, 1) := by decide +kernel
theorem dX4_init_154 : decode cX4_init 154 = .ok (.imul, 1) := by decide +kernel
theorem dX4_init_155 : decode cX4_init 155 = .ok (.iconst 1, 1) := by decide +kernel
theorem dX4_init_156 : decode cX4_init 156 = .ok (.iadd, 1) := by decide +kernel
theorem dX4_init_157 : decode cX4_init 157 = .ok (.bipush 20, 2) := by decide +kernel
theorem dX4_init_159 : decode cX4_init 159 = .ok (.iastore, 1) := by decide +kernel
theorem dX4_init_160 : decode cX4_init 160 = .ok (.aload_n 0, 1) := by decide +kernel
theorem dX4_init_161 : decode cX4_init 161 = .ok (.getfield 16, 3) := by decide +kernel
theorem dX4_init_164 : decode cX4_init 164 = .ok (.iconst 3, 1) := by decide +kernel
theorem dX4_init_165 : decode cX4_init 165 = .ok (.iload_n 1, 1) := by decide +kernel
theorem dX4_init_166 : decode cX4_init 166 = .ok (.imul, 1) := by decide +kernel
theorem dX4_init_167 : decode cX4_init 167 = .ok (.iconst 2, 1) := by decide +kernel
theorem dX4_init_168 : decode cX4_init 168 = .ok (.iadd, 1) := by decide +kernel
theorem dX4_init_169 : decode cX4_init 169 = .ok (.bipush 40, 2) := by decide +kernel
theorem dX4_init_171 : decode cX4_init 171 = .ok (.iastore, 1) := by decide +kernel
theorem dX4_init_172 : decode cX4_init 172 = .ok (.iinc 1 1, 3) := by decide +kernel
theorem dX4_init_175 : decode cX4_init 175 = .ok (.goto (-59), 3) := by decide +kernel
theorem dX4_init_178 : decode cX4_init 178 = .ok (.return_, 1) := by decide +kernel
theorem dX4_thrown_0 : decode cX4_thrown 0 = .ok (.aload_n 0, 1) := by decide +kernel
theorem dX4_thrown_1 : decode cX4_thrown 1 = .ok (.getfield 53, 3) := by decide +kernel
theorem dX4_thrown_4 : decode cX4_thrown 4 = .ok (.ireturn, 1) := by decide +kernel
theorem dX4_fails_0 : decode cX4_fails 0 = .ok (.aload_n 0, 1) := by decide +kernel
theorem dX4_fails_1 : decode cX4_fails 1 = .ok (.iload_n 1, 1) := by decide +kernel
theorem dX4_fails_2 : decode cX4_fails 2 = .ok (.putfield 53, 3) := by decide +kernel
theorem dX4_fails_5 : decode cX4_fails 5 = .ok (.iconst 0, 1) := by decide +kernel
theorem dX4_fails_6 : decode cX4_fails 6 = .ok (.ireturn, 1) := by decide +kernel
theorem dX4_in_0 : decode cX4_in 0 = .ok (.iload_n 0, 1) := by decide +kernel
theorem dX4_in_1 : decode cX4_in 1 = .ok (.iload_n 1, 1) := by decide +kernel
theorem dX4_in_2 : decode cX4_in 2 = .ok (.if_icmp .lt 12, 3) := by decide +kernel
theorem dX4_in_5 : decode cX4_in 5 = .ok (.iload_n 0, 1) := by decide +kernel
theorem dX4_in_6 : decode cX4_in 6 = .ok (.iload_n 2, 1) := by decide +kernel
theorem dX4_in_7 : decode cX4_in 7 = .ok (.if_icmp .gt 7, 3) := by decide +kernel
theorem dX4_in_10 : decode cX4_in 10 = .ok (.iconst 1, 1) := by decide +kernel
theorem dX4_in_11 : decode cX4_in 11 = .ok (.goto 4, 3) := by decide +kernel
theorem dX4_in_14 : decode cX4_in 14 = .ok (.iconst 0, 1) := by decide +kernel
theorem dX4_in_15 : decode cX4_in 15 = .ok (.ireturn, 1) := by decide +kernel
set_option maxRecDepth 20000 in
theorem ggX4_isLand_X4_in : GoodIn wsX4_isLand wsX4_in := goodIn_r _ [4] (by decide +kernel) (by decide +kernel)
set_option maxRecDepth 20000 in
theorem gX4_isLand_X4_in : GoodIn wsX4_isLand (va_wsS RX4 57 yX4_in wsX4_in) := goodIn_app (goodIn_of _ (by decide +kernel)) ggX4_isLand_X4_in
theorem dX4_isLand_0 : decode cX4_isLand 0 = .ok (.iload_n 0, 1) := by decide +kernel
theorem dX4_isLand_1 : decode cX4_isLand 1 = .ok (.iconst 0, 1) := by decide +kernel
theorem dX4_isLand_2 : decode cX4_isLand 2 = .ok (.iconst 3, 1) := by decide +kernel
theorem dX4_isLand_3 : decode cX4_isLand 3 = .ok (.invokestatic 57, 3) := by decide +kernel
theorem dX4_isLand_6 : decode cX4_isLand 6 = .ok (.ireturn, 1) := by decide +kernel
set_option maxRecDepth 20000 in
theorem ggX4_isAsked_X4_in : GoodIn wsX4_isAsked wsX4_in := goodIn_r _ [6] (by decide +kernel) (by decide +kernel)
set_option maxRecDepth 20000 in
theorem gX4_isAsked_X4_in : GoodIn wsX4_isAsked (va_wsS RX4 57 yX4_in wsX4_in) := goodIn_app (goodIn_of _ (by decide +kernel)) ggX4_isAsked_X4_in
theorem dX4_isAsked_0 : decode cX4_isAsked 0 = .ok (.aload_n 0, 1) := by decide +kernel
theorem dX4_isAsked_1 : decode cX4_isAsked 1 = .ok (.iload_n 1, 1) := by decide +kernel
theorem dX4_isAsked_2 : decode cX4_isAsked 2 = .ok (.iconst 0, 1) := by decide +kernel
theorem dX4_isAsked_3 : decode cX4_isAsked 3 = .ok (.aload_n 0, 1) := by decide +kernel
theorem dX4_isAsked_4 : decode cX4_isAsked 4 = .ok (.getfield 61, 3) := by decide +kernel
theorem dX4_isAsked_7 : decode cX4_isAsked 7 = .ok (.iconst 1, 1) := by decide +kernel
theorem dX4_isAsked_8 : decode cX4_isAsked 8 = .ok (.isub, 1) := by decide +kernel
theorem dX4_isAsked_9 : decode cX4_isAsked 9 = .ok (.invokestatic 57, 3) := by decide +kernel
theorem dX4_isAsked_12 : decode cX4_isAsked 12 = .ok (.ifCond .eq 7, 3) := by decide +kernel
theorem dX4_isAsked_15 : decode cX4_isAsked 15 = .ok (.iconst 0, 1) := by decide +kernel
theorem dX4_isAsked_16 : decode cX4_isAsked 16 = .ok (.goto 4, 3) := by decide +kernel
theorem dX4_isAsked_19 : decode cX4_isAsked 19 = .ok (.iconst 1, 1) := by decide +kernel
theorem dX4_isAsked_20 : decode cX4_isAsked 20 = .ok (.putfield 53, 3) := by decide +kernel
theorem dX4_isAsked_23 : decode cX4_isAsked 23 = .ok (.aload_n 0, 1) := by decide +kernel
theorem dX4_isAsked_24 : decode cX4_isAsked 24 = .ok (.getfield 53, 3) := by decide +kernel
theorem dX4_isAsked_27 : decode cX4_isAsked 27 = .ok (.ifCond .ne 7, 3) := by decide +kernel
theorem dX4_isAsked_30 : decode cX4_isAsked 30 = .ok (.iconst 1, 1) := by decide +kernel
theorem dX4_isAsked_31 : decode cX4_isAsked 31 = .ok (.goto 4, 3) := by decide +kernel
theorem dX4_isAsked_34 : decode cX4_isAsked 34 = .ok (.iconst 0, 1) := by decide +kernel
theorem dX4_isAsked_35 : decode cX4_isAsked 35 = .ok (.ireturn, 1) := by decide +kernel
theorem dX4_taxOf_0 : decode cX4_taxOf 0 = .ok (.lload_n 2, 1) := by decide +kernel
theorem dX4_taxOf_1 : decode cX4_taxOf 1 = .ok (.aload_n 0, 1) := by decide +kernel
theorem dX4_taxOf_2 : decode cX4_taxOf 2 = .ok (.getfield 7, 3) := by decide +kernel
theorem dX4_taxOf_5 : decode cX4_taxOf 5 = .ok (.iload_n 1, 1) := by decide +kernel
theorem dX4_taxOf_6 : decode cX4_taxOf 6 = .ok (.iaload, 1) := by decide +kernel
theorem dX4_taxOf_7 : decode cX4_taxOf 7 = .ok (.i2l, 1) := by decide +kernel
theorem dX4_taxOf_8 : decode cX4_taxOf 8 = .ok (.lcmp, 1) := by decide +kernel
theorem dX4_taxOf_9 : decode cX4_taxOf 9 = .ok (.ifCond .ge 7, 3) := by decide +kernel
theorem dX4_taxOf_12 : decode cX4_taxOf 12 = .ok (.lload_n 2, 1) := by decide +kernel
theorem dX4_taxOf_13 : decode cX4_taxOf 13 = .ok (.goto 10, 3) := by decide +kernel
theorem dX4_taxOf_16 : decode cX4_taxOf 16 = .ok (.aload_n 0, 1) := by decide +kernel
theorem dX4_taxOf_17 : decode cX4_taxOf 17 = .ok (.getfield 7, 3) := by decide +kernel
theorem dX4_taxOf_20 : decode cX4_taxOf 20 = .ok (.iload_n 1, 1) := by decide +kernel
theorem dX4_taxOf_21 : decode cX4_taxOf 21 = .ok (.iaload, 1) := by decide +kernel
theorem dX4_taxOf_22 : decode cX4_taxOf 22 = .ok (.i2l, 1) := by decide +kernel
theorem dX4_taxOf_23 : decode cX4_taxOf 23 = .ok (.lstore 4, 2) := by decide +kernel
theorem dX4_taxOf_25 : decode cX4_taxOf 25 = .ok (.lload_n 2, 1) := by decide +kernel
theorem dX4_taxOf_26 : decode cX4_taxOf 26 = .ok (.aload_n 0, 1) := by decide +kernel
theorem dX4_taxOf_27 : decode cX4_taxOf 27 = .ok (.getfield 13, 3) := by decide +kernel
theorem dX4_taxOf_30 : decode cX4_taxOf 30 = .ok (.iload_n 1, 1) := by decide +kernel
theorem dX4_taxOf_31 : decode cX4_taxOf 31 = .ok (.iaload, 1) := by decide +kernel
theorem dX4_taxOf_32 : decode cX4_taxOf 32 = .ok (.i2l, 1) := by decide +kernel
theorem dX4_taxOf_33 : decode cX4_taxOf 33 = .ok (.lcmp, 1) := by decide +kernel
theorem dX4_taxOf_34 : decode cX4_taxOf 34 = .ok (.ifCond .ge 10, 3) := by decide +kernel
theorem dX4_taxOf_37 : decode cX4_taxOf 37 = .ok (.lload_n 2, 1) := by decide +kernel
theorem dX4_taxOf_38 : decode cX4_taxOf 38 = .ok (.lload 4, 2) := by decide +kernel
theorem dX4_taxOf_40 : decode cX4_taxOf 40 = .ok (.lsub, 1) := by decide +kernel
theorem dX4_taxOf_41 : decode cX4_taxOf 41 = .ok (.goto 13, 3) := by decide +kernel
theorem dX4_taxOf_44 : decode cX4_taxOf 44 = .ok (.aload_n 0, 1) := by decide +kernel
theorem dX4_taxOf_45 : decode cX4_taxOf 45 = .ok (.getfield 13, 3) := by decide +kernel
theorem dX4_taxOf_48 : decode cX4_taxOf 48 = .ok (.iload_n 1, 1) := by decide +kernel
theorem dX4_taxOf_49 : decode cX4_taxOf 49 = .ok (.iaload, 1) := by decide +kernel
theorem dX4_taxOf_50 : decode cX4_taxOf 50 = .ok (.i2l, 1) := by decide +kernel
theorem dX4_taxOf_51 : decode cX4_taxOf 51 = .ok (.lload 4, 2) := by decide +kernel
theorem dX4_taxOf_53 : decode cX4_taxOf 53 = .ok (.lsub, 1) := by decide +kernel
theorem dX4_taxOf_54 : decode cX4_taxOf 54 = .ok (.lstore 6, 2) := by decide +kernel
theorem dX4_taxOf_56 : decode cX4_taxOf 56 = .ok (.lload_n 2, 1) := by decide +kernel
theorem dX4_taxOf_57 : decode cX4_taxOf 57 = .ok (.lload 4, 2) := by decide +kernel
theorem dX4_taxOf_59 : decode cX4_taxOf 59 = .ok (.lsub, 1) := by decide +kernel
theorem dX4_taxOf_60 : decode cX4_taxOf 60 = .ok (.lload 6, 2) := by decide +kernel
theorem dX4_taxOf_62 : decode cX4_taxOf 62 = .ok (.lsub, 1) := by decide +kernel
theorem dX4_taxOf_63 : decode cX4_taxOf 63 = .ok (.lstore 8, 2) := by decide +kernel
theorem dX4_taxOf_65 : decode cX4_taxOf 65 = .ok (.lload 4, 2) := by decide +kernel
theorem dX4_taxOf_67 : decode cX4_taxOf 67 = .ok (.aload_n 0, 1) := by decide +kernel
theorem dX4_taxOf_68 : decode cX4_taxOf 68 = .ok (.getfield 16, 3) := by decide +kernel
theorem dX4_taxOf_71 : decode cX4_taxOf 71 = .ok (.iconst 3, 1) := by decide +kernel
theorem dX4_taxOf_72 : decode cX4_taxOf 72 = .ok (.iload_n 1, 1) := by decide +kernel
theorem dX4_taxOf_73 : decode cX4_taxOf 73 = .ok (.imul, 1) := by decide +kernel
theorem dX4_taxOf_74 : decode cX4_taxOf 74 = .ok (.iaload, 1) := by decide +kernel
theorem dX4_taxOf_75 : decode cX4_taxOf 75 = .ok (.i2l, 1) := by decide +kernel
theorem dX4_taxOf_76 : decode cX4_taxOf 76 = .ok (.lmul, 1) := by decide +kernel
theorem dX4_taxOf_77 : decode cX4_taxOf 77 = .ok (.lload 6, 2) := by decide +kernel
theorem dX4_taxOf_79 : decode cX4_taxOf 79 = .ok (.aload_n 0, 1) := by decide +kernel
theorem dX4_taxOf_80 : decode cX4_taxOf 80 = .ok (.getfield 16, 3) := by decide +kernel
theorem dX4_taxOf_83 : decode cX4_taxOf 83 = .ok (.iconst 3, 1) := by decide +kernel
theorem dX4_taxOf_84 : decode cX4_taxOf 84 = .ok (.iload_n 1, 1) := by decide +kernel
theorem dX4_taxOf_85 : decode cX4_taxOf 85 = .ok (.imul, 1) := by decide +kernel
theorem dX4_taxOf_86 : decode cX4_taxOf 86 = .ok (.iconst 1, 1) := by decide +kernel
theorem dX4_taxOf_87 : decode cX4_taxOf 87 = .ok (.iadd, 1) := by decide +kernel
theorem dX4_taxOf_88 : decode cX4_taxOf 88 = .ok (.iaload, 1) := by decide +kernel
theorem dX4_taxOf_89 : decode cX4_taxOf 89 = .ok (.i2l, 1) := by decide +kernel
theorem dX4_taxOf_90 : decode cX4_taxOf 90 = .ok (.lmul, 1) := by decide +kernel
theorem dX4_taxOf_91 : decode cX4_taxOf 91 = .ok (.ladd, 1) := by decide +kernel
theorem dX4_taxOf_92 : decode cX4_taxOf 92 = .ok (.lload 8, 2) := by decide +kernel
theorem dX4_taxOf_94 : decode cX4_taxOf 94 = .ok (.aload_n 0, 1) := by decide +kernel
theorem dX4_taxOf_95 : decode cX4_taxOf 95 = .ok (.getfield 16, 3) := by decide +kernel
theorem dX4_taxOf_98 : decode cX4_taxOf 98 = .ok (.iconst 3, 1) := by decide +kernel
theorem dX4_taxOf_99 : decode cX4_taxOf 99 = .ok (.iload_n 1, 1) := by decide +kernel
theorem dX4_taxOf_100 : decode cX4_taxOf 100 = .ok (.imul, 1) := by decide +kernel
theorem dX4_taxOf_101 : decode cX4_taxOf 101 = .ok (.iconst 2, 1) := by decide +kernel
theorem dX4_taxOf_102 : decode cX4_taxOf 102 = .ok (.iadd, 1) := by decide +kernel
theorem dX4_taxOf_103 : decode cX4_taxOf 103 = .ok (.iaload, 1) := by decide +kernel
theorem dX4_taxOf_104 : decode cX4_taxOf 104 = .ok (.i2l, 1) := by decide +kernel
theorem dX4_taxOf_105 : decode cX4_taxOf 105 = .ok (.lmul, 1) := by decide +kernel
theorem dX4_taxOf_106 : decode cX4_taxOf 106 = .ok (.ladd, 1) := by decide +kernel
theorem dX4_taxOf_107 : decode cX4_taxOf 107 = .ok (.ldc2_w 64, 3) := by decide +kernel
theorem dX4_taxOf_110 : decode cX4_taxOf 110 = .ok (.ldiv, 1) := by decide +kernel
theorem dX4_taxOf_111 : decode cX4_taxOf 111 = .ok (.lreturn, 1) := by decide +kernel
set_option maxRecDepth 20000 in
theorem ggX4_gross_X4_taxOf : GoodIn wsX4_gross wsX4_taxOf := goodIn_r _ [6, 7, 8, 9, 10, 11, 12, 13, 14, 15, 16, 17, 18, 19, 20, 21, 22, 23, 24, 25, 26] (by decide +kernel) (by decide +kernel)
set_option maxRecDepth 20000 in
theorem gX4_gross_X4_taxOf : GoodIn wsX4_gross (wsV RX4 67 RX4 yX4_taxOf wsX4_taxOf) := goodIn_app (goodIn_of _ (by decide +kernel)) ggX4_gross_X4_taxOf
theorem dX4_gross_0 : decode cX4_gross 0 = .ok (.iconst (-1), 1) := by decide +kernel
theorem dX4_gross_1 : decode cX4_gross 1 = .ok (.istore 4, 2) := by decide +kernel
theorem dX4_gross_3 : decode cX4_gross 3 = .ok (.ldc 66, 2) := by decide +kernel
theorem dX4_gross_5 : decode cX4_gross 5 = .ok (.istore 5, 2) := by decide +kernel
theorem dX4_gross_7 : decode cX4_gross 7 = .ok (.iload 5, 2) := by decide +kernel
theorem dX4_gross_9 : decode cX4_gross 9 = .ok (.iload 4, 2) := by decide +kernel
theorem dX4_gross_11 : decode cX4_gross 11 = .ok (.isub, 1) := by decide +kernel
theorem dX4_gross_12 : decode cX4_gross 12 = .ok (.iconst 1, 1) := by decide +kernel
theorem dX4_gross_13 : decode cX4_gross 13 = .ok (.if_icmp .le 70, 3) := by decide +kernel
theorem dX4_gross_16 : decode cX4_gross 16 = .ok (.iload 4, 2) := by decide +kernel
theorem dX4_gross_18 : decode cX4_gross 18 = .ok (.iload 5, 2) := by decide +kernel
theorem dX4_gross_20 : decode cX4_gross 20 = .ok (.iload 4, 2) := by decide +kernel
theorem dX4_gross_22 : decode cX4_gross 22 = .ok (.isub, 1) := by decide +kernel
theorem dX4_gross_23 : decode cX4_gross 23 = .ok (.iconst 2, 1) := by decide +kernel
theorem dX4_gross_24 : decode cX4_gross 24 = .ok (.idiv, 1) := by decide +kernel
theorem dX4_gross_25 : decode cX4_gross 25 = .ok (.iadd, 1) := by decide +kernel
theorem dX4_gross_26 : decode cX4_gross 26 = .ok (.istore 6, 2) := by decide +kernel
theorem dX4_gross_28 : decode cX4_gross 28 = .ok (.aload_n 0, 1) := by decide +kernel
theorem dX4_gross_29 : decode cX4_gross 29 = .ok (.iload_n 1, 1) := by decide +kernel
theorem dX4_gross_30 : decode cX4_gross 30 = .ok (.lload_n 2, 1) := by decide +kernel
theorem dX4_gross_31 : decode cX4_gross 31 = .ok (.iload 6, 2) := by decide +kernel
theorem dX4_gross_33 : decode cX4_gross 33 = .ok (.i2l, 1) := by decide +kernel
theorem dX4_gross_34 : decode cX4_gross 34 = .ok (.ladd, 1) := by decide +kernel
theorem dX4_gross_35 : decode cX4_gross 35 = .ok (.invokevirtual 67, 3) := by decide +kernel
theorem dX4_gross_38 : decode cX4_gross 38 = .ok (.iload 6, 2) := by decide +kernel
theorem dX4_gross_40 : decode cX4_gross 40 = .ok (.i2l, 1) := by decide +kernel
theorem dX4_gross_41 : decode cX4_gross 41 = .ok (.lcmp, 1) := by decide +kernel
theorem dX4_gross_42 : decode cX4_gross 42 = .ok (.ifCond .gt 7, 3) := by decide +kernel
theorem dX4_gross_45 : decode cX4_gross 45 = .ok (.iconst 1, 1) := by decide +kernel
theorem dX4_gross_46 : decode cX4_gross 46 = .ok (.goto 4, 3) := by decide +kernel
theorem dX4_gross_49 : decode cX4_gross 49 = .ok (.iconst 0, 1) := by decide +kernel
theorem dX4_gross_50 : decode cX4_gross 50 = .ok (.istore 7, 2) := by decide +kernel
theorem dX4_gross_52 : decode cX4_gross 52 = .ok (.iload 7, 2) := by decide +kernel
theorem dX4_gross_54 : decode cX4_gross 54 = .ok (.ifCond .eq 8, 3) := by decide +kernel
theorem dX4_gross_57 : decode cX4_gross 57 = .ok (.iload 6, 2) := by decide +kernel
theorem dX4_gross_59 : decode cX4_gross 59 = .ok (.goto 5, 3) := by decide +kernel
theorem dX4_gross_62 : decode cX4_gross 62 = .ok (.iload 5, 2) := by decide +kernel
theorem dX4_gross_64 : decode cX4_gross 64 = .ok (.istore 5, 2) := by decide +kernel
theorem dX4_gross_66 : decode cX4_gross 66 = .ok (.iload 7, 2) := by decide +kernel
theorem dX4_gross_68 : decode cX4_gross 68 = .ok (.ifCond .eq 8, 3) := by decide +kernel
theorem dX4_gross_71 : decode cX4_gross 71 = .ok (.iload 4, 2) := by decide +kernel
theorem dX4_gross_73 : decode cX4_gross 73 = .ok (.goto 5, 3) := by decide +kernel
theorem dX4_gross_76 : decode cX4_gross 76 = .ok (.iload 6, 2) := by decide +kernel
theorem dX4_gross_78 : decode cX4_gross 78 = .ok (.istore 4, 2) := by decide +kernel
theorem dX4_gross_80 : decode cX4_gross 80 = .ok (.goto (-73), 3) := by decide +kernel
theorem dX4_gross_83 : decode cX4_gross 83 = .ok (.iload 5, 2) := by decide +kernel
theorem dX4_gross_85 : decode cX4_gross 85 = .ok (.ireturn, 1) := by decide +kernel
set_option maxRecDepth 20000 in
theorem ggX4_setLimits_X4_isLand : GoodIn wsX4_setLimits wsX4_isLand := goodIn_r _ [8, 9, 10, 7, 11] (by decide +kernel) (by decide +kernel)
set_option maxRecDepth 20000 in
theorem gX4_setLimits_X4_isLand : GoodIn wsX4_setLimits (va_wsS RX4 71 yX4_isLand wsX4_isLand) := goodIn_app (goodIn_of _ (by decide +kernel)) ggX4_setLimits_X4_isLand
set_option maxRecDepth 20000 in
theorem ggX4_setLimits_X4_in : GoodIn wsX4_setLimits wsX4_in := goodIn_r _ [11] (by decide +kernel) (by decide +kernel)
set_option maxRecDepth 20000 in
theorem gX4_setLimits_X4_in : GoodIn wsX4_setLimits (va_wsS RX4 57 yX4_in wsX4_in) := goodIn_app (goodIn_of _ (by decide +kernel)) ggX4_setLimits_X4_in
theorem dX4_setLimits_0 : decode cX4_setLimits 0 = .ok (.aload_n 0, 1) := by decide +kernel
theorem dX4_setLimits_1 : decode cX4_setLimits 1 = .ok (.iload_n 1, 1) := by decide +kernel
theorem dX4_setLimits_2 : decode cX4_setLimits 2 = .ok (.invokestatic 71, 3) := by decide +kernel
theorem dX4_setLimits_5 : decode cX4_setLimits 5 = .ok (.ifCond .eq 27, 3) := by decide +kernel
theorem dX4_setLimits_8 : decode cX4_setLimits 8 = .ok (.iload_n 2, 1) := by decide +kernel
theorem dX4_setLimits_9 : decode cX4_setLimits 9 = .ok (.iconst 0, 1) := by decide +kernel
theorem dX4_setLimits_10 : decode cX4_setLimits 10 = .ok (.ldc 75, 2) := by decide +kernel
theorem dX4_setLimits_12 : decode cX4_setLimits 12 = .ok (.invokestatic 57, 3) := by decide +kernel
theorem dX4_setLimits_15 : decode cX4_setLimits 15 = .ok (.ifCond .eq 17, 3) := by decide +kernel
theorem dX4_setLimits_18 : decode cX4_setLimits 18 = .ok (.iload_n 3, 1) := by decide +kernel
theorem dX4_setLimits_19 : decode cX4_setLimits 19 = .ok (.iload_n 2, 1) := by decide +kernel
theorem dX4_setLimits_20 : decode cX4_setLimits 20 = .ok (.ldc 75, 2) := by decide +kernel
theorem dX4_setLimits_22 : decode cX4_setLimits 22 = .ok (.invokestatic 57, 3) := by decide +kernel
theorem dX4_setLimits_25 : decode cX4_setLimits 25 = .ok (.ifCond .eq 7, 3) := by decide +kernel
theorem dX4_setLimits_28 : decode cX4_setLimits 28 = .ok (.iconst 0, 1) := by decide +kernel
theorem dX4_setLimits_29 : decode cX4_setLimits 29 = .ok (.goto 4, 3) := by decide +kernel
theorem dX4_setLimits_32 : decode cX4_setLimits 32 = .ok (.iconst 1, 1) := by decide +kernel
theorem dX4_setLimits_33 : decode cX4_setLimits 33 = .ok (.putfield 53, 3) := by decide +kernel
theorem dX4_setLimits_36 : decode cX4_setLimits 36 = .ok (.aload_n 0, 1) := by decide +kernel
theorem dX4_setLimits_37 : decode cX4_setLimits 37 = .ok (.getfield 53, 3) := by decide +kernel
theorem dX4_setLimits_40 : decode cX4_setLimits 40 = .ok (.ifCond .ne 17, 3) := by decide +kernel
theorem dX4_setLimits_43 : decode cX4_setLimits 43 = .ok (.aload_n 0, 1) := by decide +kernel
theorem dX4_setLimits_44 : decode cX4_setLimits 44 = .ok (.getfield 7, 3) := by decide +kernel
theorem dX4_setLimits_47 : decode cX4_setLimits 47 = .ok (.iload_n 1, 1) := by decide +kernel
theorem dX4_setLimits_48 : decode cX4_setLimits 48 = .ok (.iload_n 2, 1) := by decide +kernel
theorem dX4_setLimits_49 : decode cX4_setLimits 49 = .ok (.iastore, 1) := by decide +kernel
theorem dX4_setLimits_50 : decode cX4_setLimits 50 = .ok (.aload_n 0, 1) := by decide +kernel
theorem dX4_setLimits_51 : decode cX4_setLimits 51 = .ok (.getfield 13, 3) := by decide +kernel
theorem dX4_setLimits_54 : decode cX4_setLimits 54 = .ok (.iload_n 1, 1) := by decide +kernel
theorem dX4_setLimits_55 : decode cX4_setLimits 55 = .ok (.iload_n 3, 1) := by decide +kernel
theorem dX4_setLimits_56 : decode cX4_setLimits 56 = .ok (.iastore, 1) := by decide +kernel
theorem dX4_setLimits_57 : decode cX4_setLimits 57 = .ok (.return_, 1) := by decide +kernel
set_option maxRecDepth 20000 in
theorem ggX4_setRates_X4_isLand : GoodIn wsX4_setRates wsX4_isLand := goodIn_r _ [6, 7, 8, 5, 9] (by decide +kernel) (by decide +kernel)
set_option maxRecDepth 20000 in
theorem gX4_setRates_X4_isLand : GoodIn wsX4_setRates (va_wsS RX4 71 yX4_isLand wsX4_isLand) := goodIn_app (goodIn_of _ (by decide +kernel)) ggX4_setRates_X4_isLand
set_option maxRecDepth 20000 in
theorem ggX4_setRates_X4_in : GoodIn wsX4_setRates wsX4_in := goodIn_r _ [9] (by decide +kernel) (by decide +kernel)
set_option maxRecDepth 20000 in
theorem gX4_setRates_X4_in : GoodIn wsX4_setRates (va_wsS RX4 57 yX4_in wsX4_in) := goodIn_app (goodIn_of _ (by decide +kernel)) ggX4_setRates_X4_in
theorem dX4_setRates_0 : decode cX4_setRates 0 = .ok (.aload_n 0, 1) := by decide +kernel
theorem dX4_setRates_1 : decode cX4_setRates 1 = .ok (.iload_n 1, 1) := by decide +kernel
theorem dX4_setRates_2 : decode cX4_setRates 2 = .ok (.invokestatic 71, 3) := by decide +kernel
theorem dX4_setRates_5 : decode cX4_setRates 5 = .ok (.ifCond .eq 38, 3) := by decide +kernel
theorem dX4_setRates_8 : decode cX4_setRates 8 = .ok (.iload_n 2, 1) := by decide +kernel
theorem dX4_setRates_9 : decode cX4_setRates 9 = .ok (.iconst 0, 1) := by decide +kernel
theorem dX4_setRates_10 : decode cX4_setRates 10 = .ok (.bipush 60, 2) := by decide +kernel
theorem dX4_setRates_12 : decode cX4_setRates 12 = .ok (.invokestatic 57, 3) := by decide +kernel
theorem dX4_setRates_15 : decode cX4_setRates 15 = .ok (.ifCond .eq 28, 3) := by decide +kernel
theorem dX4_setRates_18 : decode cX4_setRates 18 = .ok (.iload_n 3, 1) := by decide +kernel
theorem dX4_setRates_19 : decode cX4_setRates 19 = .ok (.iconst 0, 1) := by decide +kernel
theorem dX4_setRates_20 : decode cX4_setRates 20 = .ok (.bipush 60, 2) := by decide +kernel
theorem dX4_setRates_22 : decode cX4_setRates 22 = .ok (.invokestatic 57, 3) := by decide +kernel
theorem dX4_setRates_25 : decode cX4_setRates 25 = .ok (.ifCond .eq 18, 3) := by decide +kernel
theorem dX4_setRates_28 : decode cX4_setRates 28 = .ok (.iload 4, 2) := by decide +kernel
theorem dX4_setRates_30 : decode cX4_setRates 30 = .ok (.iconst 0, 1) := by decide +kernel
theorem dX4_setRates_31 : decode cX4_setRates 31 = .ok (.bipush 60, 2) := by decide +kernel
theorem dX4_setRates_33 : decode cX4_setRates 33 = .ok (.invokestatic 57, 3) := by decide +kernel
theorem dX4_setRates_36 : decode cX4_setRates 36 = .ok (.ifCond .eq 7, 3) := by decide +kernel
theorem dX4_setRates_39 : decode cX4_setRates 39 = .ok (.iconst 0, 1) := by decide +kernel
theorem dX4_setRates_40 : decode cX4_setRates 40 = .ok (.goto 4, 3) := by decide +kernel
theorem dX4_setRates_43 : decode cX4_setRates 43 = .ok (.iconst 1, 1) := by decide +kernel
theorem dX4_setRates_44 : decode cX4_setRates 44 = .ok (.putfield 53, 3) := by decide +kernel
theorem dX4_setRates_47 : decode cX4_setRates 47 = .ok (.aload_n 0, 1) := by decide +kernel
theorem dX4_setRates_48 : decode cX4_setRates 48 = .ok (.getfield 53, 3) := by decide +kernel
theorem dX4_setRates_51 : decode cX4_setRates 51 = .ok (.ifCond .ne 35, 3) := by decide +kernel
theorem dX4_setRates_54 : decode cX4_setRates 54 = .ok (.aload_n 0, 1) := by decide +kernel
theorem dX4_setRates_55 : decode cX4_setRates 55 = .ok (.getfield 16, 3) := by decide +kernel
theorem dX4_setRates_58 : decode cX4_setRates 58 = .ok (.iconst 3, 1) := by decide +kernel
theorem dX4_setRates_59 : decode cX4_setRates 59 = .ok (.iload_n 1, 1) := by decide +kernel
theorem dX4_setRates_60 : decode cX4_setRates 60 = .ok (.imul, 1) := by decide +kernel
theorem dX4_setRates_61 : decode cX4_setRates 61 = .ok (.iload_n 2, 1) := by decide +kernel
theorem dX4_setRates_62 : decode cX4_setRates 62 = .ok (.iastore, 1) := by decide +kernel
theorem dX4_setRates_63 : decode cX4_setRates 63 = .ok (.aload_n 0, 1) := by decide +kernel
theorem dX4_setRates_64 : decode cX4_setRates 64 = .ok (.getfield 16, 3) := by decide +kernel
theorem dX4_setRates_67 : decode cX4_setRates 67 = .ok (.iconst 3, 1) := by decide +kernel
theorem dX4_setRates_68 : decode cX4_setRates 68 = .ok (.iload_n 1, 1) := by decide +kernel
theorem dX4_setRates_69 : decode cX4_setRates 69 = .ok (.imul, 1) := by decide +kernel
theorem dX4_setRates_70 : decode cX4_setRates 70 = .ok (.iconst 1, 1) := by decide +kernel
theorem dX4_setRates_71 : decode cX4_setRates 71 = .ok (.iadd, 1) := by decide +kernel
theorem dX4_setRates_72 : decode cX4_setRates 72 = .ok (.iload_n 3, 1) := by decide +kernel
theorem dX4_setRates_73 : decode cX4_setRates 73 = .ok (.iastore, 1) := by decide +kernel
theorem dX4_setRates_74 : decode cX4_setRates 74 = .ok (.aload_n 0, 1) := by decide +kernel
theorem dX4_setRates_75 : decode cX4_setRates 75 = .ok (.getfield 16, 3) := by decide +kernel
theorem dX4_setRates_78 : decode cX4_setRates 78 = .ok (.iconst 3, 1) := by decide +kernel
theorem dX4_setRates_79 : decode cX4_setRates 79 = .ok (.iload_n 1, 1) := by decide +kernel
theorem dX4_setRates_80 : decode cX4_setRates 80 = .ok (.imul, 1) := by decide +kernel
theorem dX4_setRates_81 : decode cX4_setRates 81 = .ok (.iconst 2, 1) := by decide +kernel
theorem dX4_setRates_82 : decode cX4_setRates 82 = .ok (.iadd, 1) := by decide +kernel
theorem dX4_setRates_83 : decode cX4_setRates 83 = .ok (.iload 4, 2) := by decide +kernel
theorem dX4_setRates_85 : decode cX4_setRates 85 = .ok (.iastore, 1) := by decide +kernel
theorem dX4_setRates_86 : decode cX4_setRates 86 = .ok (.return_, 1) := by decide +kernel
set_option maxRecDepth 20000 in
theorem ggX4_tax_X4_isLand : GoodIn wsX4_tax wsX4_isLand := goodIn_r _ [6, 7, 8, 5, 9] (by decide +kernel) (by decide +kernel)
set_option maxRecDepth 20000 in
theorem gX4_tax_X4_isLand : GoodIn wsX4_tax (va_wsS RX4 71 yX4_isLand wsX4_isLand) := goodIn_app (goodIn_of _ (by decide +kernel)) ggX4_tax_X4_isLand
set_option maxRecDepth 20000 in
theorem ggX4_tax_X4_in : GoodIn wsX4_tax wsX4_in := goodIn_r _ [9] (by decide +kernel) (by decide +kernel)
set_option maxRecDepth 20000 in
theorem gX4_tax_X4_in : GoodIn wsX4_tax (va_wsS RX4 57 yX4_in wsX4_in) := goodIn_app (goodIn_of _ (by decide +kernel)) ggX4_tax_X4_in
set_option maxRecDepth 20000 in
theorem ggX4_tax_X4_taxOf : GoodIn wsX4_tax wsX4_taxOf := goodIn_r _ [13, 14, 15, 16, 17, 22, 23, 24, 25, 26, 27, 28, 29, 30, 31, 32, 33, 34, 35, 36, 37] (by decide +kernel) (by decide +kernel)
set_option maxRecDepth 20000 in
theorem gX4_tax_X4_taxOf : GoodIn wsX4_tax (wsV RX4 67 RX4 yX4_taxOf wsX4_taxOf) := goodIn_app (goodIn_of _ (by decide +kernel)) ggX4_tax_X4_taxOf
set_option maxRecDepth 20000 in
theorem ggX4_tax_X4_fails : GoodIn wsX4_tax wsX4_fails := goodIn_r _ [21, 1, 22, 23, 24, 25, 26, 27, 28, 29, 30, 31, 32, 33, 34, 35, 36, 37] (by decide +kernel) (by decide +kernel)
set_option maxRecDepth 20000 in
theorem gX4_tax_X4_fails : GoodIn wsX4_tax (wsV RX4 77 RX4 yX4_fails wsX4_fails) := goodIn_app (goodIn_of _ (by decide +kernel)) ggX4_tax_X4_fails
theorem dX4_tax_0 : decode cX4_tax 0 = .ok (.aload_n 0, 1) := by decide +kernel
theorem dX4_tax_1 : decode cX4_tax 1 = .ok (.iconst 0, 1) := by decide +kernel
theorem dX4_tax_2 : decode cX4_tax 2 = .ok (.putfield 53, 3) := by decide +kernel
theorem dX4_tax_5 : decode cX4_tax 5 = .ok (.iload_n 1, 1) := by decide +kernel
theorem dX4_tax_6 : decode cX4_tax 6 = .ok (.invokestatic 71, 3) := by decide +kernel
theorem dX4_tax_9 : decode cX4_tax 9 = .ok (.ifCond .eq 24, 3) := by decide +kernel
theorem dX4_tax_12 : decode cX4_tax 12 = .ok (.iload_n 2, 1) := by decide +kernel
theorem dX4_tax_13 : decode cX4_tax 13 = .ok (.iconst 0, 1) := by decide +kernel
theorem dX4_tax_14 : decode cX4_tax 14 = .ok (.ldc 76, 2) := by decide +kernel
theorem dX4_tax_16 : decode cX4_tax 16 = .ok (.invokestatic 57, 3) := by decide +kernel
theorem dX4_tax_19 : decode cX4_tax 19 = .ok (.ifCond .eq 14, 3) := by decide +kernel
theorem dX4_tax_22 : decode cX4_tax 22 = .ok (.aload_n 0, 1) := by decide +kernel
theorem dX4_tax_23 : decode cX4_tax 23 = .ok (.iload_n 1, 1) := by decide +kernel
theorem dX4_tax_24 : decode cX4_tax 24 = .ok (.iload_n 2, 1) := by decide +kernel
theorem dX4_tax_25 : decode cX4_tax 25 = .ok (.i2l, 1) := by decide +kernel
theorem dX4_tax_26 : decode cX4_tax 26 = .ok (.invokevirtual 67, 3) := by decide +kernel
theorem dX4_tax_29 : decode cX4_tax 29 = .ok (.l2i, 1) := by decide +kernel
theorem dX4_tax_30 : decode cX4_tax 30 = .ok (.goto 8, 3) := by decide +kernel
theorem dX4_tax_33 : decode cX4_tax 33 = .ok (.aload_n 0, 1) := by decide +kernel
theorem dX4_tax_34 : decode cX4_tax 34 = .ok (.iconst 1, 1) := by decide +kernel
theorem dX4_tax_35 : decode cX4_tax 35 = .ok (.invokevirtual 77, 3) := by decide +kernel
theorem dX4_tax_38 : decode cX4_tax 38 = .ok (.ireturn, 1) := by decide +kernel
set_option maxRecDepth 20000 in
theorem ggX4_grossTax_X4_isLand : GoodIn wsX4_grossTax wsX4_isLand := goodIn_r _ [6, 7, 8, 5, 9] (by decide +kernel) (by decide +kernel)
set_option maxRecDepth 20000 in
theorem gX4_grossTax_X4_isLand : GoodIn wsX4_grossTax (va_wsS RX4 71 yX4_isLand wsX4_isLand) := goodIn_app (goodIn_of _ (by decide +kernel)) ggX4_grossTax_X4_isLand
set_option maxRecDepth 20000 in
theorem ggX4_grossTax_X4_in : GoodIn wsX4_grossTax wsX4_in := goodIn_r _ [9] (by decide +kernel) (by decide +kernel)
set_option maxRecDepth 20000 in
theorem gX4_grossTax_X4_in : GoodIn wsX4_grossTax (va_wsS RX4 57 yX4_in wsX4_in) := goodIn_app (goodIn_of _ (by decide +kernel)) ggX4_grossTax_X4_in
set_option maxRecDepth 20000 in
theorem ggX4_grossTax_X4_gross : GoodIn wsX4_grossTax wsX4_gross := goodIn_r _ [13, 14, 15, 16, 17, 5, 18, 19, 20, 21, 22, 27, 28, 29, 30, 31, 32, 33, 34, 35, 36, 37, 38, 39, 40, 41, 42] (by decide +kernel) (by decide +kernel)
set_option maxRecDepth 20000 in
theorem gX4_grossTax_X4_gross : GoodIn wsX4_grossTax (wsV RX4 81 RX4 yX4_gross wsX4_gross) := goodIn_app (goodIn_of _ (by decide +kernel)) ggX4_grossTax_X4_gross
set_option maxRecDepth 20000 in
theorem ggX4_grossTax_X4_fails : GoodIn wsX4_grossTax wsX4_fails := goodIn_r _ [26, 1, 27, 28, 29, 30, 31, 32, 33, 34, 35, 36, 37, 38, 39, 40, 41, 42] (by decide +kernel) (by decide +kernel)
set_option maxRecDepth 20000 in
theorem gX4_grossTax_X4_fails : GoodIn wsX4_grossTax (wsV RX4 77 RX4 yX4_fails wsX4_fails) := goodIn_app (goodIn_of _ (by decide +kernel)) ggX4_grossTax_X4_fails
theorem dX4_grossTax_0 : decode cX4_grossTax 0 = .ok (.aload_n 0, 1) := by decide +kernel
theorem dX4_grossTax_1 : decode cX4_grossTax 1 = .ok (.iconst 0, 1) := by decide +kernel
theorem dX4_grossTax_2 : decode cX4_grossTax 2 = .ok (.putfield 53, 3) := by decide +kernel
theorem dX4_grossTax_5 : decode cX4_grossTax 5 = .ok (.iload_n 1, 1) := by decide +kernel
theorem dX4_grossTax_6 : decode cX4_grossTax 6 = .ok (.invokestatic 71, 3) := by decide +kernel
theorem dX4_grossTax_9 : decode cX4_grossTax 9 = .ok (.ifCond .eq 23, 3) := by decide +kernel
theorem dX4_grossTax_12 : decode cX4_grossTax 12 = .ok (.iload_n 2, 1) := by decide +kernel
theorem dX4_grossTax_13 : decode cX4_grossTax 13 = .ok (.iconst 0, 1) := by decide +kernel
theorem dX4_grossTax_14 : decode cX4_grossTax 14 = .ok (.ldc 76, 2) := by decide +kernel
theorem dX4_grossTax_16 : decode cX4_grossTax 16 = .ok (.invokestatic 57, 3) := by decide +kernel
theorem dX4_grossTax_19 : decode cX4_grossTax 19 = .ok (.ifCond .eq 13, 3) := by decide +kernel
theorem dX4_grossTax_22 : decode cX4_grossTax 22 = .ok (.aload_n 0, 1) := by decide +kernel
theorem dX4_grossTax_23 : decode cX4_grossTax 23 = .ok (.iload_n 1, 1) := by decide +kernel
theorem dX4_grossTax_24 : decode cX4_grossTax 24 = .ok (.iload_n 2, 1) := by decide +kernel
theorem dX4_grossTax_25 : decode cX4_grossTax 25 = .ok (.i2l, 1) := by decide +kernel
theorem dX4_grossTax_26 : decode cX4_grossTax 26 = .ok (.invokevirtual 81, 3) := by decide +kernel
theorem dX4_grossTax_29 : decode cX4_grossTax 29 = .ok (.goto 8, 3) := by decide +kernel
theorem dX4_grossTax_32 : decode cX4_grossTax 32 = .ok (.aload_n 0, 1) := by decide +kernel
theorem dX4_grossTax_33 : decode cX4_grossTax 33 = .ok (.iconst 1, 1) := by decide +kernel
theorem dX4_grossTax_34 : decode cX4_grossTax 34 = .ok (.invokevirtual 77, 3) := by decide +kernel
theorem dX4_grossTax_37 : decode cX4_grossTax 37 = .ok (.ireturn, 1) := by decide +kernel
set_option maxRecDepth 20000 in
theorem ggX4_grossTaxByTrying_X4_isLand : GoodIn wsX4_grossTaxByTrying wsX4_isLand := goodIn_r _ [5, 6, 7, 4, 8] (by decide +kernel) (by decide +kernel)
set_option maxRecDepth 20000 in
theorem gX4_grossTaxByTrying_X4_isLand : GoodIn wsX4_grossTaxByTrying (va_wsS RX4 71 yX4_isLand wsX4_isLand) := goodIn_app (goodIn_of _ (by decide +kernel)) ggX4_grossTaxByTrying_X4_isLand
set_option maxRecDepth 20000 in
theorem ggX4_grossTaxByTrying_X4_in : GoodIn wsX4_grossTaxByTrying wsX4_in := goodIn_r _ [8] (by decide +kernel) (by decide +kernel)
set_option maxRecDepth 20000 in
theorem gX4_grossTaxByTrying_X4_in : GoodIn wsX4_grossTaxByTrying (va_wsS RX4 57 yX4_in wsX4_in) := goodIn_app (goodIn_of _ (by decide +kernel)) ggX4_grossTaxByTrying_X4_in
set_option maxRecDepth 20000 in
theorem ggX4_grossTaxByTrying_X4_gross : GoodIn wsX4_grossTaxByTrying wsX4_gross := goodIn_r _ [12, 13, 14, 15, 16, 4, 17, 18, 19, 20, 21, 26, 27, 28, 29, 30, 31, 32, 33, 34, 35, 36, 37, 38, 39, 40, 41] (by decide +kernel) (by decide +kernel)
set_option maxRecDepth 20000 in
theorem gX4_grossTaxByTrying_X4_gross : GoodIn wsX4_grossTaxByTrying (wsV RX4 81 RX4 yX4_gross wsX4_gross) := goodIn_app (goodIn_of _ (by decide +kernel)) ggX4_grossTaxByTrying_X4_gross
set_option maxRecDepth 20000 in
theorem ggX4_grossTaxByTrying_X4_fails : GoodIn wsX4_grossTaxByTrying wsX4_fails := goodIn_r _ [25, 1, 26, 27, 28, 29, 30, 31, 32, 33, 34, 35, 36, 37, 38, 39, 40, 41] (by decide +kernel) (by decide +kernel)
set_option maxRecDepth 20000 in
theorem gX4_grossTaxByTrying_X4_fails : GoodIn wsX4_grossTaxByTrying (wsV RX4 77 RX4 yX4_fails wsX4_fails) := goodIn_app (goodIn_of _ (by decide +kernel)) ggX4_grossTaxByTrying_X4_fails
theorem dX4_grossTaxByTrying_0 : decode cX4_grossTaxByTrying 0 = .ok (.aload_n 0, 1) := by decide +kernel
theorem dX4_grossTaxByTrying_1 : decode cX4_grossTaxByTrying 1 = .ok (.iconst 0, 1) := by decide +kernel
theorem dX4_grossTaxByTrying_2 : decode cX4_grossTaxByTrying 2 = .ok (.putfield 53, 3) := by decide +kernel
theorem dX4_grossTaxByTrying_5 : decode cX4_grossTaxByTrying 5 = .ok (.iload_n 1, 1) := by decide +kernel
theorem dX4_grossTaxByTrying_6 : decode cX4_grossTaxByTrying 6 = .ok (.invokestatic 71, 3) := by decide +kernel
theorem dX4_grossTaxByTrying_9 : decode cX4_grossTaxByTrying 9 = .ok (.ifCond .eq 24, 3) := by decide +kernel
theorem dX4_grossTaxByTrying_12 : decode cX4_grossTaxByTrying 12 = .ok (.iload_n 2, 1) := by decide +kernel
theorem dX4_grossTaxByTrying_13 : decode cX4_grossTaxByTrying 13 = .ok (.iconst 0, 1) := by decide +kernel
theorem dX4_grossTaxByTrying_14 : decode cX4_grossTaxByTrying 14 = .ok (.sipush 20000, 3) := by decide +kernel
theorem dX4_grossTaxByTrying_17 : decode cX4_grossTaxByTrying 17 = .ok (.invokestatic 57, 3) := by decide +kernel
theorem dX4_grossTaxByTrying_20 : decode cX4_grossTaxByTrying 20 = .ok (.ifCond .eq 13, 3) := by decide +kernel
theorem dX4_grossTaxByTrying_23 : decode cX4_grossTaxByTrying 23 = .ok (.aload_n 0, 1) := by decide +kernel
theorem dX4_grossTaxByTrying_24 : decode cX4_grossTaxByTrying 24 = .ok (.iload_n 1, 1) := by decide +kernel
theorem dX4_grossTaxByTrying_25 : decode cX4_grossTaxByTrying 25 = .ok (.iload_n 2, 1) := by decide +kernel
theorem dX4_grossTaxByTrying_26 : decode cX4_grossTaxByTrying 26 = .ok (.i2l, 1) := by decide +kernel
theorem dX4_grossTaxByTrying_27 : decode cX4_grossTaxByTrying 27 = .ok (.invokevirtual 81, 3) := by decide +kernel
theorem dX4_grossTaxByTrying_30 : decode cX4_grossTaxByTrying 30 = .ok (.goto 8, 3) := by decide +kernel
theorem dX4_grossTaxByTrying_33 : decode cX4_grossTaxByTrying 33 = .ok (.aload_n 0, 1) := by decide +kernel
theorem dX4_grossTaxByTrying_34 : decode cX4_grossTaxByTrying 34 = .ok (.iconst 1, 1) := by decide +kernel
theorem dX4_grossTaxByTrying_35 : decode cX4_grossTaxByTrying 35 = .ok (.invokevirtual 77, 3) := by decide +kernel
theorem dX4_grossTaxByTrying_38 : decode cX4_grossTaxByTrying 38 = .ok (.ireturn, 1) := by decide +kernel
set_option maxRecDepth 20000 in
theorem ggX4_add_X4_isLand : GoodIn wsX4_add wsX4_isLand := goodIn_r _ [10, 11, 12, 9, 13] (by decide +kernel) (by decide +kernel)
set_option maxRecDepth 20000 in
theorem gX4_add_X4_isLand : GoodIn wsX4_add (va_wsS RX4 71 yX4_isLand wsX4_isLand) := goodIn_app (goodIn_of _ (by decide +kernel)) ggX4_add_X4_isLand
set_option maxRecDepth 20000 in
theorem ggX4_add_X4_in : GoodIn wsX4_add wsX4_in := goodIn_r _ [13] (by decide +kernel) (by decide +kernel)
set_option maxRecDepth 20000 in
theorem gX4_add_X4_in : GoodIn wsX4_add (va_wsS RX4 57 yX4_in wsX4_in) := goodIn_app (goodIn_of _ (by decide +kernel)) ggX4_add_X4_in
set_option maxRecDepth 20000 in
theorem ggX4_add_X4_fails : GoodIn wsX4_add wsX4_fails := goodIn_r _ [17, 1, 18, 19, 20, 21, 22, 23, 24, 25, 26, 27, 28, 29, 30, 31, 32, 33] (by decide +kernel) (by decide +kernel)
set_option maxRecDepth 20000 in
theorem gX4_add_X4_fails : GoodIn wsX4_add (wsV RX4 77 RX4 yX4_fails wsX4_fails) := goodIn_app (goodIn_of _ (by decide +kernel)) ggX4_add_X4_fails
theorem dX4_add_0 : decode cX4_add 0 = .ok (.aload_n 0, 1) := by decide +kernel
theorem dX4_add_1 : decode cX4_add 1 = .ok (.iconst 0, 1) := by decide +kernel
theorem dX4_add_2 : decode cX4_add 2 = .ok (.putfield 53, 3) := by decide +kernel
theorem dX4_add_5 : decode cX4_add 5 = .ok (.iload_n 1, 1) := by decide +kernel
theorem dX4_add_6 : decode cX4_add 6 = .ok (.invokestatic 71, 3) := by decide +kernel
theorem dX4_add_9 : decode cX4_add 9 = .ok (.ifCond .eq 25, 3) := by decide +kernel
theorem dX4_add_12 : decode cX4_add 12 = .ok (.iload_n 2, 1) := by decide +kernel
theorem dX4_add_13 : decode cX4_add 13 = .ok (.invokestatic 71, 3) := by decide +kernel
theorem dX4_add_16 : decode cX4_add 16 = .ok (.ifCond .eq 18, 3) := by decide +kernel
theorem dX4_add_19 : decode cX4_add 19 = .ok (.iload_n 3, 1) := by decide +kernel
theorem dX4_add_20 : decode cX4_add 20 = .ok (.iconst 0, 1) := by decide +kernel
theorem dX4_add_21 : decode cX4_add 21 = .ok (.ldc 85, 2) := by decide +kernel
theorem dX4_add_23 : decode cX4_add 23 = .ok (.invokestatic 57, 3) := by decide +kernel
theorem dX4_add_26 : decode cX4_add 26 = .ok (.ifCond .eq 8, 3) := by decide +kernel
theorem dX4_add_29 : decode cX4_add 29 = .ok (.iload_n 1, 1) := by decide +kernel
theorem dX4_add_30 : decode cX4_add 30 = .ok (.iload_n 2, 1) := by decide +kernel
theorem dX4_add_31 : decode cX4_add 31 = .ok (.if_icmp .ne 9, 3) := by decide +kernel
theorem dX4_add_34 : decode cX4_add 34 = .ok (.aload_n 0, 1) := by decide +kernel
theorem dX4_add_35 : decode cX4_add 35 = .ok (.iconst 1, 1) := by decide +kernel
theorem dX4_add_36 : decode cX4_add 36 = .ok (.invokevirtual 77, 3) := by decide +kernel
theorem dX4_add_39 : decode cX4_add 39 = .ok (.ireturn, 1) := by decide +kernel
theorem dX4_add_40 : decode cX4_add 40 = .ok (.aload_n 0, 1) := by decide +kernel
theorem dX4_add_41 : decode cX4_add 41 = .ok (.getfield 61, 3) := by decide +kernel
theorem dX4_add_44 : decode cX4_add 44 = .ok (.bipush 10, 2) := by decide +kernel
theorem dX4_add_46 : decode cX4_add 46 = .ok (.if_icmp .ne 9, 3) := by decide +kernel
theorem dX4_add_49 : decode cX4_add 49 = .ok (.aload_n 0, 1) := by decide +kernel
theorem dX4_add_50 : decode cX4_add 50 = .ok (.iconst 2, 1) := by decide +kernel
theorem dX4_add_51 : decode cX4_add 51 = .ok (.invokevirtual 77, 3) := by decide +kernel
theorem dX4_add_54 : decode cX4_add 54 = .ok (.ireturn, 1) := by decide +kernel
