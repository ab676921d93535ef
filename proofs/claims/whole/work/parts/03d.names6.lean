theorem dX6_init_0 : decode cX6_init 0 = .ok (.aload_n 0, 1) := by decide +kernel
theorem dX6_init_1 : decode cX6_init 1 = .ok (.invokespecial 1, 3) := by decide +kernel
theorem dX6_init_4 : decode cX6_init 4 = .ok (.aload_n 0, 1) := by decide +kernel
theorem dX6_init_5 : decode cX6_init 5 = .ok (.new 7, 3) := by decide +kernel
theorem dX6_init_8 : decode cX6_init 8 = .ok (.dup, 1) := by decide +kernel
theorem dX6_init_9 : decode cX6_init 9 = .ok (.invokespecial 9, 3) := by decide +kernel
theorem dX6_init_12 : decode cX6_init 12 = .ok (.putfield 10, 3) := by decide +kernel
theorem dX6_init_15 : decode cX6_init 15 = .ok (.aload_n 0, 1) := by decide +kernel
theorem dX6_init_16 : decode cX6_init 16 = .ok (.new 16, 3) := by decide +kernel
theorem dX6_init_19 : decode cX6_init 19 = .ok (.dup, 1) := by decide +kernel
theorem dX6_init_20 : decode cX6_init 20 = .ok (.invokespecial 18, 3) := by decide +kernel
theorem dX6_init_23 : decode cX6_init 23 = .ok (.putfield 19, 3) := by decide +kernel
theorem dX6_init_26 : decode cX6_init 26 = .ok (.aload_n 0, 1) := by decide +kernel
theorem dX6_init_27 : decode cX6_init 27 = .ok (.new 23, 3) := by decide +kernel
theorem dX6_init_30 : decode cX6_init 30 = .ok (.dup, 1) := by decide +kernel
theorem dX6_init_31 : decode cX6_init 31 = .ok (.invokespecial 25, 3) := by decide +kernel
theorem dX6_init_34 : decode cX6_init 34 = .ok (.putfield 26, 3) := by decide +kernel
theorem dX6_init_37 : decode cX6_init 37 = .ok (.aload_n 0, 1) := by decide +kernel
theorem dX6_init_38 : decode cX6_init 38 = .ok (.iconst 0, 1) := by decide +kernel
theorem dX6_init_39 : decode cX6_init 39 = .ok (.putfield 30, 3) := by decide +kernel
theorem dX6_init_42 : decode cX6_init 42 = .ok (.return_, 1) := by decide +kernel
set_option maxRecDepth 20000 in
theorem ggX6_question_Jx4a65c_size_8abf5 : GoodIn wsX6_question wsJx4a65c_size_8abf5 := goodIn_r _ [11, 12, 104, 105, 106] (by decide +kernel) (by decide +kernel)
set_option maxRecDepth 20000 in
theorem gX6_question_Jx4a65c_size_8abf5_f34Jx4a65c : GoodIn wsX6_question (va_wsF RX6 34 RJx4a65c ⟨"java/util/List", "size", "()I"⟩ yJx4a65c_size_8abf5 wsJx4a65c_size_8abf5) := goodIn_app (goodIn_of _ (by decide +kernel)) ggX6_question_Jx4a65c_size_8abf5
set_option maxRecDepth 20000 in
theorem ggX6_question_X4_init : GoodIn wsX6_question wsX4_init := goodIn_r _ [15, 16, 17, 18, 19, 20, 10, 21, 22, 23, 24, 25, 26, 27, 28, 29, 30, 31, 32, 33, 34, 35, 36, 37, 38, 39, 40, 41, 104, 105, 106, 98, 99, 100, 101, 102, 103] (by decide +kernel) (by decide +kernel)
set_option maxRecDepth 20000 in
theorem gX6_question_X4_init : GoodIn wsX6_question (wsX4_init) := ggX6_question_X4_init
set_option maxRecDepth 20000 in
theorem ggX6_question_Jx4a65c_add_9ea2d : GoodIn wsX6_question wsJx4a65c_add_9ea2d := goodIn_r _ [45, 46, 47, 31, 12, 48, 49, 50, 10, 51, 52, 53, 54, 55, 56, 57, 58, 59, 30, 60, 61, 62, 63, 64, 65, 66, 67, 68, 69, 70, 71, 72, 73, 74, 75, 76, 77, 78, 79, 80, 81, 82, 83, 84, 85, 86, 87, 88, 89, 90, 91, 92, 93, 104, 105, 106] (by decide +kernel) (by decide +kernel)
set_option maxRecDepth 20000 in
theorem gX6_question_Jx4a65c_add_9ea2d_f50Jx4a65c : GoodIn wsX6_question (va_wsF RX6 50 RJx4a65c ⟨"java/util/List", "add", "(Ljava/lang/Object;)Z"⟩ yJx4a65c_add_9ea2d wsJx4a65c_add_9ea2d) := goodIn_app (goodIn_of _ (by decide +kernel)) ggX6_question_Jx4a65c_add_9ea2d
theorem dX6_question_0 : decode cX6_question 0 = .ok (.aload_n 0, 1) := by decide +kernel
theorem dX6_question_1 : decode cX6_question 1 = .ok (.getfield 10, 3) := by decide +kernel
theorem dX6_question_4 : decode cX6_question 4 = .ok (.invokeinterface 34 1, 5) := by decide +kernel
theorem dX6_question_9 : decode cX6_question 9 = .ok (.bipush 20, 2) := by decide +kernel
theorem dX6_question_11 : decode cX6_question 11 = .ok (.if_icmp .lt 13, 3) := by decide +kernel
theorem dX6_question_14 : decode cX6_question 14 = .ok (.new 40, 3) := by decide +kernel
theorem dX6_question_17 : decode cX6_question 17 = .ok (.dup, 1) := by decide +kernel
theorem dX6_question_18 : decode cX6_question 18 = .ok (.ldc 42, 2) := by decide +kernel
theorem dX6_question_20 : decode cX6_question 20 = .ok (.invokespecial 44, 3) := by decide +kernel
theorem dX6_question_23 : decode cX6_question 23 = .ok (.athrow, 1) := by decide +kernel
theorem dX6_question_24 : decode cX6_question 24 = .ok (.aload_n 0, 1) := by decide +kernel
theorem dX6_question_25 : decode cX6_question 25 = .ok (.getfield 10, 3) := by decide +kernel
theorem dX6_question_28 : decode cX6_question 28 = .ok (.new 47, 3) := by decide +kernel
theorem dX6_question_31 : decode cX6_question 31 = .ok (.dup, 1) := by decide +kernel
theorem dX6_question_32 : decode cX6_question 32 = .ok (.invokespecial 49, 3) := by decide +kernel
theorem dX6_question_35 : decode cX6_question 35 = .ok (.invokeinterface 50 2, 5) := by decide +kernel
theorem dX6_question_40 : decode cX6_question 40 = .ok (.pop, 1) := by decide +kernel
theorem dX6_question_41 : decode cX6_question 41 = .ok (.aload_n 0, 1) := by decide +kernel
theorem dX6_question_42 : decode cX6_question 42 = .ok (.getfield 10, 3) := by decide +kernel
theorem dX6_question_45 : decode cX6_question 45 = .ok (.invokeinterface 34 1, 5) := by decide +kernel
theorem dX6_question_50 : decode cX6_question 50 = .ok (.iconst 1, 1) := by decide +kernel
theorem dX6_question_51 : decode cX6_question 51 = .ok (.isub, 1) := by decide +kernel
theorem dX6_question_52 : decode cX6_question 52 = .ok (.ireturn, 1) := by decide +kernel
set_option maxRecDepth 20000 in
theorem ggX6_product_X6_questionOf : GoodIn wsX6_product wsX6_questionOf := goodIn_ca (goodIn_r _ [11, 12, 13, 14, 15, 16, 17, 18, 19, 20, 21, 22, 23, 24, 25, 26, 27, 28, 29, 30, 31, 32, 33, 34, 35, 36, 37, 38, 39, 126, 127, 128, 129, 117, 118, 119, 120, 121, 122, 130, 131, 132] (by decide +kernel) (by decide +kernel)) (goodIn_sub (fun _ h => List.mem_cons_of_mem _ (List.mem_append_right _ h)) (by decide +kernel))
set_option maxRecDepth 20000 in
theorem gX6_product_X6_questionOf : GoodIn wsX6_product (wsV RX6 54 RX6 yX6_questionOf wsX6_questionOf) := goodIn_app (goodIn_of _ (by decide +kernel)) ggX6_product_X6_questionOf
set_option maxRecDepth 20000 in
theorem ggX6_product_Jx4a65c_size_8abf5 : GoodIn wsX6_product wsJx4a65c_size_8abf5 := goodIn_r _ [21, 22, 130, 131, 132] (by decide +kernel) (by decide +kernel)
set_option maxRecDepth 20000 in
theorem gX6_product_Jx4a65c_size_8abf5_f34Jx4a65c : GoodIn wsX6_product (va_wsF RX6 34 RJx4a65c ⟨"java/util/List", "size", "()I"⟩ yJx4a65c_size_8abf5 wsJx4a65c_size_8abf5) := goodIn_app (goodIn_of _ (by decide +kernel)) ggX6_product_Jx4a65c_size_8abf5
set_option maxRecDepth 20000 in
theorem ggX6_product_X3_init : GoodIn wsX6_product wsX3_init := goodIn_r _ [42, 43, 44, 45, 46, 47, 20, 48, 49, 50, 51, 52, 53, 54, 39, 55, 56, 57, 58, 59, 60, 61, 62, 63, 64, 130, 131, 132, 123, 124, 125] (by decide +kernel) (by decide +kernel)
set_option maxRecDepth 20000 in
theorem gX6_product_X3_init : GoodIn wsX6_product (wsX3_init) := ggX6_product_X3_init
set_option maxRecDepth 20000 in
theorem ggX6_product_Jx4a65c_add_9ea2d : GoodIn wsX6_product wsJx4a65c_add_9ea2d := goodIn_r _ [68, 69, 70, 39, 22, 71, 72, 73, 20, 74, 75, 76, 77, 78, 79, 80, 81, 82, 54, 83, 84, 85, 86, 87, 88, 89, 90, 91, 92, 93, 94, 95, 96, 97, 98, 99, 100, 101, 102, 103, 104, 105, 106, 107, 108, 109, 110, 111, 112, 113, 114, 115, 116, 130, 131, 132] (by decide +kernel) (by decide +kernel)
set_option maxRecDepth 20000 in
theorem gX6_product_Jx4a65c_add_9ea2d_f50Jx4a65c : GoodIn wsX6_product (va_wsF RX6 50 RJx4a65c ⟨"java/util/List", "add", "(Ljava/lang/Object;)Z"⟩ yJx4a65c_add_9ea2d wsJx4a65c_add_9ea2d) := goodIn_app (goodIn_of _ (by decide +kernel)) ggX6_product_Jx4a65c_add_9ea2d
theorem dX6_product_0 : decode cX6_product 0 = .ok (.aload_n 0, 1) := by decide +kernel
theorem dX6_product_1 : decode cX6_product 1 = .ok (.iload_n 1, 1) := by decide +kernel
theorem dX6_product_2 : decode cX6_product 2 = .ok (.invokevirtual 54, 3) := by decide +kernel
theorem dX6_product_5 : decode cX6_product 5 = .ok (.astore_n 2, 1) := by decide +kernel
theorem dX6_product_6 : decode cX6_product 6 = .ok (.aload_n 2, 1) := by decide +kernel
theorem dX6_product_7 : decode cX6_product 7 = .ok (.getfield 58, 3) := by decide +kernel
theorem dX6_product_10 : decode cX6_product 10 = .ok (.invokeinterface 34 1, 5) := by decide +kernel
theorem dX6_product_15 : decode cX6_product 15 = .ok (.iconst 3, 1) := by decide +kernel
theorem dX6_product_16 : decode cX6_product 16 = .ok (.if_icmp .lt 13, 3) := by decide +kernel
theorem dX6_product_19 : decode cX6_product 19 = .ok (.new 40, 3) := by decide +kernel
theorem dX6_product_22 : decode cX6_product 22 = .ok (.dup, 1) := by decide +kernel
theorem dX6_product_23 : decode cX6_product 23 = .ok (.ldc 61, 2) := by decide +kernel
theorem dX6_product_25 : decode cX6_product 25 = .ok (.invokespecial 44, 3) := by decide +kernel
theorem dX6_product_28 : decode cX6_product 28 = .ok (.athrow, 1) := by decide +kernel
theorem dX6_product_29 : decode cX6_product 29 = .ok (.aload_n 2, 1) := by decide +kernel
theorem dX6_product_30 : decode cX6_product 30 = .ok (.getfield 58, 3) := by decide +kernel
theorem dX6_product_33 : decode cX6_product 33 = .ok (.new 63, 3) := by decide +kernel
theorem dX6_product_36 : decode cX6_product 36 = .ok (.dup, 1) := by decide +kernel
theorem dX6_product_37 : decode cX6_product 37 = .ok (.invokespecial 65, 3) := by decide +kernel
theorem dX6_product_40 : decode cX6_product 40 = .ok (.invokeinterface 50 2, 5) := by decide +kernel
theorem dX6_product_45 : decode cX6_product 45 = .ok (.pop, 1) := by decide +kernel
theorem dX6_product_46 : decode cX6_product 46 = .ok (.aload_n 2, 1) := by decide +kernel
theorem dX6_product_47 : decode cX6_product 47 = .ok (.getfield 58, 3) := by decide +kernel
theorem dX6_product_50 : decode cX6_product 50 = .ok (.invokeinterface 34 1, 5) := by decide +kernel
theorem dX6_product_55 : decode cX6_product 55 = .ok (.ireturn, 1) := by decide +kernel
set_option maxRecDepth 20000 in
theorem ggX6_test_X6_questionOf : GoodIn wsX6_test wsX6_questionOf := goodIn_ca (goodIn_r _ [13, 14, 15, 16, 17, 18, 19, 20, 21, 22, 23, 24, 25, 26, 27, 28, 29, 30, 31, 32, 33, 34, 35, 36, 37, 38, 39, 40, 41, 153, 154, 155, 156, 157, 158, 159, 160, 161, 162, 163, 164, 165] (by decide +kernel) (by decide +kernel)) (goodIn_sub (fun _ h => List.mem_cons_of_mem _ (List.mem_append_left _ (List.mem_append_right _ h))) (by decide +kernel))
set_option maxRecDepth 20000 in
theorem gX6_test_X6_questionOf : GoodIn wsX6_test (wsV RX6 54 RX6 yX6_questionOf wsX6_questionOf) := goodIn_app (goodIn_of _ (by decide +kernel)) ggX6_test_X6_questionOf
set_option maxRecDepth 20000 in
theorem ggX6_test_X6_refuseNoName : GoodIn wsX6_test wsX6_refuseNoName := goodIn_ca (goodIn_r _ [44, 14, 15] (by decide +kernel) (by decide +kernel)) (goodIn_sub (fun _ h => List.mem_cons_of_mem _ (List.mem_append_left _ (List.mem_append_right _ h))) (by decide +kernel))
set_option maxRecDepth 20000 in
theorem gX6_test_X6_refuseNoName : GoodIn wsX6_test (va_wsS RX6 66 yX6_refuseNoName wsX6_refuseNoName) := goodIn_app (goodIn_of _ (by decide +kernel)) ggX6_test_X6_refuseNoName
set_option maxRecDepth 20000 in
theorem ggX6_test_X6_refuseNoRange : GoodIn wsX6_test wsX6_refuseNoRange := goodIn_ca (goodIn_r _ [47, 48, 49, 50, 51, 12, 52] (by decide +kernel) (by decide +kernel)) (goodIn_sub (fun _ h => List.mem_cons_of_mem _ (List.mem_append_right _ h)) (by decide +kernel))
set_option maxRecDepth 20000 in
theorem gX6_test_X6_refuseNoRange : GoodIn wsX6_test (va_wsS RX6 70 yX6_refuseNoRange wsX6_refuseNoRange) := goodIn_app (goodIn_of _ (by decide +kernel)) ggX6_test_X6_refuseNoRange
set_option maxRecDepth 20000 in
theorem ggX6_test_X4_lastProduct : GoodIn wsX6_test wsX4_lastProduct := goodIn_r _ [57, 58, 59, 60, 20, 21, 22, 23, 24, 61, 26, 27, 28, 29, 30, 31, 32, 33, 34, 35, 36, 37, 38, 39, 40, 41, 157, 158, 159, 160, 161, 162, 163, 164, 165] (by decide +kernel) (by decide +kernel)
set_option maxRecDepth 20000 in
theorem gX6_test_X4_lastProduct : GoodIn wsX6_test (wsV RX6 74 RX4 yX4_lastProduct wsX4_lastProduct) := goodIn_app (goodIn_of _ (by decide +kernel)) ggX6_test_X4_lastProduct
set_option maxRecDepth 20000 in
theorem ggX6_test_Jx4a65c_size_8abf5 : GoodIn wsX6_test wsJx4a65c_size_8abf5 := goodIn_r _ [23, 24, 163, 164, 165] (by decide +kernel) (by decide +kernel)
set_option maxRecDepth 20000 in
theorem gX6_test_Jx4a65c_size_8abf5_f34Jx4a65c : GoodIn wsX6_test (va_wsF RX6 34 RJx4a65c ⟨"java/util/List", "size", "()I"⟩ yJx4a65c_size_8abf5 wsJx4a65c_size_8abf5) := goodIn_app (goodIn_of _ (by decide +kernel)) ggX6_test_Jx4a65c_size_8abf5
set_option maxRecDepth 20000 in
theorem ggX6_test_X5_init : GoodIn wsX6_test wsX5_init := goodIn_r _ [64, 65, 66, 67, 68, 69, 70, 71, 149, 150, 151, 152] (by decide +kernel) (by decide +kernel)
set_option maxRecDepth 20000 in
theorem gX6_test_X5_init : GoodIn wsX6_test (wsX5_init) := ggX6_test_X5_init
set_option maxRecDepth 20000 in
theorem ggX6_test_Jx4a65c_add_9ea2d : GoodIn wsX6_test wsJx4a65c_add_9ea2d := goodIn_r _ [75, 76, 77, 41, 24, 78, 79, 80, 22, 81, 82, 83, 84, 85, 86, 87, 88, 89, 90, 91, 92, 93, 94, 95, 96, 97, 98, 99, 100, 101, 102, 103, 104, 105, 106, 107, 108, 109, 110, 111, 112, 113, 114, 115, 116, 117, 118, 119, 120, 121, 122, 123, 124, 163, 164, 165] (by decide +kernel) (by decide +kernel)
set_option maxRecDepth 20000 in
theorem gX6_test_Jx4a65c_add_9ea2d_f50Jx4a65c : GoodIn wsX6_test (va_wsF RX6 50 RJx4a65c ⟨"java/util/List", "add", "(Ljava/lang/Object;)Z"⟩ yJx4a65c_add_9ea2d wsJx4a65c_add_9ea2d) := goodIn_app (goodIn_of _ (by decide +kernel)) ggX6_test_Jx4a65c_add_9ea2d
set_option maxRecDepth 20000 in
theorem ggX6_test_X1_enter : GoodIn wsX6_test wsX1_enter := goodIn_r _ [129, 130, 12, 131, 132, 133, 134, 128, 135, 136, 137, 138, 139, 140, 141, 142, 143, 66, 67, 144, 145, 166, 167, 168] (by decide +kernel) (by decide +kernel)
set_option maxRecDepth 20000 in
theorem gX6_test_X1_enter : GoodIn wsX6_test (wsV RX6 93 RX1 yX1_enter wsX1_enter) := goodIn_app (goodIn_of _ (by decide +kernel)) ggX6_test_X1_enter
theorem dX6_test_0 : decode cX6_test 0 = .ok (.aload_n 0, 1) := by decide +kernel
theorem dX6_test_1 : decode cX6_test 1 = .ok (.iload_n 1, 1) := by decide +kernel
theorem dX6_test_2 : decode cX6_test 2 = .ok (.invokevirtual 54, 3) := by decide +kernel
theorem dX6_test_5 : decode cX6_test 5 = .ok (.astore 6, 2) := by decide +kernel
theorem dX6_test_7 : decode cX6_test 7 = .ok (.iload_n 2, 1) := by decide +kernel
theorem dX6_test_8 : decode cX6_test 8 = .ok (.invokestatic 66, 3) := by decide +kernel
theorem dX6_test_11 : decode cX6_test 11 = .ok (.iload_n 3, 1) := by decide +kernel
theorem dX6_test_12 : decode cX6_test 12 = .ok (.iload 4, 2) := by decide +kernel
theorem dX6_test_14 : decode cX6_test 14 = .ok (.invokestatic 70, 3) := by decide +kernel
theorem dX6_test_17 : decode cX6_test 17 = .ok (.aload 6, 2) := by decide +kernel
theorem dX6_test_19 : decode cX6_test 19 = .ok (.invokevirtual 74, 3) := by decide +kernel
theorem dX6_test_22 : decode cX6_test 22 = .ok (.astore 7, 2) := by decide +kernel
theorem dX6_test_24 : decode cX6_test 24 = .ok (.aload 7, 2) := by decide +kernel
theorem dX6_test_26 : decode cX6_test 26 = .ok (.ifnonnull 13, 3) := by decide +kernel
theorem dX6_test_29 : decode cX6_test 29 = .ok (.new 40, 3) := by decide +kernel
theorem dX6_test_32 : decode cX6_test 32 = .ok (.dup, 1) := by decide +kernel
theorem dX6_test_33 : decode cX6_test 33 = .ok (.ldc 78, 2) := by decide +kernel
theorem dX6_test_35 : decode cX6_test 35 = .ok (.invokespecial 44, 3) := by decide +kernel
theorem dX6_test_38 : decode cX6_test 38 = .ok (.athrow, 1) := by decide +kernel
theorem dX6_test_39 : decode cX6_test 39 = .ok (.aload 7, 2) := by decide +kernel
theorem dX6_test_41 : decode cX6_test 41 = .ok (.getfield 80, 3) := by decide +kernel
theorem dX6_test_44 : decode cX6_test 44 = .ok (.invokeinterface 34 1, 5) := by decide +kernel
theorem dX6_test_49 : decode cX6_test 49 = .ok (.iconst 4, 1) := by decide +kernel
theorem dX6_test_50 : decode cX6_test 50 = .ok (.if_icmp .lt 13, 3) := by decide +kernel
theorem dX6_test_53 : decode cX6_test 53 = .ok (.new 40, 3) := by decide +kernel
theorem dX6_test_56 : decode cX6_test 56 = .ok (.dup, 1) := by decide +kernel
theorem dX6_test_57 : decode cX6_test 57 = .ok (.ldc 83, 2) := by decide +kernel
theorem dX6_test_59 : decode cX6_test 59 = .ok (.invokespecial 44, 3) := by decide +kernel
theorem dX6_test_62 : decode cX6_test 62 = .ok (.athrow, 1) := by decide +kernel
theorem dX6_test_63 : decode cX6_test 63 = .ok (.aload 7, 2) := by decide +kernel
theorem dX6_test_65 : decode cX6_test 65 = .ok (.getfield 80, 3) := by decide +kernel
theorem dX6_test_68 : decode cX6_test 68 = .ok (.new 85, 3) := by decide +kernel
theorem dX6_test_71 : decode cX6_test 71 = .ok (.dup, 1) := by decide +kernel
theorem dX6_test_72 : decode cX6_test 72 = .ok (.iload_n 2, 1) := by decide +kernel
theorem dX6_test_73 : decode cX6_test 73 = .ok (.iload_n 3, 1) := by decide +kernel
theorem dX6_test_74 : decode cX6_test 74 = .ok (.iload 4, 2) := by decide +kernel
theorem dX6_test_76 : decode cX6_test 76 = .ok (.iload 5, 2) := by decide +kernel
theorem dX6_test_78 : decode cX6_test 78 = .ok (.invokespecial 87, 3) := by decide +kernel
theorem dX6_test_81 : decode cX6_test 81 = .ok (.invokeinterface 50 2, 5) := by decide +kernel
theorem dX6_test_86 : decode cX6_test 86 = .ok (.pop, 1) := by decide +kernel
theorem dX6_test_87 : decode cX6_test 87 = .ok (.iload 5, 2) := by decide +kernel
theorem dX6_test_89 : decode cX6_test 89 = .ok (.ifCond .ne 27, 3) := by decide +kernel
theorem dX6_test_92 : decode cX6_test 92 = .ok (.aload 7, 2) := by decide +kernel
theorem dX6_test_94 : decode cX6_test 94 = .ok (.dup, 1) := by decide +kernel
theorem dX6_test_95 : decode cX6_test 95 = .ok (.getfield 90, 3) := by decide +kernel
theorem dX6_test_98 : decode cX6_test 98 = .ok (.iconst 1, 1) := by decide +kernel
theorem dX6_test_99 : decode cX6_test 99 = .ok (.iadd, 1) := by decide +kernel
theorem dX6_test_100 : decode cX6_test 100 = .ok (.putfield 90, 3) := by decide +kernel
theorem dX6_test_103 : decode cX6_test 103 = .ok (.aload_n 0, 1) := by decide +kernel
theorem dX6_test_104 : decode cX6_test 104 = .ok (.getfield 26, 3) := by decide +kernel
theorem dX6_test_107 : decode cX6_test 107 = .ok (.aload 7, 2) := by decide +kernel
theorem dX6_test_109 : decode cX6_test 109 = .ok (.iload_n 2, 1) := by decide +kernel
theorem dX6_test_110 : decode cX6_test 110 = .ok (.iload_n 3, 1) := by decide +kernel
theorem dX6_test_111 : decode cX6_test 111 = .ok (.iload 4, 2) := by decide +kernel
theorem dX6_test_113 : decode cX6_test 113 = .ok (.invokevirtual 93, 3) := by decide +kernel
theorem dX6_test_116 : decode cX6_test 116 = .ok (.aload 7, 2) := by decide +kernel
theorem dX6_test_118 : decode cX6_test 118 = .ok (.getfield 80, 3) := by decide +kernel
theorem dX6_test_121 : decode cX6_test 121 = .ok (.invokeinterface 34 1, 5) := by decide +kernel
theorem dX6_test_126 : decode cX6_test 126 = .ok (.ireturn, 1) := by decide +kernel
set_option maxRecDepth 20000 in
theorem ggX6_drop_X6_questionOf : GoodIn wsX6_drop wsX6_questionOf := goodIn_ca (goodIn_r _ [7, 8, 9, 10, 11, 1, 12, 13, 14, 15, 16, 17, 18, 19, 20, 21, 22, 23, 24, 25, 26, 27, 28, 29, 30, 31, 32, 33, 34, 41, 42, 43, 44, 35, 36, 37, 38, 39, 40, 45, 46, 47] (by decide +kernel) (by decide +kernel)) (goodIn_sub (fun _ h => List.mem_cons_of_mem _ (List.mem_append_right _ h)) (by decide +kernel))
set_option maxRecDepth 20000 in
theorem gX6_drop_X6_questionOf : GoodIn wsX6_drop (wsV RX6 54 RX6 yX6_questionOf wsX6_questionOf) := goodIn_app (goodIn_of _ (by decide +kernel)) ggX6_drop_X6_questionOf
theorem dX6_drop_0 : decode cX6_drop 0 = .ok (.aload_n 0, 1) := by decide +kernel
theorem dX6_drop_1 : decode cX6_drop 1 = .ok (.iload_n 1, 1) := by decide +kernel
theorem dX6_drop_2 : decode cX6_drop 2 = .ok (.invokevirtual 54, 3) := by decide +kernel
theorem dX6_drop_5 : decode cX6_drop 5 = .ok (.astore_n 2, 1) := by decide +kernel
theorem dX6_drop_6 : decode cX6_drop 6 = .ok (.aload_n 2, 1) := by decide +kernel
theorem dX6_drop_7 : decode cX6_drop 7 = .ok (.iconst 1, 1) := by decide +kernel
theorem dX6_drop_8 : decode cX6_drop 8 = .ok (.putfield 97, 3) := by decide +kernel
theorem dX6_drop_11 : decode cX6_drop 11 = .ok (.aload_n 2, 1) := by decide +kernel
theorem dX6_drop_12 : decode cX6_drop 12 = .ok (.getfield 101, 3) := by decide +kernel
theorem dX6_drop_15 : decode cX6_drop 15 = .ok (.ireturn, 1) := by decide +kernel
set_option maxRecDepth 20000 in
theorem ggX6_setQuiet_X6_questionOf : GoodIn wsX6_setQuiet wsX6_questionOf := goodIn_ca (goodIn_r _ [8, 9, 10, 11, 12, 13, 14, 15, 16, 17, 18, 19, 20, 21, 22, 23, 24, 25, 26, 27, 28, 29, 30, 31, 32, 33, 34, 35, 36, 43, 44, 45, 46, 37, 38, 39, 40, 41, 42, 47, 48, 49] (by decide +kernel) (by decide +kernel)) (goodIn_sub (fun _ h => List.mem_cons_of_mem _ (List.mem_append_right _ h)) (by decide +kernel))
set_option maxRecDepth 20000 in
theorem gX6_setQuiet_X6_questionOf : GoodIn wsX6_setQuiet (wsV RX6 54 RX6 yX6_questionOf wsX6_questionOf) := goodIn_app (goodIn_of _ (by decide +kernel)) ggX6_setQuiet_X6_questionOf
theorem dX6_setQuiet_0 : decode cX6_setQuiet 0 = .ok (.aload_n 0, 1) := by decide +kernel
theorem dX6_setQuiet_1 : decode cX6_setQuiet 1 = .ok (.iload_n 1, 1) := by decide +kernel
theorem dX6_setQuiet_2 : decode cX6_setQuiet 2 = .ok (.invokevirtual 54, 3) := by decide +kernel
theorem dX6_setQuiet_5 : decode cX6_setQuiet 5 = .ok (.astore_n 3, 1) := by decide +kernel
theorem dX6_setQuiet_6 : decode cX6_setQuiet 6 = .ok (.iload_n 2, 1) := by decide +kernel
theorem dX6_setQuiet_7 : decode cX6_setQuiet 7 = .ok (.ifCond .lt 10, 3) := by decide +kernel
theorem dX6_setQuiet_10 : decode cX6_setQuiet 10 = .ok (.iload_n 2, 1) := by decide +kernel
theorem dX6_setQuiet_11 : decode cX6_setQuiet 11 = .ok (.sipush 1000, 3) := by decide +kernel
theorem dX6_setQuiet_14 : decode cX6_setQuiet 14 = .ok (.if_icmp .le 13, 3) := by decide +kernel
theorem dX6_setQuiet_17 : decode cX6_setQuiet 17 = .ok (.new 104, 3) := by decide +kernel
theorem dX6_setQuiet_20 : decode cX6_setQuiet 20 = .ok (.dup, 1) := by decide +kernel
theorem dX6_setQuiet_21 : decode cX6_setQuiet 21 = .ok (.ldc 106, 2) := by decide +kernel
theorem dX6_setQuiet_23 : decode cX6_setQuiet 23 = .ok (.invokespecial 108, 3) := by decide +kernel
theorem dX6_setQuiet_26 : decode cX6_setQuiet 26 = .ok (.athrow, 1) := by decide +kernel
theorem dX6_setQuiet_27 : decode cX6_setQuiet 27 = .ok (.aload_n 3, 1) := by decide +kernel
theorem dX6_setQuiet_28 : decode cX6_setQuiet 28 = .ok (.getfield 109, 3) := by decide +kernel
theorem dX6_setQuiet_31 : decode cX6_setQuiet 31 = .ok (.istore 4, 2) := by decide +kernel
theorem dX6_setQuiet_33 : decode cX6_setQuiet 33 = .ok (.aload_n 3, 1) := by decide +kernel
theorem dX6_setQuiet_34 : decode cX6_setQuiet 34 = .ok (.iload_n 2, 1) := by decide +kernel
theorem dX6_setQuiet_35 : decode cX6_setQuiet 35 = .ok (.putfield 109, 3) := by decide +kernel
theorem dX6_setQuiet_38 : decode cX6_setQuiet 38 = .ok (.iload 4, 2) := by decide +kernel
theorem dX6_setQuiet_40 : decode cX6_setQuiet 40 = .ok (.ireturn, 1) := by decide +kernel
set_option maxRecDepth 20000 in
theorem ggX6_set_X6_refuseNoName : GoodIn wsX6_set wsX6_refuseNoName := goodIn_ca (goodIn_r _ [7, 8, 9] (by decide +kernel) (by decide +kernel)) (goodIn_sub (fun _ h => List.mem_cons_of_mem _ (List.mem_append_right _ h)) (by decide +kernel))
set_option maxRecDepth 20000 in
theorem gX6_set_X6_refuseNoName : GoodIn wsX6_set (va_wsS RX6 66 yX6_refuseNoName wsX6_refuseNoName) := goodIn_app (goodIn_of _ (by decide +kernel)) ggX6_set_X6_refuseNoName
set_option maxRecDepth 20000 in
theorem ggX6_set_X6_isValue : GoodIn wsX6_set wsX6_isValue := goodIn_r _ [12] (by decide +kernel) (by decide +kernel)
set_option maxRecDepth 20000 in
theorem gX6_set_X6_isValue : GoodIn wsX6_set (va_wsS RX6 112 yX6_isValue wsX6_isValue) := goodIn_app (goodIn_of _ (by decide +kernel)) ggX6_set_X6_isValue
set_option maxRecDepth 20000 in
theorem ggX6_set_X0_replace : GoodIn wsX6_set wsX0_replace := goodIn_r _ [17, 18, 19, 20, 21, 16, 22, 27] (by decide +kernel) (by decide +kernel)
set_option maxRecDepth 20000 in
theorem gX6_set_X0_replace : GoodIn wsX6_set (wsV RX6 118 RX0 yX0_replace wsX0_replace) := goodIn_app (goodIn_of _ (by decide +kernel)) ggX6_set_X0_replace
theorem dX6_set_0 : decode cX6_set 0 = .ok (.iload_n 1, 1) := by decide +kernel
theorem dX6_set_1 : decode cX6_set 1 = .ok (.invokestatic 66, 3) := by decide +kernel
theorem dX6_set_4 : decode cX6_set 4 = .ok (.iload_n 2, 1) := by decide +kernel
theorem dX6_set_5 : decode cX6_set 5 = .ok (.iconst (-1), 1) := by decide +kernel
theorem dX6_set_6 : decode cX6_set 6 = .ok (.if_icmp .eq 20, 3) := by decide +kernel
theorem dX6_set_9 : decode cX6_set 9 = .ok (.iload_n 2, 1) := by decide +kernel
theorem dX6_set_10 : decode cX6_set 10 = .ok (.invokestatic 112, 3) := by decide +kernel
theorem dX6_set_13 : decode cX6_set 13 = .ok (.ifCond .ne 13, 3) := by decide +kernel
theorem dX6_set_16 : decode cX6_set 16 = .ok (.new 104, 3) := by decide +kernel
theorem dX6_set_19 : decode cX6_set 19 = .ok (.dup, 1) := by decide +kernel
theorem dX6_set_20 : decode cX6_set 20 = .ok (.ldc 116, 2) := by decide +kernel
theorem dX6_set_22 : decode cX6_set 22 = .ok (.invokespecial 108, 3) := by decide +kernel
theorem dX6_set_25 : decode cX6_set 25 = .ok (.athrow, 1) := by decide +kernel
theorem dX6_set_26 : decode cX6_set 26 = .ok (.aload_n 0, 1) := by decide +kernel
theorem dX6_set_27 : decode cX6_set 27 = .ok (.getfield 19, 3) := by decide +kernel
theorem dX6_set_30 : decode cX6_set 30 = .ok (.iload_n 1, 1) := by decide +kernel
theorem dX6_set_31 : decode cX6_set 31 = .ok (.iload_n 2, 1) := by decide +kernel
theorem dX6_set_32 : decode cX6_set 32 = .ok (.invokevirtual 118, 3) := by decide +kernel
theorem dX6_set_35 : decode cX6_set 35 = .ok (.ireturn, 1) := by decide +kernel
set_option maxRecDepth 20000 in
theorem ggX6_come_Jx4a65c_size_8abf5 : GoodIn wsX6_come wsJx4a65c_size_8abf5 := goodIn_r _ [9, 10, 82, 83, 84] (by decide +kernel) (by decide +kernel)
set_option maxRecDepth 20000 in
theorem gX6_come_Jx4a65c_size_8abf5_f34Jx4a65c : GoodIn wsX6_come (va_wsF RX6 34 RJx4a65c ⟨"java/util/List", "size", "()I"⟩ yJx4a65c_size_8abf5 wsJx4a65c_size_8abf5) := goodIn_app (goodIn_of _ (by decide +kernel)) ggX6_come_Jx4a65c_size_8abf5
set_option maxRecDepth 20000 in
theorem ggX6_come_Jx4a65c_get_915e3 : GoodIn wsX6_come wsJx4a65c_get_915e3 := goodIn_r _ [14, 10, 15, 16, 17, 18, 19, 20, 21, 22, 23, 24, 25, 8, 26, 27, 82, 83, 84] (by decide +kernel) (by decide +kernel)
set_option maxRecDepth 20000 in
theorem gX6_come_Jx4a65c_get_915e3_f122Jx4a65c : GoodIn wsX6_come (va_wsF RX6 122 RJx4a65c ⟨"java/util/List", "get", "(I)Ljava/lang/Object;"⟩ yJx4a65c_get_915e3 wsJx4a65c_get_915e3) := goodIn_app (goodIn_of _ (by decide +kernel)) ggX6_come_Jx4a65c_get_915e3
set_option maxRecDepth 20000 in
theorem ggX6_come_X4_isSatisfied : GoodIn wsX6_come wsX4_isSatisfied := goodIn_r _ [32, 33, 34, 35, 36, 6, 7, 8, 9, 10, 37, 12, 13, 14, 15, 16, 17, 18, 19, 20, 21, 22, 23, 24, 25, 26, 27, 38, 39, 40, 41, 42, 43, 44, 45, 46, 47, 48, 49, 50, 51, 52, 53, 54, 55, 56, 57, 58, 59, 60, 61, 85, 86, 87, 88, 89, 90, 82, 83, 84, 91, 92, 93, 94, 95, 96, 97, 98] (by decide +kernel) (by decide +kernel)
set_option maxRecDepth 20000 in
theorem gX6_come_X4_isSatisfied : GoodIn wsX6_come (wsV RX6 126 RX4 yX4_isSatisfied wsX4_isSatisfied) := goodIn_app (goodIn_of _ (by decide +kernel)) ggX6_come_X4_isSatisfied
set_option maxRecDepth 20000 in
theorem ggX6_come_X4_takeDocument : GoodIn wsX6_come wsX4_takeDocument := goodIn_r _ [65, 66, 67, 68, 69, 31, 70, 71, 72, 73, 74, 75, 76, 77, 85, 86, 87, 88, 89, 90] (by decide +kernel) (by decide +kernel)
set_option maxRecDepth 20000 in
theorem gX6_come_X4_takeDocument : GoodIn wsX6_come (wsV RX6 130 RX4 yX4_takeDocument wsX4_takeDocument) := goodIn_app (goodIn_of _ (by decide +kernel)) ggX6_come_X4_takeDocument
theorem dX6_come_0 : decode cX6_come 0 = .ok (.iconst 0, 1) := by decide +kernel
theorem dX6_come_1 : decode cX6_come 1 = .ok (.istore_n 1, 1) := by decide +kernel
theorem dX6_come_2 : decode cX6_come 2 = .ok (.iconst 0, 1) := by decide +kernel
theorem dX6_come_3 : decode cX6_come 3 = .ok (.istore_n 2, 1) := by decide +kernel
theorem dX6_come_4 : decode cX6_come 4 = .ok (.iload_n 2, 1) := by decide +kernel
theorem dX6_come_5 : decode cX6_come 5 = .ok (.aload_n 0, 1) := by decide +kernel
theorem dX6_come_6 : decode cX6_come 6 = .ok (.getfield 10, 3) := by decide +kernel
theorem dX6_come_9 : decode cX6_come 9 = .ok (.invokeinterface 34 1, 5) := by decide +kernel
theorem dX6_come_14 : decode cX6_come 14 = .ok (.if_icmp .ge 51, 3) := by decide +kernel
theorem dX6_come_17 : decode cX6_come 17 = .ok (.aload_n 0, 1) := by decide +kernel
theorem dX6_come_18 : decode cX6_come 18 = .ok (.getfield 10, 3) := by decide +kernel
theorem dX6_come_21 : decode cX6_come 21 = .ok (.iload_n 2, 1) := by decide +kernel
theorem dX6_come_22 : decode cX6_come 22 = .ok (.invokeinterface 122 2, 5) := by decide +kernel
theorem dX6_come_27 : decode cX6_come 27 = .ok (.checkcast 47, 3) := by decide +kernel
theorem dX6_come_30 : decode cX6_come 30 = .ok (.astore_n 3, 1) := by decide +kernel
theorem dX6_come_31 : decode cX6_come 31 = .ok (.aload_n 3, 1) := by decide +kernel
theorem dX6_come_32 : decode cX6_come 32 = .ok (.aload_n 0, 1) := by decide +kernel
theorem dX6_come_33 : decode cX6_come 33 = .ok (.getfield 19, 3) := by decide +kernel
theorem dX6_come_36 : decode cX6_come 36 = .ok (.invokevirtual 126, 3) := by decide +kernel
theorem dX6_come_39 : decode cX6_come 39 = .ok (.ifCond .eq 20, 3) := by decide +kernel
theorem dX6_come_42 : decode cX6_come 42 = .ok (.aload_n 3, 1) := by decide +kernel
theorem dX6_come_43 : decode cX6_come 43 = .ok (.aload_n 0, 1) := by decide +kernel
theorem dX6_come_44 : decode cX6_come 44 = .ok (.getfield 30, 3) := by decide +kernel
theorem dX6_come_47 : decode cX6_come 47 = .ok (.invokevirtual 130, 3) := by decide +kernel
theorem dX6_come_50 : decode cX6_come 50 = .ok (.ifCond .eq 9, 3) := by decide +kernel
theorem dX6_come_53 : decode cX6_come 53 = .ok (.iload_n 1, 1) := by decide +kernel
theorem dX6_come_54 : decode cX6_come 54 = .ok (.iconst 1, 1) := by decide +kernel
theorem dX6_come_55 : decode cX6_come 55 = .ok (.iload_n 2, 1) := by decide +kernel
theorem dX6_come_56 : decode cX6_come 56 = .ok (.ishl, 1) := by decide +kernel
theorem dX6_come_57 : decode cX6_come 57 = .ok (.ior, 1) := by decide +kernel
theorem dX6_come_58 : decode cX6_come 58 = .ok (.istore_n 1, 1) := by decide +kernel
theorem dX6_come_59 : decode cX6_come 59 = .ok (.iinc 2 1, 3) := by decide +kernel
theorem dX6_come_62 : decode cX6_come 62 = .ok (.goto (-58), 3) := by decide +kernel
theorem dX6_come_65 : decode cX6_come 65 = .ok (.iload_n 1, 1) := by decide +kernel
theorem dX6_come_66 : decode cX6_come 66 = .ok (.ireturn, 1) := by decide +kernel
set_option maxRecDepth 20000 in
theorem ggX6_advance_Jx4a65c_size_8abf5 : GoodIn wsX6_advance wsJx4a65c_size_8abf5 := goodIn_r _ [13, 14, 54, 55, 56] (by decide +kernel) (by decide +kernel)
set_option maxRecDepth 20000 in
theorem gX6_advance_Jx4a65c_size_8abf5_f34Jx4a65c : GoodIn wsX6_advance (va_wsF RX6 34 RJx4a65c ⟨"java/util/List", "size", "()I"⟩ yJx4a65c_size_8abf5 wsJx4a65c_size_8abf5) := goodIn_app (goodIn_of _ (by decide +kernel)) ggX6_advance_Jx4a65c_size_8abf5
set_option maxRecDepth 20000 in
theorem ggX6_advance_Jx4a65c_get_915e3 : GoodIn wsX6_advance wsJx4a65c_get_915e3 := goodIn_r _ [18, 14, 19, 20, 21, 22, 23, 24, 25, 26, 27, 28, 29, 12, 30, 31, 54, 55, 56] (by decide +kernel) (by decide +kernel)
set_option maxRecDepth 20000 in
theorem gX6_advance_Jx4a65c_get_915e3_f122Jx4a65c : GoodIn wsX6_advance (va_wsF RX6 122 RJx4a65c ⟨"java/util/List", "get", "(I)Ljava/lang/Object;"⟩ yJx4a65c_get_915e3 wsJx4a65c_get_915e3) := goodIn_app (goodIn_of _ (by decide +kernel)) ggX6_advance_Jx4a65c_get_915e3
set_option maxRecDepth 20000 in
theorem ggX6_advance_X4_sendBatch : GoodIn wsX6_advance wsX4_sendBatch := goodIn_r _ [36, 37, 38, 39, 40, 41, 42, 35, 43, 44, 45, 46, 47, 48, 49, 57, 58, 59, 60, 61, 62] (by decide +kernel) (by decide +kernel)
set_option maxRecDepth 20000 in
theorem gX6_advance_X4_sendBatch : GoodIn wsX6_advance (wsV RX6 138 RX4 yX4_sendBatch wsX4_sendBatch) := goodIn_app (goodIn_of _ (by decide +kernel)) ggX6_advance_X4_sendBatch
theorem dX6_advance_0 : decode cX6_advance 0 = .ok (.iload_n 1, 1) := by decide +kernel
theorem dX6_advance_1 : decode cX6_advance 1 = .ok (.iconst 1, 1) := by decide +kernel
theorem dX6_advance_2 : decode cX6_advance 2 = .ok (.if_icmp .lt 10, 3) := by decide +kernel
theorem dX6_advance_5 : decode cX6_advance 5 = .ok (.iload_n 1, 1) := by decide +kernel
theorem dX6_advance_6 : decode cX6_advance 6 = .ok (.sipush 1000, 3) := by decide +kernel
theorem dX6_advance_9 : decode cX6_advance 9 = .ok (.if_icmp .le 13, 3) := by decide +kernel
theorem dX6_advance_12 : decode cX6_advance 12 = .ok (.new 104, 3) := by decide +kernel
theorem dX6_advance_15 : decode cX6_advance 15 = .ok (.dup, 1) := by decide +kernel
theorem dX6_advance_16 : decode cX6_advance 16 = .ok (.ldc 133, 2) := by decide +kernel
theorem dX6_advance_18 : decode cX6_advance 18 = .ok (.invokespecial 108, 3) := by decide +kernel
theorem dX6_advance_21 : decode cX6_advance 21 = .ok (.athrow, 1) := by decide +kernel
theorem dX6_advance_22 : decode cX6_advance 22 = .ok (.iload_n 1, 1) := by decide +kernel
theorem dX6_advance_23 : decode cX6_advance 23 = .ok (.ldc 135, 2) := by decide +kernel
theorem dX6_advance_25 : decode cX6_advance 25 = .ok (.aload_n 0, 1) := by decide +kernel
theorem dX6_advance_26 : decode cX6_advance 26 = .ok (.getfield 30, 3) := by decide +kernel
theorem dX6_advance_29 : decode cX6_advance 29 = .ok (.isub, 1) := by decide +kernel
theorem dX6_advance_30 : decode cX6_advance 30 = .ok (.if_icmp .le 13, 3) := by decide +kernel
theorem dX6_advance_33 : decode cX6_advance 33 = .ok (.new 40, 3) := by decide +kernel
theorem dX6_advance_36 : decode cX6_advance 36 = .ok (.dup, 1) := by decide +kernel
theorem dX6_advance_37 : decode cX6_advance 37 = .ok (.ldc 136, 2) := by decide +kernel
theorem dX6_advance_39 : decode cX6_advance 39 = .ok (.invokespecial 44, 3) := by decide +kernel
theorem dX6_advance_42 : decode cX6_advance 42 = .ok (.athrow, 1) := by decide +kernel
theorem dX6_advance_43 : decode cX6_advance 43 = .ok (.aload_n 0, 1) := by decide +kernel
theorem dX6_advance_44 : decode cX6_advance 44 = .ok (.dup, 1) := by decide +kernel
theorem dX6_advance_45 : decode cX6_advance 45 = .ok (.getfield 30, 3) := by decide +kernel
theorem dX6_advance_48 : decode cX6_advance 48 = .ok (.iload_n 1, 1) := by decide +kernel
theorem dX6_advance_49 : decode cX6_advance 49 = .ok (.iadd, 1) := by decide +kernel
theorem dX6_advance_50 : decode cX6_advance 50 = .ok (.putfield 30, 3) := by decide +kernel
theorem dX6_advance_53 : decode cX6_advance 53 = .ok (.iconst 0, 1) := by decide +kernel
theorem dX6_advance_54 : decode cX6_advance 54 = .ok (.istore_n 2, 1) := by decide +kernel
theorem dX6_advance_55 : decode cX6_advance 55 = .ok (.iconst 0, 1) := by decide +kernel
theorem dX6_advance_56 : decode cX6_advance 56 = .ok (.istore_n 3, 1) := by decide +kernel
theorem dX6_advance_57 : decode cX6_advance 57 = .ok (.iload_n 3, 1) := by decide +kernel
theorem dX6_advance_58 : decode cX6_advance 58 = .ok (.aload_n 0, 1) := by decide +kernel
theorem dX6_advance_59 : decode cX6_advance 59 = .ok (.getfield 10, 3) := by decide +kernel
theorem dX6_advance_62 : decode cX6_advance 62 = .ok (.invokeinterface 34 1, 5) := by decide +kernel
theorem dX6_advance_67 : decode cX6_advance 67 = .ok (.if_icmp .ge 35, 3) := by decide +kernel
theorem dX6_advance_70 : decode cX6_advance 70 = .ok (.aload_n 0, 1) := by decide +kernel
theorem dX6_advance_71 : decode cX6_advance 71 = .ok (.getfield 10, 3) := by decide +kernel
theorem dX6_advance_74 : decode cX6_advance 74 = .ok (.iload_n 3, 1) := by decide +kernel
theorem dX6_advance_75 : decode cX6_advance 75 = .ok (.invokeinterface 122 2, 5) := by decide +kernel
theorem dX6_advance_80 : decode cX6_advance 80 = .ok (.checkcast 47, 3) := by decide +kernel
theorem dX6_advance_83 : decode cX6_advance 83 = .ok (.aload_n 0, 1) := by decide +kernel
theorem dX6_advance_84 : decode cX6_advance 84 = .ok (.getfield 30, 3) := by decide +kernel
theorem dX6_advance_87 : decode cX6_advance 87 = .ok (.invokevirtual 138, 3) := by decide +kernel
theorem dX6_advance_90 : decode cX6_advance 90 = .ok (.ifCond .eq 6, 3) := by decide +kernel
theorem dX6_advance_93 : decode cX6_advance 93 = .ok (.iinc 2 1, 3) := by decide +kernel
theorem dX6_advance_96 : decode cX6_advance 96 = .ok (.iinc 3 1, 3) := by decide +kernel
theorem dX6_advance_99 : decode cX6_advance 99 = .ok (.goto (-42), 3) := by decide +kernel
theorem dX6_advance_102 : decode cX6_advance 102 = .ok (.iload_n 2, 1) := by decide +kernel
theorem dX6_advance_103 : decode cX6_advance 103 = .ok (.ireturn, 1) := by decide +kernel
set_option maxRecDepth 20000 in
theorem ggX6_satisfies_X6_questionOf : GoodIn wsX6_satisfies wsX6_questionOf := goodIn_ca (goodIn_r _ [6, 7, 8, 9, 10, 11, 12, 13, 14, 15, 16, 17, 18, 19, 20, 21, 22, 23, 24, 25, 26, 27, 28, 29, 30, 31, 32, 33, 34, 69, 70, 71, 72, 73, 74, 75, 76, 77, 78, 79, 80, 81] (by decide +kernel) (by decide +kernel)) (goodIn_sub (fun _ h => List.mem_cons_of_mem _ (List.mem_append_right _ h)) (by decide +kernel))
set_option maxRecDepth 20000 in
theorem gX6_satisfies_X6_questionOf : GoodIn wsX6_satisfies (wsV RX6 54 RX6 yX6_questionOf wsX6_questionOf) := goodIn_app (goodIn_of _ (by decide +kernel)) ggX6_satisfies_X6_questionOf
set_option maxRecDepth 20000 in
theorem ggX6_satisfies_X4_isSatisfied : GoodIn wsX6_satisfies wsX4_isSatisfied := goodIn_r _ [39, 40, 41, 42, 43, 13, 14, 15, 16, 17, 44, 19, 20, 21, 22, 23, 24, 25, 26, 27, 28, 29, 30, 31, 32, 33, 34, 45, 46, 47, 48, 49, 50, 51, 52, 53, 54, 55, 56, 57, 58, 59, 60, 61, 62, 63, 64, 65, 66, 67, 68, 73, 74, 75, 76, 77, 78, 79, 80, 81, 82, 83, 84, 85, 86, 87, 88, 89] (by decide +kernel) (by decide +kernel)
set_option maxRecDepth 20000 in
theorem gX6_satisfies_X4_isSatisfied : GoodIn wsX6_satisfies (wsV RX6 126 RX4 yX4_isSatisfied wsX4_isSatisfied) := goodIn_app (goodIn_of _ (by decide +kernel)) ggX6_satisfies_X4_isSatisfied
theorem dX6_satisfies_0 : decode cX6_satisfies 0 = .ok (.aload_n 0, 1) := by decide +kernel
theorem dX6_satisfies_1 : decode cX6_satisfies 1 = .ok (.iload_n 1, 1) := by decide +kernel
theorem dX6_satisfies_2 : decode cX6_satisfies 2 = .ok (.invokevirtual 54, 3) := by decide +kernel
theorem dX6_satisfies_5 : decode cX6_satisfies 5 = .ok (.aload_n 0, 1) := by decide +kernel
theorem dX6_satisfies_6 : decode cX6_satisfies 6 = .ok (.getfield 19, 3) := by decide +kernel
theorem dX6_satisfies_9 : decode cX6_satisfies 9 = .ok (.invokevirtual 126, 3) := by decide +kernel
theorem dX6_satisfies_12 : decode cX6_satisfies 12 = .ok (.ireturn, 1) := by decide +kernel
set_option maxRecDepth 20000 in
theorem ggX6_matching_Jx4a65c_size_8abf5 : GoodIn wsX6_matching wsJx4a65c_size_8abf5 := goodIn_r _ [8, 9, 65, 66, 67] (by decide +kernel) (by decide +kernel)
set_option maxRecDepth 20000 in
theorem gX6_matching_Jx4a65c_size_8abf5_f34Jx4a65c : GoodIn wsX6_matching (va_wsF RX6 34 RJx4a65c ⟨"java/util/List", "size", "()I"⟩ yJx4a65c_size_8abf5 wsJx4a65c_size_8abf5) := goodIn_app (goodIn_of _ (by decide +kernel)) ggX6_matching_Jx4a65c_size_8abf5
set_option maxRecDepth 20000 in
theorem ggX6_matching_Jx4a65c_get_915e3 : GoodIn wsX6_matching wsJx4a65c_get_915e3 := goodIn_r _ [13, 9, 14, 15, 16, 17, 18, 19, 20, 21, 22, 23, 24, 7, 25, 26, 65, 66, 67] (by decide +kernel) (by decide +kernel)
set_option maxRecDepth 20000 in
theorem gX6_matching_Jx4a65c_get_915e3_f122Jx4a65c : GoodIn wsX6_matching (va_wsF RX6 122 RJx4a65c ⟨"java/util/List", "get", "(I)Ljava/lang/Object;"⟩ yJx4a65c_get_915e3 wsJx4a65c_get_915e3) := goodIn_app (goodIn_of _ (by decide +kernel)) ggX6_matching_Jx4a65c_get_915e3
set_option maxRecDepth 20000 in
theorem ggX6_matching_X4_isSatisfied : GoodIn wsX6_matching wsX4_isSatisfied := goodIn_r _ [31, 32, 33, 34, 35, 5, 6, 7, 8, 9, 36, 11, 12, 13, 14, 15, 16, 17, 18, 19, 20, 21, 22, 23, 24, 25, 26, 37, 38, 39, 40, 41, 42, 43, 44, 45, 46, 47, 48, 49, 50, 51, 52, 53, 54, 55, 56, 57, 58, 59, 60, 68, 69, 70, 71, 72, 73, 65, 66, 67, 74, 75, 76, 77, 78, 79, 80, 81] (by decide +kernel) (by decide +kernel)
set_option maxRecDepth 20000 in
theorem gX6_matching_X4_isSatisfied : GoodIn wsX6_matching (wsV RX6 126 RX4 yX4_isSatisfied wsX4_isSatisfied) := goodIn_app (goodIn_of _ (by decide +kernel)) ggX6_matching_X4_isSatisfied
theorem dX6_matching_0 : decode cX6_matching 0 = .ok (.iconst 0, 1) := by decide +kernel
theorem dX6_matching_1 : decode cX6_matching 1 = .ok (.istore_n 1, 1) := by decide +kernel
theorem dX6_matching_2 : decode cX6_matching 2 = .ok (.iconst 0, 1) := by decide +kernel
theorem dX6_matching_3 : decode cX6_matching 3 = .ok (.istore_n 2, 1) := by decide +kernel
theorem dX6_matching_4 : decode cX6_matching 4 = .ok (.iload_n 2, 1) := by decide +kernel
theorem dX6_matching_5 : decode cX6_matching 5 = .ok (.aload_n 0, 1) := by decide +kernel
theorem dX6_matching_6 : decode cX6_matching 6 = .ok (.getfield 10, 3) := by decide +kernel
theorem dX6_matching_9 : decode cX6_matching 9 = .ok (.invokeinterface 34 1, 5) := by decide +kernel
theorem dX6_matching_14 : decode cX6_matching 14 = .ok (.if_icmp .ge 38, 3) := by decide +kernel
theorem dX6_matching_17 : decode cX6_matching 17 = .ok (.aload_n 0, 1) := by decide +kernel
theorem dX6_matching_18 : decode cX6_matching 18 = .ok (.getfield 10, 3) := by decide +kernel
theorem dX6_matching_21 : decode cX6_matching 21 = .ok (.iload_n 2, 1) := by decide +kernel
theorem dX6_matching_22 : decode cX6_matching 22 = .ok (.invokeinterface 122 2, 5) := by decide +kernel
theorem dX6_matching_27 : decode cX6_matching 27 = .ok (.checkcast 47, 3) := by decide +kernel
theorem dX6_matching_30 : decode cX6_matching 30 = .ok (.aload_n 0, 1) := by decide +kernel
theorem dX6_matching_31 : decode cX6_matching 31 = .ok (.getfield 19, 3) := by decide +kernel
theorem dX6_matching_34 : decode cX6_matching 34 = .ok (.invokevirtual 126, 3) := by decide +kernel
theorem dX6_matching_37 : decode cX6_matching 37 = .ok (.ifCond .eq 9, 3) := by decide +kernel
theorem dX6_matching_40 : decode cX6_matching 40 = .ok (.iload_n 1, 1) := by decide +kernel
theorem dX6_matching_41 : decode cX6_matching 41 = .ok (.iconst 1, 1) := by decide +kernel
theorem dX6_matching_42 : decode cX6_matching 42 = .ok (.iload_n 2, 1) := by decide +kernel
theorem dX6_matching_43 : decode cX6_matching 43 = .ok (.ishl, 1) := by decide +kernel
theorem dX6_matching_44 : decode cX6_matching 44 = .ok (.ior, 1) := by decide +kernel
theorem dX6_matching_45 : decode cX6_matching 45 = .ok (.istore_n 1, 1) := by decide +kernel
theorem dX6_matching_46 : decode cX6_matching 46 = .ok (.iinc 2 1, 3) := by decide +kernel
theorem dX6_matching_49 : decode cX6_matching 49 = .ok (.goto (-45), 3) := by decide +kernel
theorem dX6_matching_52 : decode cX6_matching 52 = .ok (.iload_n 1, 1) := by decide +kernel
theorem dX6_matching_53 : decode cX6_matching 53 = .ok (.ireturn, 1) := by decide +kernel
set_option maxRecDepth 20000 in
theorem ggX6_matchingByIndex_Jx4a65c_size_8abf5 : GoodIn wsX6_matchingByIndex wsJx4a65c_size_8abf5 := goodIn_r _ [9, 10, 95, 96, 97] (by decide +kernel) (by decide +kernel)
set_option maxRecDepth 20000 in
theorem gX6_matchingByIndex_Jx4a65c_size_8abf5_f34Jx4a65c : GoodIn wsX6_matchingByIndex (va_wsF RX6 34 RJx4a65c ⟨"java/util/List", "size", "()I"⟩ yJx4a65c_size_8abf5 wsJx4a65c_size_8abf5) := goodIn_app (goodIn_of _ (by decide +kernel)) ggX6_matchingByIndex_Jx4a65c_size_8abf5
set_option maxRecDepth 20000 in
theorem ggX6_matchingByIndex_Jx4a65c_get_915e3 : GoodIn wsX6_matchingByIndex wsJx4a65c_get_915e3 := goodIn_r _ [14, 10, 15, 16, 17, 18, 19, 20, 21, 22, 23, 24, 25, 8, 26, 27, 95, 96, 97] (by decide +kernel) (by decide +kernel)
set_option maxRecDepth 20000 in
theorem gX6_matchingByIndex_Jx4a65c_get_915e3_f122Jx4a65c : GoodIn wsX6_matchingByIndex (va_wsF RX6 122 RJx4a65c ⟨"java/util/List", "get", "(I)Ljava/lang/Object;"⟩ yJx4a65c_get_915e3 wsJx4a65c_get_915e3) := goodIn_app (goodIn_of _ (by decide +kernel)) ggX6_matchingByIndex_Jx4a65c_get_915e3
set_option maxRecDepth 20000 in
theorem ggX6_matchingByIndex_X4_forgetHits : GoodIn wsX6_matchingByIndex wsX4_forgetHits := goodIn_r _ [32, 33, 34, 35, 36, 6, 7, 8, 9, 10, 37, 12, 13, 14, 15, 16, 17, 18, 19, 20, 21, 22, 23, 24, 25, 26, 27, 98, 99, 100, 101, 102, 103, 104, 105, 106, 95, 96, 97] (by decide +kernel) (by decide +kernel)
set_option maxRecDepth 20000 in
theorem gX6_matchingByIndex_X4_forgetHits : GoodIn wsX6_matchingByIndex (wsV RX6 141 RX4 yX4_forgetHits wsX4_forgetHits) := goodIn_app (goodIn_of _ (by decide +kernel)) ggX6_matchingByIndex_X4_forgetHits
set_option maxRecDepth 20000 in
theorem ggX6_matchingByIndex_X1_countHits : GoodIn wsX6_matchingByIndex wsX1_countHits := goodIn_r _ [42, 43, 44, 45, 46, 47, 48, 49, 50, 51, 52, 53, 54, 41, 55, 56, 57, 58, 59, 60, 61, 62, 63, 107, 108, 109, 104, 105, 106, 110] (by decide +kernel) (by decide +kernel)
set_option maxRecDepth 20000 in
theorem gX6_matchingByIndex_X1_countHits : GoodIn wsX6_matchingByIndex (wsV RX6 144 RX1 yX1_countHits wsX1_countHits) := goodIn_app (goodIn_of _ (by decide +kernel)) ggX6_matchingByIndex_X1_countHits
set_option maxRecDepth 20000 in
theorem ggX6_matchingByIndex_X4_isSatisfiedByHits : GoodIn wsX6_matchingByIndex wsX4_isSatisfiedByHits := goodIn_r _ [67, 68, 33, 34, 36, 6, 7, 8, 9, 10, 37, 12, 13, 14, 15, 16, 17, 18, 19, 20, 21, 22, 23, 24, 25, 26, 27, 69, 70, 71, 72, 73, 74, 75, 76, 77, 78, 79, 80, 81, 82, 83, 84, 85, 86, 87, 88, 89, 90, 44, 45, 46, 47, 48, 98, 99, 100, 101, 102, 103, 95, 96, 97, 104, 105, 106, 111, 112, 113, 114, 107] (by decide +kernel) (by decide +kernel)
set_option maxRecDepth 20000 in
theorem gX6_matchingByIndex_X4_isSatisfiedByHits : GoodIn wsX6_matchingByIndex (wsV RX6 148 RX4 yX4_isSatisfiedByHits wsX4_isSatisfiedByHits) := goodIn_app (goodIn_of _ (by decide +kernel)) ggX6_matchingByIndex_X4_isSatisfiedByHits
theorem dX6_matchingByIndex_0 : decode cX6_matchingByIndex 0 = .ok (.iconst 0, 1) := by decide +kernel
theorem dX6_matchingByIndex_1 : decode cX6_matchingByIndex 1 = .ok (.istore_n 1, 1) := by decide +kernel
theorem dX6_matchingByIndex_2 : decode cX6_matchingByIndex 2 = .ok (.iload_n 1, 1) := by decide +kernel
theorem dX6_matchingByIndex_3 : decode cX6_matchingByIndex 3 = .ok (.aload_n 0, 1) := by decide +kernel
theorem dX6_matchingByIndex_4 : decode cX6_matchingByIndex 4 = .ok (.getfield 10, 3) := by decide +kernel
theorem dX6_matchingByIndex_7 : decode cX6_matchingByIndex 7 = .ok (.invokeinterface 34 1, 5) := by decide +kernel
theorem dX6_matchingByIndex_12 : decode cX6_matchingByIndex 12 = .ok (.if_icmp .ge 25, 3) := by decide +kernel
theorem dX6_matchingByIndex_15 : decode cX6_matchingByIndex 15 = .ok (.aload_n 0, 1) := by decide +kernel
theorem dX6_matchingByIndex_16 : decode cX6_matchingByIndex 16 = .ok (.getfield 10, 3) := by decide +kernel
theorem dX6_matchingByIndex_19 : decode cX6_matchingByIndex 19 = .ok (.iload_n 1, 1) := by decide +kernel
theorem dX6_matchingByIndex_20 : decode cX6_matchingByIndex 20 = .ok (.invokeinterface 122 2, 5) := by decide +kernel
theorem dX6_matchingByIndex_25 : decode cX6_matchingByIndex 25 = .ok (.checkcast 47, 3) := by decide +kernel
theorem dX6_matchingByIndex_28 : decode cX6_matchingByIndex 28 = .ok (.invokevirtual 141, 3) := by decide +kernel
theorem dX6_matchingByIndex_31 : decode cX6_matchingByIndex 31 = .ok (.iinc 1 1, 3) := by decide +kernel
theorem dX6_matchingByIndex_34 : decode cX6_matchingByIndex 34 = .ok (.goto (-32), 3) := by decide +kernel
theorem dX6_matchingByIndex_37 : decode cX6_matchingByIndex 37 = .ok (.aload_n 0, 1) := by decide +kernel
theorem dX6_matchingByIndex_38 : decode cX6_matchingByIndex 38 = .ok (.getfield 26, 3) := by decide +kernel
theorem dX6_matchingByIndex_41 : decode cX6_matchingByIndex 41 = .ok (.aload_n 0, 1) := by decide +kernel
theorem dX6_matchingByIndex_42 : decode cX6_matchingByIndex 42 = .ok (.getfield 19, 3) := by decide +kernel
theorem dX6_matchingByIndex_45 : decode cX6_matchingByIndex 45 = .ok (.invokevirtual 144, 3) := by decide +kernel
theorem dX6_matchingByIndex_48 : decode cX6_matchingByIndex 48 = .ok (.iconst 0, 1) := by decide +kernel
theorem dX6_matchingByIndex_49 : decode cX6_matchingByIndex 49 = .ok (.istore_n 1, 1) := by decide +kernel
theorem dX6_matchingByIndex_50 : decode cX6_matchingByIndex 50 = .ok (.iconst 0, 1) := by decide +kernel
theorem dX6_matchingByIndex_51 : decode cX6_matchingByIndex 51 = .ok (.istore_n 2, 1) := by decide +kernel
theorem dX6_matchingByIndex_52 : decode cX6_matchingByIndex 52 = .ok (.iload_n 2, 1) := by decide +kernel
theorem dX6_matchingByIndex_53 : decode cX6_matchingByIndex 53 = .ok (.aload_n 0, 1) := by decide +kernel
theorem dX6_matchingByIndex_54 : decode cX6_matchingByIndex 54 = .ok (.getfield 10, 3) := by decide +kernel
theorem dX6_matchingByIndex_57 : decode cX6_matchingByIndex 57 = .ok (.invokeinterface 34 1, 5) := by decide +kernel
theorem dX6_matchingByIndex_62 : decode cX6_matchingByIndex 62 = .ok (.if_icmp .ge 38, 3) := by decide +kernel
theorem dX6_matchingByIndex_65 : decode cX6_matchingByIndex 65 = .ok (.aload_n 0, 1) := by decide +kernel
theorem dX6_matchingByIndex_66 : decode cX6_matchingByIndex 66 = .ok (.getfield 10, 3) := by decide +kernel
theorem dX6_matchingByIndex_69 : decode cX6_matchingByIndex 69 = .ok (.iload_n 2, 1) := by decide +kernel
theorem dX6_matchingByIndex_70 : decode cX6_matchingByIndex 70 = .ok (.invokeinterface 122 2, 5) := by decide +kernel
theorem dX6_matchingByIndex_75 : decode cX6_matchingByIndex 75 = .ok (.checkcast 47, 3) := by decide +kernel
theorem dX6_matchingByIndex_78 : decode cX6_matchingByIndex 78 = .ok (.aload_n 0, 1) := by decide +kernel
theorem dX6_matchingByIndex_79 : decode cX6_matchingByIndex 79 = .ok (.getfield 19, 3) := by decide +kernel
theorem dX6_matchingByIndex_82 : decode cX6_matchingByIndex 82 = .ok (.invokevirtual 148, 3) := by decide +kernel
theorem dX6_matchingByIndex_85 : decode cX6_matchingByIndex 85 = .ok (.ifCond .eq 9, 3) := by decide +kernel
theorem dX6_matchingByIndex_88 : decode cX6_matchingByIndex 88 = .ok (.iload_n 1, 1) := by decide +kernel
theorem dX6_matchingByIndex_89 : decode cX6_matchingByIndex 89 = .ok (.iconst 1, 1) := by decide +kernel
theorem dX6_matchingByIndex_90 : decode cX6_matchingByIndex 90 = .ok (.iload_n 2, 1) := by decide +kernel
theorem dX6_matchingByIndex_91 : decode cX6_matchingByIndex 91 = .ok (.ishl, 1) := by decide +kernel
theorem dX6_matchingByIndex_92 : decode cX6_matchingByIndex 92 = .ok (.ior, 1) := by decide +kernel
theorem dX6_matchingByIndex_93 : decode cX6_matchingByIndex 93 = .ok (.istore_n 1, 1) := by decide +kernel
theorem dX6_matchingByIndex_94 : decode cX6_matchingByIndex 94 = .ok (.iinc 2 1, 3) := by decide +kernel
theorem dX6_matchingByIndex_97 : decode cX6_matchingByIndex 97 = .ok (.goto (-45), 3) := by decide +kernel
theorem dX6_matchingByIndex_100 : decode cX6_matchingByIndex 100 = .ok (.iload_n 1, 1) := by decide +kernel
theorem dX6_matchingByIndex_101 : decode cX6_matchingByIndex 101 = .ok (.ireturn, 1) := by decide +kernel
set_option maxRecDepth 20000 in
theorem ggX6_sizeOf_X6_questionOf : GoodIn wsX6_sizeOf wsX6_questionOf := goodIn_ca (goodIn_r _ [5, 6, 7, 8, 9, 10, 11, 12, 13, 14, 15, 16, 17, 18, 19, 20, 21, 22, 23, 24, 25, 26, 27, 28, 29, 30, 31, 32, 33, 52, 53, 54, 55, 56, 57, 58, 59, 60, 61, 62, 63, 64] (by decide +kernel) (by decide +kernel)) (goodIn_sub (fun _ h => List.mem_cons_of_mem _ (List.mem_append_right _ h)) (by decide +kernel))
set_option maxRecDepth 20000 in
theorem gX6_sizeOf_X6_questionOf : GoodIn wsX6_sizeOf (wsV RX6 54 RX6 yX6_questionOf wsX6_questionOf) := goodIn_app (goodIn_of _ (by decide +kernel)) ggX6_sizeOf_X6_questionOf
set_option maxRecDepth 20000 in
theorem ggX6_sizeOf_X4_leastSize : GoodIn wsX6_sizeOf wsX4_leastSize := goodIn_r _ [38, 39, 40, 41, 42, 43, 44, 45, 46, 12, 13, 14, 15, 16, 47, 18, 19, 20, 21, 22, 23, 24, 25, 26, 27, 28, 29, 30, 31, 32, 33, 48, 49, 50, 51, 56, 57, 58, 59, 60, 61, 65, 66, 67, 62, 63, 64] (by decide +kernel) (by decide +kernel)
set_option maxRecDepth 20000 in
theorem gX6_sizeOf_X4_leastSize : GoodIn wsX6_sizeOf (wsV RX6 151 RX4 yX4_leastSize wsX4_leastSize) := goodIn_app (goodIn_of _ (by decide +kernel)) ggX6_sizeOf_X4_leastSize
theorem dX6_sizeOf_0 : decode cX6_sizeOf 0 = .ok (.aload_n 0, 1) := by decide +kernel
theorem dX6_sizeOf_1 : decode cX6_sizeOf 1 = .ok (.iload_n 1, 1) := by decide +kernel
theorem dX6_sizeOf_2 : decode cX6_sizeOf 2 = .ok (.invokevirtual 54, 3) := by decide +kernel
theorem dX6_sizeOf_5 : decode cX6_sizeOf 5 = .ok (.invokevirtual 151, 3) := by decide +kernel
theorem dX6_sizeOf_8 : decode cX6_sizeOf 8 = .ok (.ireturn, 1) := by decide +kernel
set_option maxRecDepth 20000 in
theorem ggX6_withSize_Jx4a65c_size_8abf5 : GoodIn wsX6_withSize wsJx4a65c_size_8abf5 := goodIn_r _ [8, 9, 55, 56, 57] (by decide +kernel) (by decide +kernel)
set_option maxRecDepth 20000 in
theorem gX6_withSize_Jx4a65c_size_8abf5_f34Jx4a65c : GoodIn wsX6_withSize (va_wsF RX6 34 RJx4a65c ⟨"java/util/List", "size", "()I"⟩ yJx4a65c_size_8abf5 wsJx4a65c_size_8abf5) := goodIn_app (goodIn_of _ (by decide +kernel)) ggX6_withSize_Jx4a65c_size_8abf5
set_option maxRecDepth 20000 in
theorem ggX6_withSize_Jx4a65c_get_915e3 : GoodIn wsX6_withSize wsJx4a65c_get_915e3 := goodIn_r _ [13, 9, 14, 15, 16, 17, 18, 19, 20, 21, 22, 23, 24, 7, 25, 26, 55, 56, 57] (by decide +kernel) (by decide +kernel)
set_option maxRecDepth 20000 in
theorem gX6_withSize_Jx4a65c_get_915e3_f122Jx4a65c : GoodIn wsX6_withSize (va_wsF RX6 122 RJx4a65c ⟨"java/util/List", "get", "(I)Ljava/lang/Object;"⟩ yJx4a65c_get_915e3 wsJx4a65c_get_915e3) := goodIn_app (goodIn_of _ (by decide +kernel)) ggX6_withSize_Jx4a65c_get_915e3
set_option maxRecDepth 20000 in
theorem ggX6_withSize_X4_leastSize : GoodIn wsX6_withSize wsX4_leastSize := goodIn_r _ [31, 32, 33, 34, 35, 36, 37, 38, 39, 5, 6, 7, 8, 9, 40, 11, 12, 13, 14, 15, 16, 17, 18, 19, 20, 21, 22, 23, 24, 25, 26, 41, 42, 43, 44, 49, 50, 51, 52, 53, 54, 58, 59, 60, 55, 56, 57] (by decide +kernel) (by decide +kernel)
set_option maxRecDepth 20000 in
theorem gX6_withSize_X4_leastSize : GoodIn wsX6_withSize (wsV RX6 151 RX4 yX4_leastSize wsX4_leastSize) := goodIn_app (goodIn_of _ (by decide +kernel)) ggX6_withSize_X4_leastSize
theorem dX6_withSize_0 : decode cX6_withSize 0 = .ok (.iconst 0, 1) := by decide +kernel
theorem dX6_withSize_1 : decode cX6_withSize 1 = .ok (.istore_n 2, 1) := by decide +kernel
theorem dX6_withSize_2 : decode cX6_withSize 2 = .ok (.iconst 0, 1) := by decide +kernel
theorem dX6_withSize_3 : decode cX6_withSize 3 = .ok (.istore_n 3, 1) := by decide +kernel
theorem dX6_withSize_4 : decode cX6_withSize 4 = .ok (.iload_n 3, 1) := by decide +kernel
theorem dX6_withSize_5 : decode cX6_withSize 5 = .ok (.aload_n 0, 1) := by decide +kernel
theorem dX6_withSize_6 : decode cX6_withSize 6 = .ok (.getfield 10, 3) := by decide +kernel
theorem dX6_withSize_9 : decode cX6_withSize 9 = .ok (.invokeinterface 34 1, 5) := by decide +kernel
theorem dX6_withSize_14 : decode cX6_withSize 14 = .ok (.if_icmp .ge 44, 3) := by decide +kernel
theorem dX6_withSize_17 : decode cX6_withSize 17 = .ok (.aload_n 0, 1) := by decide +kernel
theorem dX6_withSize_18 : decode cX6_withSize 18 = .ok (.getfield 10, 3) := by decide +kernel
theorem dX6_withSize_21 : decode cX6_withSize 21 = .ok (.iload_n 3, 1) := by decide +kernel
theorem dX6_withSize_22 : decode cX6_withSize 22 = .ok (.invokeinterface 122 2, 5) := by decide +kernel
theorem dX6_withSize_27 : decode cX6_withSize 27 = .ok (.checkcast 47, 3) := by decide +kernel
theorem dX6_withSize_30 : decode cX6_withSize 30 = .ok (.astore 4, 2) := by decide +kernel
theorem dX6_withSize_32 : decode cX6_withSize 32 = .ok (.aload 4, 2) := by decide +kernel
theorem dX6_withSize_34 : decode cX6_withSize 34 = .ok (.getfield 97, 3) := by decide +kernel
theorem dX6_withSize_37 : decode cX6_withSize 37 = .ok (.ifCond .ne 15, 3) := by decide +kernel
theorem dX6_withSize_40 : decode cX6_withSize 40 = .ok (.aload 4, 2) := by decide +kernel
theorem dX6_withSize_42 : decode cX6_withSize 42 = .ok (.invokevirtual 151, 3) := by decide +kernel
theorem dX6_withSize_45 : decode cX6_withSize 45 = .ok (.iload_n 1, 1) := by decide +kernel
theorem dX6_withSize_46 : decode cX6_withSize 46 = .ok (.if_icmp .ne 6, 3) := by decide +kernel
theorem dX6_withSize_49 : decode cX6_withSize 49 = .ok (.iinc 2 1, 3) := by decide +kernel
theorem dX6_withSize_52 : decode cX6_withSize 52 = .ok (.iinc 3 1, 3) := by decide +kernel
theorem dX6_withSize_55 : decode cX6_withSize 55 = .ok (.goto (-51), 3) := by decide +kernel
theorem dX6_withSize_58 : decode cX6_withSize 58 = .ok (.iload_n 2, 1) := by decide +kernel
theorem dX6_withSize_59 : decode cX6_withSize 59 = .ok (.ireturn, 1) := by decide +kernel
set_option maxRecDepth 20000 in
theorem ggX6_pieces_X6_refuseNoRange : GoodIn wsX6_pieces wsX6_refuseNoRange := goodIn_ca (goodIn_r _ [4, 5, 6, 7, 8, 3, 9] (by decide +kernel) (by decide +kernel)) (goodIn_sub (fun _ h => List.mem_cons_of_mem _ (List.mem_append_right _ h)) (by decide +kernel))
set_option maxRecDepth 20000 in
theorem gX6_pieces_X6_refuseNoRange : GoodIn wsX6_pieces (va_wsS RX6 70 yX6_refuseNoRange wsX6_refuseNoRange) := goodIn_app (goodIn_of _ (by decide +kernel)) ggX6_pieces_X6_refuseNoRange
set_option maxRecDepth 20000 in
theorem ggX6_pieces_X6_levelOfPiece : GoodIn wsX6_pieces wsX6_levelOfPiece := goodIn_r _ [12] (by decide +kernel) (by decide +kernel)
set_option maxRecDepth 20000 in
theorem gX6_pieces_X6_levelOfPiece : GoodIn wsX6_pieces (va_wsS RX6 154 yX6_levelOfPiece wsX6_levelOfPiece) := goodIn_app (goodIn_of _ (by decide +kernel)) ggX6_pieces_X6_levelOfPiece
theorem dX6_pieces_0 : decode cX6_pieces 0 = .ok (.iload_n 1, 1) := by decide +kernel
theorem dX6_pieces_1 : decode cX6_pieces 1 = .ok (.iload_n 2, 1) := by decide +kernel
theorem dX6_pieces_2 : decode cX6_pieces 2 = .ok (.invokestatic 70, 3) := by decide +kernel
theorem dX6_pieces_5 : decode cX6_pieces 5 = .ok (.iload_n 1, 1) := by decide +kernel
theorem dX6_pieces_6 : decode cX6_pieces 6 = .ok (.istore_n 3, 1) := by decide +kernel
theorem dX6_pieces_7 : decode cX6_pieces 7 = .ok (.iconst 0, 1) := by decide +kernel
theorem dX6_pieces_8 : decode cX6_pieces 8 = .ok (.istore 4, 2) := by decide +kernel
theorem dX6_pieces_10 : decode cX6_pieces 10 = .ok (.iload_n 3, 1) := by decide +kernel
theorem dX6_pieces_11 : decode cX6_pieces 11 = .ok (.iload_n 2, 1) := by decide +kernel
theorem dX6_pieces_12 : decode cX6_pieces 12 = .ok (.if_icmp .gt 26, 3) := by decide +kernel
theorem dX6_pieces_15 : decode cX6_pieces 15 = .ok (.iload 4, 2) := by decide +kernel
theorem dX6_pieces_17 : decode cX6_pieces 17 = .ok (.bipush 64, 2) := by decide +kernel
theorem dX6_pieces_19 : decode cX6_pieces 19 = .ok (.if_icmp .ge 19, 3) := by decide +kernel
theorem dX6_pieces_22 : decode cX6_pieces 22 = .ok (.iload_n 3, 1) := by decide +kernel
theorem dX6_pieces_23 : decode cX6_pieces 23 = .ok (.iconst 1, 1) := by decide +kernel
theorem dX6_pieces_24 : decode cX6_pieces 24 = .ok (.iload_n 3, 1) := by decide +kernel
theorem dX6_pieces_25 : decode cX6_pieces 25 = .ok (.iload_n 2, 1) := by decide +kernel
theorem dX6_pieces_26 : decode cX6_pieces 26 = .ok (.invokestatic 154, 3) := by decide +kernel
theorem dX6_pieces_29 : decode cX6_pieces 29 = .ok (.ishl, 1) := by decide +kernel
theorem dX6_pieces_30 : decode cX6_pieces 30 = .ok (.iadd, 1) := by decide +kernel
theorem dX6_pieces_31 : decode cX6_pieces 31 = .ok (.istore_n 3, 1) := by decide +kernel
theorem dX6_pieces_32 : decode cX6_pieces 32 = .ok (.iinc 4 1, 3) := by decide +kernel
theorem dX6_pieces_35 : decode cX6_pieces 35 = .ok (.goto (-25), 3) := by decide +kernel
theorem dX6_pieces_38 : decode cX6_pieces 38 = .ok (.iload 4, 2) := by decide +kernel
theorem dX6_pieces_40 : decode cX6_pieces 40 = .ok (.ireturn, 1) := by decide +kernel
set_option maxRecDepth 20000 in
theorem ggX6_pieceAt_X6_refuseNoRange : GoodIn wsX6_pieceAt wsX6_refuseNoRange := goodIn_ca (goodIn_r _ [6, 7, 8, 9, 10, 5, 11] (by decide +kernel) (by decide +kernel)) (goodIn_sub (fun _ h => List.mem_cons_of_mem _ (List.mem_append_right _ h)) (by decide +kernel))
set_option maxRecDepth 20000 in
theorem gX6_pieceAt_X6_refuseNoRange : GoodIn wsX6_pieceAt (va_wsS RX6 70 yX6_refuseNoRange wsX6_refuseNoRange) := goodIn_app (goodIn_of _ (by decide +kernel)) ggX6_pieceAt_X6_refuseNoRange
set_option maxRecDepth 20000 in
theorem ggX6_pieceAt_X6_levelOfPiece : GoodIn wsX6_pieceAt wsX6_levelOfPiece := goodIn_r _ [14] (by decide +kernel) (by decide +kernel)
set_option maxRecDepth 20000 in
theorem gX6_pieceAt_X6_levelOfPiece : GoodIn wsX6_pieceAt (va_wsS RX6 154 yX6_levelOfPiece wsX6_levelOfPiece) := goodIn_app (goodIn_of _ (by decide +kernel)) ggX6_pieceAt_X6_levelOfPiece
theorem dX6_pieceAt_0 : decode cX6_pieceAt 0 = .ok (.iload_n 3, 1) := by decide +kernel
theorem dX6_pieceAt_1 : decode cX6_pieceAt 1 = .ok (.ifCond .ge 13, 3) := by decide +kernel
theorem dX6_pieceAt_4 : decode cX6_pieceAt 4 = .ok (.new 157, 3) := by decide +kernel
theorem dX6_pieceAt_7 : decode cX6_pieceAt 7 = .ok (.dup, 1) := by decide +kernel
theorem dX6_pieceAt_8 : decode cX6_pieceAt 8 = .ok (.ldc 159, 2) := by decide +kernel
theorem dX6_pieceAt_10 : decode cX6_pieceAt 10 = .ok (.invokespecial 161, 3) := by decide +kernel
theorem dX6_pieceAt_13 : decode cX6_pieceAt 13 = .ok (.athrow, 1) := by decide +kernel
theorem dX6_pieceAt_14 : decode cX6_pieceAt 14 = .ok (.iload_n 1, 1) := by decide +kernel
theorem dX6_pieceAt_15 : decode cX6_pieceAt 15 = .ok (.iload_n 2, 1) := by decide +kernel
theorem dX6_pieceAt_16 : decode cX6_pieceAt 16 = .ok (.invokestatic 70, 3) := by decide +kernel
theorem dX6_pieceAt_19 : decode cX6_pieceAt 19 = .ok (.iload_n 1, 1) := by decide +kernel
theorem dX6_pieceAt_20 : decode cX6_pieceAt 20 = .ok (.istore 4, 2) := by decide +kernel
theorem dX6_pieceAt_22 : decode cX6_pieceAt 22 = .ok (.iconst 0, 1) := by decide +kernel
theorem dX6_pieceAt_23 : decode cX6_pieceAt 23 = .ok (.istore 5, 2) := by decide +kernel
theorem dX6_pieceAt_25 : decode cX6_pieceAt 25 = .ok (.iload 5, 2) := by decide +kernel
theorem dX6_pieceAt_27 : decode cX6_pieceAt 27 = .ok (.iload_n 3, 1) := by decide +kernel
theorem dX6_pieceAt_28 : decode cX6_pieceAt 28 = .ok (.if_icmp .ge 35, 3) := by decide +kernel
theorem dX6_pieceAt_31 : decode cX6_pieceAt 31 = .ok (.iload 5, 2) := by decide +kernel
theorem dX6_pieceAt_33 : decode cX6_pieceAt 33 = .ok (.bipush 64, 2) := by decide +kernel
theorem dX6_pieceAt_35 : decode cX6_pieceAt 35 = .ok (.if_icmp .ge 28, 3) := by decide +kernel
theorem dX6_pieceAt_38 : decode cX6_pieceAt 38 = .ok (.iload 4, 2) := by decide +kernel
theorem dX6_pieceAt_40 : decode cX6_pieceAt 40 = .ok (.iload_n 2, 1) := by decide +kernel
theorem dX6_pieceAt_41 : decode cX6_pieceAt 41 = .ok (.if_icmp .gt 22, 3) := by decide +kernel
theorem dX6_pieceAt_44 : decode cX6_pieceAt 44 = .ok (.iload 4, 2) := by decide +kernel
theorem dX6_pieceAt_46 : decode cX6_pieceAt 46 = .ok (.iconst 1, 1) := by decide +kernel
theorem dX6_pieceAt_47 : decode cX6_pieceAt 47 = .ok (.iload 4, 2) := by decide +kernel
theorem dX6_pieceAt_49 : decode cX6_pieceAt 49 = .ok (.iload_n 2, 1) := by decide +kernel
theorem dX6_pieceAt_50 : decode cX6_pieceAt 50 = .ok (.invokestatic 154, 3) := by decide +kernel
theorem dX6_pieceAt_53 : decode cX6_pieceAt 53 = .ok (.ishl, 1) := by decide +kernel
theorem dX6_pieceAt_54 : decode cX6_pieceAt 54 = .ok (.iadd, 1) := by decide +kernel
theorem dX6_pieceAt_55 : decode cX6_pieceAt 55 = .ok (.istore 4, 2) := by decide +kernel
theorem dX6_pieceAt_57 : decode cX6_pieceAt 57 = .ok (.iinc 5 1, 3) := by decide +kernel
theorem dX6_pieceAt_60 : decode cX6_pieceAt 60 = .ok (.goto (-35), 3) := by decide +kernel
theorem dX6_pieceAt_63 : decode cX6_pieceAt 63 = .ok (.iload 4, 2) := by decide +kernel
theorem dX6_pieceAt_65 : decode cX6_pieceAt 65 = .ok (.iload_n 2, 1) := by decide +kernel
theorem dX6_pieceAt_66 : decode cX6_pieceAt 66 = .ok (.if_icmp .le 5, 3) := by decide +kernel
theorem dX6_pieceAt_69 : decode cX6_pieceAt 69 = .ok (.iconst (-1), 1) := by decide +kernel
theorem dX6_pieceAt_70 : decode cX6_pieceAt 70 = .ok (.ireturn, 1) := by decide +kernel
theorem dX6_pieceAt_71 : decode cX6_pieceAt 71 = .ok (.bipush 100, 2) := by decide +kernel
theorem dX6_pieceAt_73 : decode cX6_pieceAt 73 = .ok (.iload 4, 2) := by decide +kernel
theorem dX6_pieceAt_75 : decode cX6_pieceAt 75 = .ok (.imul, 1) := by decide +kernel
theorem dX6_pieceAt_76 : decode cX6_pieceAt 76 = .ok (.iconst 1, 1) := by decide +kernel
theorem dX6_pieceAt_77 : decode cX6_pieceAt 77 = .ok (.iload 4, 2) := by decide +kernel
theorem dX6_pieceAt_79 : decode cX6_pieceAt 79 = .ok (.iload_n 2, 1) := by decide +kernel
theorem dX6_pieceAt_80 : decode cX6_pieceAt 80 = .ok (.invokestatic 154, 3) := by decide +kernel
theorem dX6_pieceAt_83 : decode cX6_pieceAt 83 = .ok (.ishl, 1) := by decide +kernel
theorem dX6_pieceAt_84 : decode cX6_pieceAt 84 = .ok (.iadd, 1) := by decide +kernel
theorem dX6_pieceAt_85 : decode cX6_pieceAt 85 = .ok (.ireturn, 1) := by decide +kernel
theorem dX6_minute_0 : decode cX6_minute 0 = .ok (.aload_n 0, 1) := by decide +kernel
theorem dX6_minute_1 : decode cX6_minute 1 = .ok (.getfield 30, 3) := by decide +kernel
theorem dX6_minute_4 : decode cX6_minute 4 = .ok (.ireturn, 1) := by decide +kernel
set_option maxRecDepth 20000 in
theorem ggX6_isQuiet_X6_questionOf : GoodIn wsX6_isQuiet wsX6_questionOf := goodIn_ca (goodIn_r _ [6, 7, 8, 9, 10, 11, 12, 13, 14, 15, 16, 17, 18, 19, 20, 21, 22, 23, 24, 25, 26, 27, 28, 29, 30, 31, 32, 33, 34, 41, 42, 43, 44, 45, 46, 47, 48, 49, 50, 51, 52, 53] (by decide +kernel) (by decide +kernel)) (goodIn_sub (fun _ h => List.mem_cons_of_mem _ (List.mem_append_right _ h)) (by decide +kernel))
set_option maxRecDepth 20000 in
theorem gX6_isQuiet_X6_questionOf : GoodIn wsX6_isQuiet (wsV RX6 54 RX6 yX6_questionOf wsX6_questionOf) := goodIn_app (goodIn_of _ (by decide +kernel)) ggX6_isQuiet_X6_questionOf
set_option maxRecDepth 20000 in
theorem ggX6_isQuiet_X4_isQuietAt : GoodIn wsX6_isQuiet wsX4_isQuietAt := goodIn_r _ [39, 40, 45, 46, 47, 48, 49, 50] (by decide +kernel) (by decide +kernel)
set_option maxRecDepth 20000 in
theorem gX6_isQuiet_X4_isQuietAt : GoodIn wsX6_isQuiet (wsV RX6 162 RX4 yX4_isQuietAt wsX4_isQuietAt) := goodIn_app (goodIn_of _ (by decide +kernel)) ggX6_isQuiet_X4_isQuietAt
theorem dX6_isQuiet_0 : decode cX6_isQuiet 0 = .ok (.aload_n 0, 1) := by decide +kernel
theorem dX6_isQuiet_1 : decode cX6_isQuiet 1 = .ok (.iload_n 1, 1) := by decide +kernel
theorem dX6_isQuiet_2 : decode cX6_isQuiet 2 = .ok (.invokevirtual 54, 3) := by decide +kernel
theorem dX6_isQuiet_5 : decode cX6_isQuiet 5 = .ok (.aload_n 0, 1) := by decide +kernel
theorem dX6_isQuiet_6 : decode cX6_isQuiet 6 = .ok (.getfield 30, 3) := by decide +kernel
theorem dX6_isQuiet_9 : decode cX6_isQuiet 9 = .ok (.invokevirtual 162, 3) := by decide +kernel
theorem dX6_isQuiet_12 : decode cX6_isQuiet 12 = .ok (.ireturn, 1) := by decide +kernel
set_option maxRecDepth 20000 in
theorem ggX6_alerts_X6_questionOf : GoodIn wsX6_alerts wsX6_questionOf := goodIn_ca (goodIn_r _ [6, 7, 8, 9, 10, 11, 12, 13, 14, 15, 16, 17, 18, 19, 20, 21, 22, 23, 24, 25, 26, 27, 28, 29, 30, 31, 32, 33, 34, 41, 42, 43, 44, 35, 36, 37, 38, 39, 40, 45, 46, 47] (by decide +kernel) (by decide +kernel)) (goodIn_sub (fun _ h => List.mem_cons_of_mem _ (List.mem_append_right _ h)) (by decide +kernel))
set_option maxRecDepth 20000 in
theorem gX6_alerts_X6_questionOf : GoodIn wsX6_alerts (wsV RX6 54 RX6 yX6_questionOf wsX6_questionOf) := goodIn_app (goodIn_of _ (by decide +kernel)) ggX6_alerts_X6_questionOf
theorem dX6_alerts_0 : decode cX6_alerts 0 = .ok (.aload_n 0, 1) := by decide +kernel
theorem dX6_alerts_1 : decode cX6_alerts 1 = .ok (.iload_n 1, 1) := by decide +kernel
theorem dX6_alerts_2 : decode cX6_alerts 2 = .ok (.invokevirtual 54, 3) := by decide +kernel
theorem dX6_alerts_5 : decode cX6_alerts 5 = .ok (.getfield 165, 3) := by decide +kernel
theorem dX6_alerts_8 : decode cX6_alerts 8 = .ok (.ireturn, 1) := by decide +kernel
set_option maxRecDepth 20000 in
theorem ggX6_batch_X6_questionOf : GoodIn wsX6_batch wsX6_questionOf := goodIn_ca (goodIn_r _ [6, 7, 8, 9, 10, 11, 12, 13, 14, 15, 16, 17, 18, 19, 20, 21, 22, 23, 24, 25, 26, 27, 28, 29, 30, 31, 32, 33, 34, 41, 42, 43, 44, 35, 36, 37, 38, 39, 40, 45, 46, 47] (by decide +kernel) (by decide +kernel)) (goodIn_sub (fun _ h => List.mem_cons_of_mem _ (List.mem_append_right _ h)) (by decide +kernel))
set_option maxRecDepth 20000 in
theorem gX6_batch_X6_questionOf : GoodIn wsX6_batch (wsV RX6 54 RX6 yX6_questionOf wsX6_questionOf) := goodIn_app (goodIn_of _ (by decide +kernel)) ggX6_batch_X6_questionOf
theorem dX6_batch_0 : decode cX6_batch 0 = .ok (.aload_n 0, 1) := by decide +kernel
theorem dX6_batch_1 : decode cX6_batch 1 = .ok (.iload_n 1, 1) := by decide +kernel
theorem dX6_batch_2 : decode cX6_batch 2 = .ok (.invokevirtual 54, 3) := by decide +kernel
theorem dX6_batch_5 : decode cX6_batch 5 = .ok (.getfield 101, 3) := by decide +kernel
theorem dX6_batch_8 : decode cX6_batch 8 = .ok (.ireturn, 1) := by decide +kernel
set_option maxRecDepth 20000 in
theorem ggX6_questionOf_Jx4a65c_size_8abf5 : GoodIn wsX6_questionOf wsJx4a65c_size_8abf5 := goodIn_r _ [10, 11, 39, 40, 41] (by decide +kernel) (by decide +kernel)
set_option maxRecDepth 20000 in
theorem gX6_questionOf_Jx4a65c_size_8abf5_f34Jx4a65c : GoodIn wsX6_questionOf (va_wsF RX6 34 RJx4a65c ⟨"java/util/List", "size", "()I"⟩ yJx4a65c_size_8abf5 wsJx4a65c_size_8abf5) := goodIn_app (goodIn_of _ (by decide +kernel)) ggX6_questionOf_Jx4a65c_size_8abf5
set_option maxRecDepth 20000 in
theorem ggX6_questionOf_Jx4a65c_get_915e3 : GoodIn wsX6_questionOf wsJx4a65c_get_915e3 := goodIn_r _ [15, 11, 16, 17, 18, 19, 20, 21, 22, 23, 24, 25, 26, 9, 27, 28, 39, 40, 41] (by decide +kernel) (by decide +kernel)
set_option maxRecDepth 20000 in
theorem gX6_questionOf_Jx4a65c_get_915e3_f122Jx4a65c : GoodIn wsX6_questionOf (va_wsF RX6 122 RJx4a65c ⟨"java/util/List", "get", "(I)Ljava/lang/Object;"⟩ yJx4a65c_get_915e3 wsJx4a65c_get_915e3) := goodIn_app (goodIn_of _ (by decide +kernel)) ggX6_questionOf_Jx4a65c_get_915e3
theorem dX6_questionOf_0 : decode cX6_questionOf 0 = .ok (.iload_n 1, 1) := by decide +kernel
theorem dX6_questionOf_1 : decode cX6_questionOf 1 = .ok (.ifCond .lt 16, 3) := by decide +kernel
theorem dX6_questionOf_4 : decode cX6_questionOf 4 = .ok (.iload_n 1, 1) := by decide +kernel
theorem dX6_questionOf_5 : decode cX6_questionOf 5 = .ok (.aload_n 0, 1) := by decide +kernel
theorem dX6_questionOf_6 : decode cX6_questionOf 6 = .ok (.getfield 10, 3) := by decide +kernel
theorem dX6_questionOf_9 : decode cX6_questionOf 9 = .ok (.invokeinterface 34 1, 5) := by decide +kernel
theorem dX6_questionOf_14 : decode cX6_questionOf 14 = .ok (.if_icmp .lt 13, 3) := by decide +kernel
theorem dX6_questionOf_17 : decode cX6_questionOf 17 = .ok (.new 157, 3) := by decide +kernel
theorem dX6_questionOf_20 : decode cX6_questionOf 20 = .ok (.dup, 1) := by decide +kernel
theorem dX6_questionOf_21 : decode cX6_questionOf 21 = .ok (.ldc 168, 2) := by decide +kernel
theorem dX6_questionOf_23 : decode cX6_questionOf 23 = .ok (.invokespecial 161, 3) := by decide +kernel
theorem dX6_questionOf_26 : decode cX6_questionOf 26 = .ok (.athrow, 1) := by decide +kernel
theorem dX6_questionOf_27 : decode cX6_questionOf 27 = .ok (.aload_n 0, 1) := by decide +kernel
theorem dX6_questionOf_28 : decode cX6_questionOf 28 = .ok (.getfield 10, 3) := by decide +kernel
theorem dX6_questionOf_31 : decode cX6_questionOf 31 = .ok (.iload_n 1, 1) := by decide +kernel
theorem dX6_questionOf_32 : decode cX6_questionOf 32 = .ok (.invokeinterface 122 2, 5) := by decide +kernel
theorem dX6_questionOf_37 : decode cX6_questionOf 37 = .ok (.checkcast 47, 3) := by decide +kernel
theorem dX6_questionOf_40 : decode cX6_questionOf 40 = .ok (.astore_n 2, 1) := by decide +kernel
theorem dX6_questionOf_41 : decode cX6_questionOf 41 = .ok (.aload_n 2, 1) := by decide +kernel
theorem dX6_questionOf_42 : decode cX6_questionOf 42 = .ok (.getfield 97, 3) := by decide +kernel
theorem dX6_questionOf_45 : decode cX6_questionOf 45 = .ok (.ifCond .eq 13, 3) := by decide +kernel
theorem dX6_questionOf_48 : decode cX6_questionOf 48 = .ok (.new 157, 3) := by decide +kernel
theorem dX6_questionOf_51 : decode cX6_questionOf 51 = .ok (.dup, 1) := by decide +kernel
theorem dX6_questionOf_52 : decode cX6_questionOf 52 = .ok (.ldc 170, 2) := by decide +kernel
theorem dX6_questionOf_54 : decode cX6_questionOf 54 = .ok (.invokespecial 161, 3) := by decide +kernel
theorem dX6_questionOf_57 : decode cX6_questionOf 57 = .ok (.athrow, 1) := by decide +kernel
theorem dX6_questionOf_58 : decode cX6_questionOf 58 = .ok (.aload_n 2, 1) := by decide +kernel
theorem dX6_questionOf_59 : decode cX6_questionOf 59 = .ok (.areturn, 1) := by decide +kernel
theorem dX6_refuseNoName_0 : decode cX6_refuseNoName 0 = .ok (.iload_n 0, 1) := by decide +kernel
theorem dX6_refuseNoName_1 : decode cX6_refuseNoName 1 = .ok (.ifCond .lt 9, 3) := by decide +kernel
theorem dX6_refuseNoName_4 : decode cX6_refuseNoName 4 = .ok (.iload_n 0, 1) := by decide +kernel
theorem dX6_refuseNoName_5 : decode cX6_refuseNoName 5 = .ok (.bipush 6, 2) := by decide +kernel
theorem dX6_refuseNoName_7 : decode cX6_refuseNoName 7 = .ok (.if_icmp .lt 13, 3) := by decide +kernel
theorem dX6_refuseNoName_10 : decode cX6_refuseNoName 10 = .ok (.new 157, 3) := by decide +kernel
theorem dX6_refuseNoName_13 : decode cX6_refuseNoName 13 = .ok (.dup, 1) := by decide +kernel
theorem dX6_refuseNoName_14 : decode cX6_refuseNoName 14 = .ok (.ldc 172, 2) := by decide +kernel
theorem dX6_refuseNoName_16 : decode cX6_refuseNoName 16 = .ok (.invokespecial 161, 3) := by decide +kernel
theorem dX6_refuseNoName_19 : decode cX6_refuseNoName 19 = .ok (.athrow, 1) := by decide +kernel
theorem dX6_refuseNoName_20 : decode cX6_refuseNoName 20 = .ok (.return_, 1) := by decide +kernel
set_option maxRecDepth 20000 in
theorem ggX6_refuseNoRange_X6_isValue : GoodIn wsX6_refuseNoRange wsX6_isValue := goodIn_r _ [6] (by decide +kernel) (by decide +kernel)
set_option maxRecDepth 20000 in
theorem gX6_refuseNoRange_X6_isValue : GoodIn wsX6_refuseNoRange (va_wsS RX6 112 yX6_isValue wsX6_isValue) := goodIn_app (goodIn_of _ (by decide +kernel)) ggX6_refuseNoRange_X6_isValue
theorem dX6_refuseNoRange_0 : decode cX6_refuseNoRange 0 = .ok (.iload_n 0, 1) := by decide +kernel
theorem dX6_refuseNoRange_1 : decode cX6_refuseNoRange 1 = .ok (.invokestatic 112, 3) := by decide +kernel
theorem dX6_refuseNoRange_4 : decode cX6_refuseNoRange 4 = .ok (.ifCond .eq 15, 3) := by decide +kernel
theorem dX6_refuseNoRange_7 : decode cX6_refuseNoRange 7 = .ok (.iload_n 1, 1) := by decide +kernel
theorem dX6_refuseNoRange_8 : decode cX6_refuseNoRange 8 = .ok (.invokestatic 112, 3) := by decide +kernel
theorem dX6_refuseNoRange_11 : decode cX6_refuseNoRange 11 = .ok (.ifCond .eq 8, 3) := by decide +kernel
theorem dX6_refuseNoRange_14 : decode cX6_refuseNoRange 14 = .ok (.iload_n 0, 1) := by decide +kernel
theorem dX6_refuseNoRange_15 : decode cX6_refuseNoRange 15 = .ok (.iload_n 1, 1) := by decide +kernel
theorem dX6_refuseNoRange_16 : decode cX6_refuseNoRange 16 = .ok (.if_icmp .le 13, 3) := by decide +kernel
theorem dX6_refuseNoRange_19 : decode cX6_refuseNoRange 19 = .ok (.new 104, 3) := by decide +kernel
theorem dX6_refuseNoRange_22 : decode cX6_refuseNoRange 22 = .ok (.dup, 1) := by decide +kernel
theorem dX6_refuseNoRange_23 : decode cX6_refuseNoRange 23 = .ok (.ldc 174, 2) := by decide +kernel
theorem dX6_refuseNoRange_25 : decode cX6_refuseNoRange 25 = .ok (.invokespecial 108, 3) := by decide +kernel
theorem dX6_refuseNoRange_28 : decode cX6_refuseNoRange 28 = .ok (.athrow, 1) := by decide +kernel
theorem dX6_refuseNoRange_29 : decode cX6_refuseNoRange 29 = .ok (.return_, 1) := by decide +kernel
theorem dX6_isValue_0 : decode cX6_isValue 0 = .ok (.iload_n 0, 1) := by decide +kernel
theorem dX6_isValue_1 : decode cX6_isValue 1 = .ok (.ifCond .lt 13, 3) := by decide +kernel
theorem dX6_isValue_4 : decode cX6_isValue 4 = .ok (.iload_n 0, 1) := by decide +kernel
theorem dX6_isValue_5 : decode cX6_isValue 5 = .ok (.bipush 64, 2) := by decide +kernel
theorem dX6_isValue_7 : decode cX6_isValue 7 = .ok (.if_icmp .ge 7, 3) := by decide +kernel
theorem dX6_isValue_10 : decode cX6_isValue 10 = .ok (.iconst 1, 1) := by decide +kernel
theorem dX6_isValue_11 : decode cX6_isValue 11 = .ok (.goto 4, 3) := by decide +kernel
theorem dX6_isValue_14 : decode cX6_isValue 14 = .ok (.iconst 0, 1) := by decide +kernel
theorem dX6_isValue_15 : decode cX6_isValue 15 = .ok (.ireturn, 1) := by decide +kernel
theorem dX6_levelOfPiece_0 : decode cX6_levelOfPiece 0 = .ok (.iconst 0, 1) := by decide +kernel
theorem dX6_levelOfPiece_1 : decode cX6_levelOfPiece 1 = .ok (.istore_n 2, 1) := by decide +kernel
theorem dX6_levelOfPiece_2 : decode cX6_levelOfPiece 2 = .ok (.iconst 2, 1) := by decide +kernel
theorem dX6_levelOfPiece_3 : decode cX6_levelOfPiece 3 = .ok (.istore_n 3, 1) := by decide +kernel
theorem dX6_levelOfPiece_4 : decode cX6_levelOfPiece 4 = .ok (.iload_n 3, 1) := by decide +kernel
theorem dX6_levelOfPiece_5 : decode cX6_levelOfPiece 5 = .ok (.bipush 64, 2) := by decide +kernel
theorem dX6_levelOfPiece_7 : decode cX6_levelOfPiece 7 = .ok (.if_icmp .gt 33, 3) := by decide +kernel
theorem dX6_levelOfPiece_10 : decode cX6_levelOfPiece 10 = .ok (.iload_n 0, 1) := by decide +kernel
theorem dX6_levelOfPiece_11 : decode cX6_levelOfPiece 11 = .ok (.iload_n 3, 1) := by decide +kernel
theorem dX6_levelOfPiece_12 : decode cX6_levelOfPiece 12 = .ok (.iconst 1, 1) := by decide +kernel
theorem dX6_levelOfPiece_13 : decode cX6_levelOfPiece 13 = .ok (.isub, 1) := by decide +kernel
theorem dX6_levelOfPiece_14 : decode cX6_levelOfPiece 14 = .ok (.iand, 1) := by decide +kernel
theorem dX6_levelOfPiece_15 : decode cX6_levelOfPiece 15 = .ok (.ifCond .ne 25, 3) := by decide +kernel
theorem dX6_levelOfPiece_18 : decode cX6_levelOfPiece 18 = .ok (.iload_n 0, 1) := by decide +kernel
theorem dX6_levelOfPiece_19 : decode cX6_levelOfPiece 19 = .ok (.iload_n 3, 1) := by decide +kernel
theorem dX6_levelOfPiece_20 : decode cX6_levelOfPiece 20 = .ok (.iadd, 1) := by decide +kernel
theorem dX6_levelOfPiece_21 : decode cX6_levelOfPiece 21 = .ok (.iconst 1, 1) := by decide +kernel
theorem dX6_levelOfPiece_22 : decode cX6_levelOfPiece 22 = .ok (.isub, 1) := by decide +kernel
theorem dX6_levelOfPiece_23 : decode cX6_levelOfPiece 23 = .ok (.iload_n 1, 1) := by decide +kernel
theorem dX6_levelOfPiece_24 : decode cX6_levelOfPiece 24 = .ok (.if_icmp .le 6, 3) := by decide +kernel
theorem dX6_levelOfPiece_27 : decode cX6_levelOfPiece 27 = .ok (.goto 13, 3) := by decide +kernel
theorem dX6_levelOfPiece_30 : decode cX6_levelOfPiece 30 = .ok (.iinc 2 1, 3) := by decide +kernel
theorem dX6_levelOfPiece_33 : decode cX6_levelOfPiece 33 = .ok (.iload_n 3, 1) := by decide +kernel
theorem dX6_levelOfPiece_34 : decode cX6_levelOfPiece 34 = .ok (.iconst 2, 1) := by decide +kernel
theorem dX6_levelOfPiece_35 : decode cX6_levelOfPiece 35 = .ok (.imul, 1) := by decide +kernel
theorem dX6_levelOfPiece_36 : decode cX6_levelOfPiece 36 = .ok (.istore_n 3, 1) := by decide +kernel
theorem dX6_levelOfPiece_37 : decode cX6_levelOfPiece 37 = .ok (.goto (-33), 3) := by decide +kernel
theorem dX6_levelOfPiece_40 : decode cX6_levelOfPiece 40 = .ok (.iload_n 2, 1) := by decide +kernel
theorem dX6_levelOfPiece_41 : decode cX6_levelOfPiece 41 = .ok (.ireturn, 1) := by decide +kernel
