theorem dX7_init_0 : decode cX7_init 0 = .ok (.aload_n 0, 1) := by decide +kernel
theorem dX7_init_1 : decode cX7_init 1 = .ok (.invokespecial 1, 3) := by decide +kernel
theorem dX7_init_4 : decode cX7_init 4 = .ok (.aload_n 0, 1) := by decide +kernel
theorem dX7_init_5 : decode cX7_init 5 = .ok (.bipush 6, 2) := by decide +kernel
theorem dX7_init_7 : decode cX7_init 7 = .ok (.newarray .int, 2) := by decide +kernel
theorem dX7_init_9 : decode cX7_init 9 = .ok (.putfield 7, 3) := by decide +kernel
theorem dX7_init_12 : decode cX7_init 12 = .ok (.aload_n 0, 1) := by decide +kernel
theorem dX7_init_13 : decode cX7_init 13 = .ok (.bipush 20, 2) := by decide +kernel
theorem dX7_init_15 : decode cX7_init 15 = .ok (.newarray .boolean, 2) := by decide +kernel
theorem dX7_init_17 : decode cX7_init 17 = .ok (.putfield 13, 3) := by decide +kernel
theorem dX7_init_20 : decode cX7_init 20 = .ok (.aload_n 0, 1) := by decide +kernel
theorem dX7_init_21 : decode cX7_init 21 = .ok (.bipush 20, 2) := by decide +kernel
theorem dX7_init_23 : decode cX7_init 23 = .ok (.newarray .int, 2) := by decide +kernel
theorem dX7_init_25 : decode cX7_init 25 = .ok (.putfield 17, 3) := by decide +kernel
theorem dX7_init_28 : decode cX7_init 28 = .ok (.aload_n 0, 1) := by decide +kernel
theorem dX7_init_29 : decode cX7_init 29 = .ok (.bipush 20, 2) := by decide +kernel
theorem dX7_init_31 : decode cX7_init 31 = .ok (.newarray .int, 2) := by decide +kernel
theorem dX7_init_33 : decode cX7_init 33 = .ok (.putfield 20, 3) := by decide +kernel
theorem dX7_init_36 : decode cX7_init 36 = .ok (.aload_n 0, 1) := by decide +kernel
theorem dX7_init_37 : decode cX7_init 37 = .ok (.bipush 20, 2) := by decide +kernel
theorem dX7_init_39 : decode cX7_init 39 = .ok (.newarray .int, 2) := by decide +kernel
theorem dX7_init_41 : decode cX7_init 41 = .ok (.putfield 23, 3) := by decide +kernel
theorem dX7_init_44 : decode cX7_init 44 = .ok (.aload_n 0, 1) := by decide +kernel
theorem dX7_init_45 : decode cX7_init 45 = .ok (.bipush 20, 2) := by decide +kernel
theorem dX7_init_47 : decode cX7_init 47 = .ok (.newarray .int, 2) := by decide +kernel
theorem dX7_init_49 : decode cX7_init 49 = .ok (.putfield 26, 3) := by decide +kernel
theorem dX7_init_52 : decode cX7_init 52 = .ok (.aload_n 0, 1) := by decide +kernel
theorem dX7_init_53 : decode cX7_init 53 = .ok (.bipush 20, 2) := by decide +kernel
theorem dX7_init_55 : decode cX7_init 55 = .ok (.newarray .int, 2) := by decide +kernel
theorem dX7_init_57 : decode cX7_init 57 = .ok (.putfield 29, 3) := by decide +kernel
theorem dX7_init_60 : decode cX7_init 60 = .ok (.aload_n 0, 1) := by decide +kernel
theorem dX7_init_61 : decode cX7_init 61 = .ok (.bipush 60, 2) := by decide +kernel
theorem dX7_init_63 : decode cX7_init 63 = .ok (.newarray .int, 2) := by decide +kernel
theorem dX7_init_65 : decode cX7_init 65 = .ok (.putfield 32, 3) := by decide +kernel
theorem dX7_init_68 : decode cX7_init 68 = .ok (.aload_n 0, 1) := by decide +kernel
theorem dX7_init_69 : decode cX7_init 69 = .ok (.sipush 240, 3) := by decide +kernel
theorem dX7_init_72 : decode cX7_init 72 = .ok (.newarray .int, 2) := by decide +kernel
theorem dX7_init_74 : decode cX7_init 74 = .ok (.putfield 35, 3) := by decide +kernel
theorem dX7_init_77 : decode cX7_init 77 = .ok (.aload_n 0, 1) := by decide +kernel
theorem dX7_init_78 : decode cX7_init 78 = .ok (.sipush 240, 3) := by decide +kernel
theorem dX7_init_81 : decode cX7_init 81 = .ok (.newarray .int, 2) := by decide +kernel
theorem dX7_init_83 : decode cX7_init 83 = .ok (.putfield 38, 3) := by decide +kernel
theorem dX7_init_86 : decode cX7_init 86 = .ok (.aload_n 0, 1) := by decide +kernel
theorem dX7_init_87 : decode cX7_init 87 = .ok (.sipush 240, 3) := by decide +kernel
theorem dX7_init_90 : decode cX7_init 90 = .ok (.newarray .int, 2) := by decide +kernel
theorem dX7_init_92 : decode cX7_init 92 = .ok (.putfield 41, 3) := by decide +kernel
theorem dX7_init_95 : decode cX7_init 95 = .ok (.aload_n 0, 1) := by decide +kernel
theorem dX7_init_96 : decode cX7_init 96 = .ok (.sipush 240, 3) := by decide +kernel
theorem dX7_init_99 : decode cX7_init 99 = .ok (.newarray .boolean, 2) := by decide +kernel
theorem dX7_init_101 : decode cX7_init 101 = .ok (.putfield 44, 3) := by decide +kernel
theorem dX7_init_104 : decode cX7_init 104 = .ok (.iconst 0, 1) := by decide +kernel
theorem dX7_init_105 : decode cX7_init 105 = .ok (.istore_n 1, 1) := by decide +kernel
theorem dX7_init_106 : decode cX7_init 106 = .ok (.iload_n 1, 1) := by decide +kernel
theorem dX7_init_107 : decode cX7_init 107 = .ok (.bipush 6, 2) := by decide +kernel
theorem dX7_init_109 : decode cX7_init 109 = .ok (.if_icmp .ge 16, 3) := by decide +kernel
theorem dX7_init_112 : decode cX7_init 112 = .ok (.aload_n 0, 1) := by decide +kernel
theorem dX7_init_113 : decode cX7_init 113 = .ok (.getfield 7, 3) := by decide +kernel
theorem dX7_init_116 : decode cX7_init 116 = .ok (.iload_n 1, 1) := by decide +kernel
theorem dX7_init_117 : decode cX7_init 117 = .ok (.iconst (-1), 1) := by decide +kernel
theorem dX7_init_118 : decode cX7_init 118 = .ok (.iastore, 1) := by decide +kernel
theorem dX7_init_119 : decode cX7_init 119 = .ok (.iinc 1 1, 3) := by decide +kernel
theorem dX7_init_122 : decode cX7_init 122 = .ok (.goto (-16), 3) := by decide +kernel
theorem dX7_init_125 : decode cX7_init 125 = .ok (.return_, 1) := by decide +kernel
theorem dX7_thrown_0 : decode cX7_thrown 0 = .ok (.aload_n 0, 1) := by decide +kernel
theorem dX7_thrown_1 : decode cX7_thrown 1 = .ok (.getfield 47, 3) := by decide +kernel
theorem dX7_thrown_4 : decode cX7_thrown 4 = .ok (.ireturn, 1) := by decide +kernel
theorem dX7_holds_0 : decode cX7_holds 0 = .ok (.aload_n 0, 1) := by decide +kernel
theorem dX7_holds_1 : decode cX7_holds 1 = .ok (.iload_n 1, 1) := by decide +kernel
theorem dX7_holds_2 : decode cX7_holds 2 = .ok (.putfield 47, 3) := by decide +kernel
theorem dX7_holds_5 : decode cX7_holds 5 = .ok (.iload_n 1, 1) := by decide +kernel
theorem dX7_holds_6 : decode cX7_holds 6 = .ok (.ifCond .ne 7, 3) := by decide +kernel
theorem dX7_holds_9 : decode cX7_holds 9 = .ok (.iconst 1, 1) := by decide +kernel
theorem dX7_holds_10 : decode cX7_holds 10 = .ok (.goto 4, 3) := by decide +kernel
theorem dX7_holds_13 : decode cX7_holds 13 = .ok (.iconst 0, 1) := by decide +kernel
theorem dX7_holds_14 : decode cX7_holds 14 = .ok (.ireturn, 1) := by decide +kernel
theorem dX7_isIn_0 : decode cX7_isIn 0 = .ok (.iload_n 0, 1) := by decide +kernel
theorem dX7_isIn_1 : decode cX7_isIn 1 = .ok (.iload_n 1, 1) := by decide +kernel
theorem dX7_isIn_2 : decode cX7_isIn 2 = .ok (.if_icmp .lt 12, 3) := by decide +kernel
theorem dX7_isIn_5 : decode cX7_isIn 5 = .ok (.iload_n 0, 1) := by decide +kernel
theorem dX7_isIn_6 : decode cX7_isIn 6 = .ok (.iload_n 2, 1) := by decide +kernel
theorem dX7_isIn_7 : decode cX7_isIn 7 = .ok (.if_icmp .gt 7, 3) := by decide +kernel
theorem dX7_isIn_10 : decode cX7_isIn 10 = .ok (.iconst 1, 1) := by decide +kernel
theorem dX7_isIn_11 : decode cX7_isIn 11 = .ok (.goto 4, 3) := by decide +kernel
theorem dX7_isIn_14 : decode cX7_isIn 14 = .ok (.iconst 0, 1) := by decide +kernel
theorem dX7_isIn_15 : decode cX7_isIn 15 = .ok (.ireturn, 1) := by decide +kernel
set_option maxRecDepth 20000 in
theorem ggX7_isQuestion_X7_isIn : GoodIn wsX7_isQuestion wsX7_isIn := goodIn_r _ [6] (by decide +kernel) (by decide +kernel)
set_option maxRecDepth 20000 in
theorem gX7_isQuestion_X7_isIn : GoodIn wsX7_isQuestion (va_wsS RX7 54 yX7_isIn wsX7_isIn) := goodIn_app (goodIn_of _ (by decide +kernel)) ggX7_isQuestion_X7_isIn
theorem dX7_isQuestion_0 : decode cX7_isQuestion 0 = .ok (.iload_n 1, 1) := by decide +kernel
theorem dX7_isQuestion_1 : decode cX7_isQuestion 1 = .ok (.iconst 0, 1) := by decide +kernel
theorem dX7_isQuestion_2 : decode cX7_isQuestion 2 = .ok (.aload_n 0, 1) := by decide +kernel
theorem dX7_isQuestion_3 : decode cX7_isQuestion 3 = .ok (.getfield 51, 3) := by decide +kernel
theorem dX7_isQuestion_6 : decode cX7_isQuestion 6 = .ok (.iconst 1, 1) := by decide +kernel
theorem dX7_isQuestion_7 : decode cX7_isQuestion 7 = .ok (.isub, 1) := by decide +kernel
theorem dX7_isQuestion_8 : decode cX7_isQuestion 8 = .ok (.invokestatic 54, 3) := by decide +kernel
theorem dX7_isQuestion_11 : decode cX7_isQuestion 11 = .ok (.ifCond .eq 16, 3) := by decide +kernel
theorem dX7_isQuestion_14 : decode cX7_isQuestion 14 = .ok (.aload_n 0, 1) := by decide +kernel
theorem dX7_isQuestion_15 : decode cX7_isQuestion 15 = .ok (.getfield 13, 3) := by decide +kernel
theorem dX7_isQuestion_18 : decode cX7_isQuestion 18 = .ok (.iload_n 1, 1) := by decide +kernel
theorem dX7_isQuestion_19 : decode cX7_isQuestion 19 = .ok (.baload, 1) := by decide +kernel
theorem dX7_isQuestion_20 : decode cX7_isQuestion 20 = .ok (.ifCond .ne 7, 3) := by decide +kernel
theorem dX7_isQuestion_23 : decode cX7_isQuestion 23 = .ok (.iconst 1, 1) := by decide +kernel
theorem dX7_isQuestion_24 : decode cX7_isQuestion 24 = .ok (.goto 4, 3) := by decide +kernel
theorem dX7_isQuestion_27 : decode cX7_isQuestion 27 = .ok (.iconst 0, 1) := by decide +kernel
theorem dX7_isQuestion_28 : decode cX7_isQuestion 28 = .ok (.ireturn, 1) := by decide +kernel
set_option maxRecDepth 20000 in
theorem ggX7_isName_X7_isIn : GoodIn wsX7_isName wsX7_isIn := goodIn_r _ [4] (by decide +kernel) (by decide +kernel)
set_option maxRecDepth 20000 in
theorem gX7_isName_X7_isIn : GoodIn wsX7_isName (va_wsS RX7 54 yX7_isIn wsX7_isIn) := goodIn_app (goodIn_of _ (by decide +kernel)) ggX7_isName_X7_isIn
theorem dX7_isName_0 : decode cX7_isName 0 = .ok (.iload_n 0, 1) := by decide +kernel
theorem dX7_isName_1 : decode cX7_isName 1 = .ok (.iconst 0, 1) := by decide +kernel
theorem dX7_isName_2 : decode cX7_isName 2 = .ok (.iconst 5, 1) := by decide +kernel
theorem dX7_isName_3 : decode cX7_isName 3 = .ok (.invokestatic 54, 3) := by decide +kernel
theorem dX7_isName_6 : decode cX7_isName 6 = .ok (.ireturn, 1) := by decide +kernel
set_option maxRecDepth 20000 in
theorem ggX7_isRange_X7_isIn : GoodIn wsX7_isRange wsX7_isIn := goodIn_r _ [4] (by decide +kernel) (by decide +kernel)
set_option maxRecDepth 20000 in
theorem gX7_isRange_X7_isIn : GoodIn wsX7_isRange (va_wsS RX7 54 yX7_isIn wsX7_isIn) := goodIn_app (goodIn_of _ (by decide +kernel)) ggX7_isRange_X7_isIn
theorem dX7_isRange_0 : decode cX7_isRange 0 = .ok (.iload_n 0, 1) := by decide +kernel
theorem dX7_isRange_1 : decode cX7_isRange 1 = .ok (.iconst 0, 1) := by decide +kernel
theorem dX7_isRange_2 : decode cX7_isRange 2 = .ok (.bipush 63, 2) := by decide +kernel
theorem dX7_isRange_4 : decode cX7_isRange 4 = .ok (.invokestatic 54, 3) := by decide +kernel
theorem dX7_isRange_7 : decode cX7_isRange 7 = .ok (.ifCond .eq 17, 3) := by decide +kernel
theorem dX7_isRange_10 : decode cX7_isRange 10 = .ok (.iload_n 1, 1) := by decide +kernel
theorem dX7_isRange_11 : decode cX7_isRange 11 = .ok (.iload_n 0, 1) := by decide +kernel
theorem dX7_isRange_12 : decode cX7_isRange 12 = .ok (.bipush 63, 2) := by decide +kernel
theorem dX7_isRange_14 : decode cX7_isRange 14 = .ok (.invokestatic 54, 3) := by decide +kernel
theorem dX7_isRange_17 : decode cX7_isRange 17 = .ok (.ifCond .eq 7, 3) := by decide +kernel
theorem dX7_isRange_20 : decode cX7_isRange 20 = .ok (.iconst 1, 1) := by decide +kernel
theorem dX7_isRange_21 : decode cX7_isRange 21 = .ok (.goto 4, 3) := by decide +kernel
theorem dX7_isRange_24 : decode cX7_isRange 24 = .ok (.iconst 0, 1) := by decide +kernel
theorem dX7_isRange_25 : decode cX7_isRange 25 = .ok (.ireturn, 1) := by decide +kernel
set_option maxRecDepth 20000 in
theorem ggX7_question_X7_holds : GoodIn wsX7_question wsX7_holds := goodIn_r _ [6, 7, 8, 9, 10, 11, 12, 13, 14, 15, 16, 17, 18, 19, 20, 21, 22] (by decide +kernel) (by decide +kernel)
set_option maxRecDepth 20000 in
theorem gX7_question_X7_holds : GoodIn wsX7_question (wsV RX7 58 RX7 yX7_holds wsX7_holds) := goodIn_app (goodIn_of _ (by decide +kernel)) ggX7_question_X7_holds
theorem dX7_question_0 : decode cX7_question 0 = .ok (.aload_n 0, 1) := by decide +kernel
theorem dX7_question_1 : decode cX7_question 1 = .ok (.aload_n 0, 1) := by decide +kernel
theorem dX7_question_2 : decode cX7_question 2 = .ok (.getfield 51, 3) := by decide +kernel
theorem dX7_question_5 : decode cX7_question 5 = .ok (.bipush 20, 2) := by decide +kernel
theorem dX7_question_7 : decode cX7_question 7 = .ok (.if_icmp .ne 7, 3) := by decide +kernel
theorem dX7_question_10 : decode cX7_question 10 = .ok (.iconst 1, 1) := by decide +kernel
theorem dX7_question_11 : decode cX7_question 11 = .ok (.goto 4, 3) := by decide +kernel
theorem dX7_question_14 : decode cX7_question 14 = .ok (.iconst 0, 1) := by decide +kernel
theorem dX7_question_15 : decode cX7_question 15 = .ok (.invokevirtual 58, 3) := by decide +kernel
theorem dX7_question_18 : decode cX7_question 18 = .ok (.ifCond .ne 5, 3) := by decide +kernel
theorem dX7_question_21 : decode cX7_question 21 = .ok (.iconst 0, 1) := by decide +kernel
theorem dX7_question_22 : decode cX7_question 22 = .ok (.ireturn, 1) := by decide +kernel
theorem dX7_question_23 : decode cX7_question 23 = .ok (.aload_n 0, 1) := by decide +kernel
theorem dX7_question_24 : decode cX7_question 24 = .ok (.dup, 1) := by decide +kernel
theorem dX7_question_25 : decode cX7_question 25 = .ok (.getfield 51, 3) := by decide +kernel
theorem dX7_question_28 : decode cX7_question 28 = .ok (.iconst 1, 1) := by decide +kernel
theorem dX7_question_29 : decode cX7_question 29 = .ok (.iadd, 1) := by decide +kernel
theorem dX7_question_30 : decode cX7_question 30 = .ok (.putfield 51, 3) := by decide +kernel
theorem dX7_question_33 : decode cX7_question 33 = .ok (.aload_n 0, 1) := by decide +kernel
theorem dX7_question_34 : decode cX7_question 34 = .ok (.getfield 51, 3) := by decide +kernel
theorem dX7_question_37 : decode cX7_question 37 = .ok (.iconst 1, 1) := by decide +kernel
theorem dX7_question_38 : decode cX7_question 38 = .ok (.isub, 1) := by decide +kernel
theorem dX7_question_39 : decode cX7_question 39 = .ok (.ireturn, 1) := by decide +kernel
set_option maxRecDepth 20000 in
theorem ggX7_product_X7_isQuestion : GoodIn wsX7_product wsX7_isQuestion := goodIn_r _ [6, 7, 8, 9, 10, 5, 11, 17, 18, 19, 20, 21, 22, 23, 24, 25, 26, 27, 28, 29, 30, 31] (by decide +kernel) (by decide +kernel)
set_option maxRecDepth 20000 in
theorem gX7_product_X7_isQuestion : GoodIn wsX7_product (wsV RX7 62 RX7 yX7_isQuestion wsX7_isQuestion) := goodIn_app (goodIn_of _ (by decide +kernel)) ggX7_product_X7_isQuestion
set_option maxRecDepth 20000 in
theorem ggX7_product_X7_holds : GoodIn wsX7_product wsX7_holds := goodIn_r _ [15, 16, 17, 18, 19, 20, 21, 22, 23, 24, 25, 26, 27, 28, 29, 30, 31] (by decide +kernel) (by decide +kernel)
set_option maxRecDepth 20000 in
theorem gX7_product_X7_holds : GoodIn wsX7_product (wsV RX7 58 RX7 yX7_holds wsX7_holds) := goodIn_app (goodIn_of _ (by decide +kernel)) ggX7_product_X7_holds
theorem dX7_product_0 : decode cX7_product 0 = .ok (.aload_n 0, 1) := by decide +kernel
theorem dX7_product_1 : decode cX7_product 1 = .ok (.iload_n 1, 1) := by decide +kernel
theorem dX7_product_2 : decode cX7_product 2 = .ok (.invokevirtual 62, 3) := by decide +kernel
theorem dX7_product_5 : decode cX7_product 5 = .ok (.istore_n 2, 1) := by decide +kernel
theorem dX7_product_6 : decode cX7_product 6 = .ok (.aload_n 0, 1) := by decide +kernel
theorem dX7_product_7 : decode cX7_product 7 = .ok (.iload_n 2, 1) := by decide +kernel
theorem dX7_product_8 : decode cX7_product 8 = .ok (.ifCond .ne 7, 3) := by decide +kernel
theorem dX7_product_11 : decode cX7_product 11 = .ok (.iconst 1, 1) := by decide +kernel
theorem dX7_product_12 : decode cX7_product 12 = .ok (.goto 18, 3) := by decide +kernel
theorem dX7_product_15 : decode cX7_product 15 = .ok (.aload_n 0, 1) := by decide +kernel
theorem dX7_product_16 : decode cX7_product 16 = .ok (.getfield 17, 3) := by decide +kernel
theorem dX7_product_19 : decode cX7_product 19 = .ok (.iload_n 1, 1) := by decide +kernel
theorem dX7_product_20 : decode cX7_product 20 = .ok (.iaload, 1) := by decide +kernel
theorem dX7_product_21 : decode cX7_product 21 = .ok (.iconst 3, 1) := by decide +kernel
theorem dX7_product_22 : decode cX7_product 22 = .ok (.if_icmp .ne 7, 3) := by decide +kernel
theorem dX7_product_25 : decode cX7_product 25 = .ok (.iconst 2, 1) := by decide +kernel
theorem dX7_product_26 : decode cX7_product 26 = .ok (.goto 4, 3) := by decide +kernel
theorem dX7_product_29 : decode cX7_product 29 = .ok (.iconst 0, 1) := by decide +kernel
theorem dX7_product_30 : decode cX7_product 30 = .ok (.invokevirtual 58, 3) := by decide +kernel
theorem dX7_product_33 : decode cX7_product 33 = .ok (.ifCond .ne 5, 3) := by decide +kernel
theorem dX7_product_36 : decode cX7_product 36 = .ok (.iconst 0, 1) := by decide +kernel
theorem dX7_product_37 : decode cX7_product 37 = .ok (.ireturn, 1) := by decide +kernel
theorem dX7_product_38 : decode cX7_product 38 = .ok (.aload_n 0, 1) := by decide +kernel
theorem dX7_product_39 : decode cX7_product 39 = .ok (.getfield 17, 3) := by decide +kernel
theorem dX7_product_42 : decode cX7_product 42 = .ok (.iload_n 1, 1) := by decide +kernel
theorem dX7_product_43 : decode cX7_product 43 = .ok (.dup2, 1) := by decide +kernel
theorem dX7_product_44 : decode cX7_product 44 = .ok (.iaload, 1) := by decide +kernel
theorem dX7_product_45 : decode cX7_product 45 = .ok (.iconst 1, 1) := by decide +kernel
theorem dX7_product_46 : decode cX7_product 46 = .ok (.iadd, 1) := by decide +kernel
theorem dX7_product_47 : decode cX7_product 47 = .ok (.iastore, 1) := by decide +kernel
theorem dX7_product_48 : decode cX7_product 48 = .ok (.aload_n 0, 1) := by decide +kernel
theorem dX7_product_49 : decode cX7_product 49 = .ok (.getfield 17, 3) := by decide +kernel
theorem dX7_product_52 : decode cX7_product 52 = .ok (.iload_n 1, 1) := by decide +kernel
theorem dX7_product_53 : decode cX7_product 53 = .ok (.iaload, 1) := by decide +kernel
theorem dX7_product_54 : decode cX7_product 54 = .ok (.ireturn, 1) := by decide +kernel
set_option maxRecDepth 20000 in
theorem ggX7_test_X7_isQuestion : GoodIn wsX7_test wsX7_isQuestion := goodIn_r _ [11, 12, 13, 14, 15, 10, 16, 28, 29, 30, 31, 32, 33, 34, 35, 36, 37, 38, 39, 40, 41, 42] (by decide +kernel) (by decide +kernel)
set_option maxRecDepth 20000 in
theorem gX7_test_X7_isQuestion : GoodIn wsX7_test (wsV RX7 62 RX7 yX7_isQuestion wsX7_isQuestion) := goodIn_app (goodIn_of _ (by decide +kernel)) ggX7_test_X7_isQuestion
set_option maxRecDepth 20000 in
theorem ggX7_test_X7_isName : GoodIn wsX7_test wsX7_isName := goodIn_r _ [19, 14, 15, 10, 16] (by decide +kernel) (by decide +kernel)
set_option maxRecDepth 20000 in
theorem gX7_test_X7_isName : GoodIn wsX7_test (va_wsS RX7 65 yX7_isName wsX7_isName) := goodIn_app (goodIn_of _ (by decide +kernel)) ggX7_test_X7_isName
set_option maxRecDepth 20000 in
theorem ggX7_test_X7_isRange : GoodIn wsX7_test wsX7_isRange := goodIn_r _ [22, 14, 15, 10, 16] (by decide +kernel) (by decide +kernel)
set_option maxRecDepth 20000 in
theorem gX7_test_X7_isRange : GoodIn wsX7_test (va_wsS RX7 68 yX7_isRange wsX7_isRange) := goodIn_app (goodIn_of _ (by decide +kernel)) ggX7_test_X7_isRange
set_option maxRecDepth 20000 in
theorem ggX7_test_X7_holds : GoodIn wsX7_test wsX7_holds := goodIn_r _ [26, 27, 28, 29, 30, 31, 32, 33, 34, 35, 36, 37, 38, 39, 40, 41, 42] (by decide +kernel) (by decide +kernel)
set_option maxRecDepth 20000 in
theorem gX7_test_X7_holds : GoodIn wsX7_test (wsV RX7 58 RX7 yX7_holds wsX7_holds) := goodIn_app (goodIn_of _ (by decide +kernel)) ggX7_test_X7_holds
theorem dX7_test_0 : decode cX7_test 0 = .ok (.aload_n 0, 1) := by decide +kernel
theorem dX7_test_1 : decode cX7_test 1 = .ok (.iload_n 1, 1) := by decide +kernel
theorem dX7_test_2 : decode cX7_test 2 = .ok (.invokevirtual 62, 3) := by decide +kernel
theorem dX7_test_5 : decode cX7_test 5 = .ok (.ifCond .eq 14, 3) := by decide +kernel
theorem dX7_test_8 : decode cX7_test 8 = .ok (.iload_n 2, 1) := by decide +kernel
theorem dX7_test_9 : decode cX7_test 9 = .ok (.invokestatic 65, 3) := by decide +kernel
theorem dX7_test_12 : decode cX7_test 12 = .ok (.ifCond .eq 7, 3) := by decide +kernel
theorem dX7_test_15 : decode cX7_test 15 = .ok (.iconst 1, 1) := by decide +kernel
theorem dX7_test_16 : decode cX7_test 16 = .ok (.goto 4, 3) := by decide +kernel
theorem dX7_test_19 : decode cX7_test 19 = .ok (.iconst 0, 1) := by decide +kernel
theorem dX7_test_20 : decode cX7_test 20 = .ok (.istore 6, 2) := by decide +kernel
theorem dX7_test_22 : decode cX7_test 22 = .ok (.iload 6, 2) := by decide +kernel
theorem dX7_test_24 : decode cX7_test 24 = .ok (.ifCond .eq 18, 3) := by decide +kernel
theorem dX7_test_27 : decode cX7_test 27 = .ok (.iconst 3, 1) := by decide +kernel
theorem dX7_test_28 : decode cX7_test 28 = .ok (.iload_n 1, 1) := by decide +kernel
theorem dX7_test_29 : decode cX7_test 29 = .ok (.imul, 1) := by decide +kernel
theorem dX7_test_30 : decode cX7_test 30 = .ok (.aload_n 0, 1) := by decide +kernel
theorem dX7_test_31 : decode cX7_test 31 = .ok (.getfield 17, 3) := by decide +kernel
theorem dX7_test_34 : decode cX7_test 34 = .ok (.iload_n 1, 1) := by decide +kernel
theorem dX7_test_35 : decode cX7_test 35 = .ok (.iaload, 1) := by decide +kernel
theorem dX7_test_36 : decode cX7_test 36 = .ok (.iadd, 1) := by decide +kernel
theorem dX7_test_37 : decode cX7_test 37 = .ok (.iconst 1, 1) := by decide +kernel
theorem dX7_test_38 : decode cX7_test 38 = .ok (.isub, 1) := by decide +kernel
theorem dX7_test_39 : decode cX7_test 39 = .ok (.goto 4, 3) := by decide +kernel
theorem dX7_test_42 : decode cX7_test 42 = .ok (.iconst 0, 1) := by decide +kernel
theorem dX7_test_43 : decode cX7_test 43 = .ok (.istore 7, 2) := by decide +kernel
theorem dX7_test_45 : decode cX7_test 45 = .ok (.iload 6, 2) := by decide +kernel
theorem dX7_test_47 : decode cX7_test 47 = .ok (.ifCond .eq 27, 3) := by decide +kernel
theorem dX7_test_50 : decode cX7_test 50 = .ok (.aload_n 0, 1) := by decide +kernel
theorem dX7_test_51 : decode cX7_test 51 = .ok (.getfield 17, 3) := by decide +kernel
theorem dX7_test_54 : decode cX7_test 54 = .ok (.iload_n 1, 1) := by decide +kernel
theorem dX7_test_55 : decode cX7_test 55 = .ok (.iaload, 1) := by decide +kernel
theorem dX7_test_56 : decode cX7_test 56 = .ok (.ifCond .le 18, 3) := by decide +kernel
theorem dX7_test_59 : decode cX7_test 59 = .ok (.aload_n 0, 1) := by decide +kernel
theorem dX7_test_60 : decode cX7_test 60 = .ok (.getfield 32, 3) := by decide +kernel
theorem dX7_test_63 : decode cX7_test 63 = .ok (.iload 7, 2) := by decide +kernel
theorem dX7_test_65 : decode cX7_test 65 = .ok (.iaload, 1) := by decide +kernel
theorem dX7_test_66 : decode cX7_test 66 = .ok (.iconst 4, 1) := by decide +kernel
theorem dX7_test_67 : decode cX7_test 67 = .ok (.if_icmp .ge 7, 3) := by decide +kernel
theorem dX7_test_70 : decode cX7_test 70 = .ok (.iconst 1, 1) := by decide +kernel
theorem dX7_test_71 : decode cX7_test 71 = .ok (.goto 4, 3) := by decide +kernel
theorem dX7_test_74 : decode cX7_test 74 = .ok (.iconst 0, 1) := by decide +kernel
theorem dX7_test_75 : decode cX7_test 75 = .ok (.istore 8, 2) := by decide +kernel
theorem dX7_test_77 : decode cX7_test 77 = .ok (.aload_n 0, 1) := by decide +kernel
theorem dX7_test_78 : decode cX7_test 78 = .ok (.iload 6, 2) := by decide +kernel
theorem dX7_test_80 : decode cX7_test 80 = .ok (.ifCond .ne 7, 3) := by decide +kernel
theorem dX7_test_83 : decode cX7_test 83 = .ok (.iconst 1, 1) := by decide +kernel
theorem dX7_test_84 : decode cX7_test 84 = .ok (.goto 26, 3) := by decide +kernel
theorem dX7_test_87 : decode cX7_test 87 = .ok (.iload_n 3, 1) := by decide +kernel
theorem dX7_test_88 : decode cX7_test 88 = .ok (.iload 4, 2) := by decide +kernel
theorem dX7_test_90 : decode cX7_test 90 = .ok (.invokestatic 68, 3) := by decide +kernel
theorem dX7_test_93 : decode cX7_test 93 = .ok (.ifCond .ne 7, 3) := by decide +kernel
theorem dX7_test_96 : decode cX7_test 96 = .ok (.iconst 2, 1) := by decide +kernel
theorem dX7_test_97 : decode cX7_test 97 = .ok (.goto 13, 3) := by decide +kernel
theorem dX7_test_100 : decode cX7_test 100 = .ok (.iload 8, 2) := by decide +kernel
theorem dX7_test_102 : decode cX7_test 102 = .ok (.ifCond .eq 7, 3) := by decide +kernel
theorem dX7_test_105 : decode cX7_test 105 = .ok (.iconst 0, 1) := by decide +kernel
theorem dX7_test_106 : decode cX7_test 106 = .ok (.goto 4, 3) := by decide +kernel
theorem dX7_test_109 : decode cX7_test 109 = .ok (.iconst 3, 1) := by decide +kernel
theorem dX7_test_110 : decode cX7_test 110 = .ok (.invokevirtual 58, 3) := by decide +kernel
theorem dX7_test_113 : decode cX7_test 113 = .ok (.ifCond .ne 5, 3) := by decide +kernel
theorem dX7_test_116 : decode cX7_test 116 = .ok (.iconst 0, 1) := by decide +kernel
theorem dX7_test_117 : decode cX7_test 117 = .ok (.ireturn, 1) := by decide +kernel
theorem dX7_test_118 : decode cX7_test 118 = .ok (.iconst 4, 1) := by decide +kernel
theorem dX7_test_119 : decode cX7_test 119 = .ok (.iload 7, 2) := by decide +kernel
theorem dX7_test_121 : decode cX7_test 121 = .ok (.imul, 1) := by decide +kernel
theorem dX7_test_122 : decode cX7_test 122 = .ok (.aload_n 0, 1) := by decide +kernel
theorem dX7_test_123 : decode cX7_test 123 = .ok (.getfield 32, 3) := by decide +kernel
theorem dX7_test_126 : decode cX7_test 126 = .ok (.iload 7, 2) := by decide +kernel
theorem dX7_test_128 : decode cX7_test 128 = .ok (.iaload, 1) := by decide +kernel
theorem dX7_test_129 : decode cX7_test 129 = .ok (.iadd, 1) := by decide +kernel
theorem dX7_test_130 : decode cX7_test 130 = .ok (.istore 9, 2) := by decide +kernel
theorem dX7_test_132 : decode cX7_test 132 = .ok (.aload_n 0, 1) := by decide +kernel
theorem dX7_test_133 : decode cX7_test 133 = .ok (.getfield 35, 3) := by decide +kernel
theorem dX7_test_136 : decode cX7_test 136 = .ok (.iload 9, 2) := by decide +kernel
theorem dX7_test_138 : decode cX7_test 138 = .ok (.iload_n 2, 1) := by decide +kernel
theorem dX7_test_139 : decode cX7_test 139 = .ok (.iastore, 1) := by decide +kernel
theorem dX7_test_140 : decode cX7_test 140 = .ok (.aload_n 0, 1) := by decide +kernel
theorem dX7_test_141 : decode cX7_test 141 = .ok (.getfield 38, 3) := by decide +kernel
theorem dX7_test_144 : decode cX7_test 144 = .ok (.iload 9, 2) := by decide +kernel
theorem dX7_test_146 : decode cX7_test 146 = .ok (.iload_n 3, 1) := by decide +kernel
theorem dX7_test_147 : decode cX7_test 147 = .ok (.iastore, 1) := by decide +kernel
theorem dX7_test_148 : decode cX7_test 148 = .ok (.aload_n 0, 1) := by decide +kernel
theorem dX7_test_149 : decode cX7_test 149 = .ok (.getfield 41, 3) := by decide +kernel
theorem dX7_test_152 : decode cX7_test 152 = .ok (.iload 9, 2) := by decide +kernel
theorem dX7_test_154 : decode cX7_test 154 = .ok (.iload 4, 2) := by decide +kernel
theorem dX7_test_156 : decode cX7_test 156 = .ok (.iastore, 1) := by decide +kernel
theorem dX7_test_157 : decode cX7_test 157 = .ok (.aload_n 0, 1) := by decide +kernel
theorem dX7_test_158 : decode cX7_test 158 = .ok (.getfield 44, 3) := by decide +kernel
theorem dX7_test_161 : decode cX7_test 161 = .ok (.iload 9, 2) := by decide +kernel
theorem dX7_test_163 : decode cX7_test 163 = .ok (.iload 5, 2) := by decide +kernel
theorem dX7_test_165 : decode cX7_test 165 = .ok (.bastore, 1) := by decide +kernel
theorem dX7_test_166 : decode cX7_test 166 = .ok (.aload_n 0, 1) := by decide +kernel
theorem dX7_test_167 : decode cX7_test 167 = .ok (.getfield 32, 3) := by decide +kernel
theorem dX7_test_170 : decode cX7_test 170 = .ok (.iload 7, 2) := by decide +kernel
theorem dX7_test_172 : decode cX7_test 172 = .ok (.dup2, 1) := by decide +kernel
theorem dX7_test_173 : decode cX7_test 173 = .ok (.iaload, 1) := by decide +kernel
theorem dX7_test_174 : decode cX7_test 174 = .ok (.iconst 1, 1) := by decide +kernel
theorem dX7_test_175 : decode cX7_test 175 = .ok (.iadd, 1) := by decide +kernel
theorem dX7_test_176 : decode cX7_test 176 = .ok (.iastore, 1) := by decide +kernel
theorem dX7_test_177 : decode cX7_test 177 = .ok (.aload_n 0, 1) := by decide +kernel
theorem dX7_test_178 : decode cX7_test 178 = .ok (.getfield 32, 3) := by decide +kernel
theorem dX7_test_181 : decode cX7_test 181 = .ok (.iload 7, 2) := by decide +kernel
theorem dX7_test_183 : decode cX7_test 183 = .ok (.iaload, 1) := by decide +kernel
theorem dX7_test_184 : decode cX7_test 184 = .ok (.ireturn, 1) := by decide +kernel
set_option maxRecDepth 20000 in
theorem ggX7_drop_X7_isQuestion : GoodIn wsX7_drop wsX7_isQuestion := goodIn_r _ [7, 8, 1, 9, 10, 6, 11, 17, 18, 19, 20, 21, 22, 23, 24, 25, 26, 27, 28, 29, 30, 31] (by decide +kernel) (by decide +kernel)
set_option maxRecDepth 20000 in
theorem gX7_drop_X7_isQuestion : GoodIn wsX7_drop (wsV RX7 62 RX7 yX7_isQuestion wsX7_isQuestion) := goodIn_app (goodIn_of _ (by decide +kernel)) ggX7_drop_X7_isQuestion
set_option maxRecDepth 20000 in
theorem ggX7_drop_X7_holds : GoodIn wsX7_drop wsX7_holds := goodIn_r _ [15, 16, 17, 18, 19, 20, 21, 22, 23, 24, 25, 26, 27, 28, 29, 30, 31] (by decide +kernel) (by decide +kernel)
set_option maxRecDepth 20000 in
theorem gX7_drop_X7_holds : GoodIn wsX7_drop (wsV RX7 58 RX7 yX7_holds wsX7_holds) := goodIn_app (goodIn_of _ (by decide +kernel)) ggX7_drop_X7_holds
theorem dX7_drop_0 : decode cX7_drop 0 = .ok (.aload_n 0, 1) := by decide +kernel
theorem dX7_drop_1 : decode cX7_drop 1 = .ok (.aload_n 0, 1) := by decide +kernel
theorem dX7_drop_2 : decode cX7_drop 2 = .ok (.iload_n 1, 1) := by decide +kernel
theorem dX7_drop_3 : decode cX7_drop 3 = .ok (.invokevirtual 62, 3) := by decide +kernel
theorem dX7_drop_6 : decode cX7_drop 6 = .ok (.ifCond .eq 7, 3) := by decide +kernel
theorem dX7_drop_9 : decode cX7_drop 9 = .ok (.iconst 0, 1) := by decide +kernel
theorem dX7_drop_10 : decode cX7_drop 10 = .ok (.goto 4, 3) := by decide +kernel
theorem dX7_drop_13 : decode cX7_drop 13 = .ok (.iconst 1, 1) := by decide +kernel
theorem dX7_drop_14 : decode cX7_drop 14 = .ok (.invokevirtual 58, 3) := by decide +kernel
theorem dX7_drop_17 : decode cX7_drop 17 = .ok (.ifCond .ne 5, 3) := by decide +kernel
theorem dX7_drop_20 : decode cX7_drop 20 = .ok (.iconst 0, 1) := by decide +kernel
theorem dX7_drop_21 : decode cX7_drop 21 = .ok (.ireturn, 1) := by decide +kernel
theorem dX7_drop_22 : decode cX7_drop 22 = .ok (.aload_n 0, 1) := by decide +kernel
theorem dX7_drop_23 : decode cX7_drop 23 = .ok (.getfield 13, 3) := by decide +kernel
theorem dX7_drop_26 : decode cX7_drop 26 = .ok (.iload_n 1, 1) := by decide +kernel
theorem dX7_drop_27 : decode cX7_drop 27 = .ok (.iconst 1, 1) := by decide +kernel
theorem dX7_drop_28 : decode cX7_drop 28 = .ok (.bastore, 1) := by decide +kernel
theorem dX7_drop_29 : decode cX7_drop 29 = .ok (.aload_n 0, 1) := by decide +kernel
theorem dX7_drop_30 : decode cX7_drop 30 = .ok (.getfield 29, 3) := by decide +kernel
theorem dX7_drop_33 : decode cX7_drop 33 = .ok (.iload_n 1, 1) := by decide +kernel
theorem dX7_drop_34 : decode cX7_drop 34 = .ok (.iaload, 1) := by decide +kernel
theorem dX7_drop_35 : decode cX7_drop 35 = .ok (.ireturn, 1) := by decide +kernel
set_option maxRecDepth 20000 in
theorem ggX7_setQuiet_X7_isQuestion : GoodIn wsX7_setQuiet wsX7_isQuestion := goodIn_r _ [6, 7, 8, 9, 10, 5, 11, 17, 18, 19, 20, 21, 22, 23, 24, 25, 26, 27, 28, 29, 30, 31] (by decide +kernel) (by decide +kernel)
set_option maxRecDepth 20000 in
theorem gX7_setQuiet_X7_isQuestion : GoodIn wsX7_setQuiet (wsV RX7 62 RX7 yX7_isQuestion wsX7_isQuestion) := goodIn_app (goodIn_of _ (by decide +kernel)) ggX7_setQuiet_X7_isQuestion
set_option maxRecDepth 20000 in
theorem ggX7_setQuiet_X7_isIn : GoodIn wsX7_setQuiet wsX7_isIn := goodIn_r _ [11] (by decide +kernel) (by decide +kernel)
set_option maxRecDepth 20000 in
theorem gX7_setQuiet_X7_isIn : GoodIn wsX7_setQuiet (va_wsS RX7 54 yX7_isIn wsX7_isIn) := goodIn_app (goodIn_of _ (by decide +kernel)) ggX7_setQuiet_X7_isIn
set_option maxRecDepth 20000 in
theorem ggX7_setQuiet_X7_holds : GoodIn wsX7_setQuiet wsX7_holds := goodIn_r _ [15, 16, 17, 18, 19, 20, 21, 22, 23, 24, 25, 26, 27, 28, 29, 30, 31] (by decide +kernel) (by decide +kernel)
set_option maxRecDepth 20000 in
theorem gX7_setQuiet_X7_holds : GoodIn wsX7_setQuiet (wsV RX7 58 RX7 yX7_holds wsX7_holds) := goodIn_app (goodIn_of _ (by decide +kernel)) ggX7_setQuiet_X7_holds
theorem dX7_setQuiet_0 : decode cX7_setQuiet 0 = .ok (.aload_n 0, 1) := by decide +kernel
theorem dX7_setQuiet_1 : decode cX7_setQuiet 1 = .ok (.iload_n 1, 1) := by decide +kernel
theorem dX7_setQuiet_2 : decode cX7_setQuiet 2 = .ok (.invokevirtual 62, 3) := by decide +kernel
theorem dX7_setQuiet_5 : decode cX7_setQuiet 5 = .ok (.istore_n 3, 1) := by decide +kernel
theorem dX7_setQuiet_6 : decode cX7_setQuiet 6 = .ok (.aload_n 0, 1) := by decide +kernel
theorem dX7_setQuiet_7 : decode cX7_setQuiet 7 = .ok (.iload_n 3, 1) := by decide +kernel
theorem dX7_setQuiet_8 : decode cX7_setQuiet 8 = .ok (.ifCond .ne 7, 3) := by decide +kernel
theorem dX7_setQuiet_11 : decode cX7_setQuiet 11 = .ok (.iconst 1, 1) := by decide +kernel
theorem dX7_setQuiet_12 : decode cX7_setQuiet 12 = .ok (.goto 19, 3) := by decide +kernel
theorem dX7_setQuiet_15 : decode cX7_setQuiet 15 = .ok (.iload_n 2, 1) := by decide +kernel
theorem dX7_setQuiet_16 : decode cX7_setQuiet 16 = .ok (.iconst 0, 1) := by decide +kernel
theorem dX7_setQuiet_17 : decode cX7_setQuiet 17 = .ok (.sipush 1000, 3) := by decide +kernel
theorem dX7_setQuiet_20 : decode cX7_setQuiet 20 = .ok (.invokestatic 54, 3) := by decide +kernel
theorem dX7_setQuiet_23 : decode cX7_setQuiet 23 = .ok (.ifCond .eq 7, 3) := by decide +kernel
theorem dX7_setQuiet_26 : decode cX7_setQuiet 26 = .ok (.iconst 0, 1) := by decide +kernel
theorem dX7_setQuiet_27 : decode cX7_setQuiet 27 = .ok (.goto 4, 3) := by decide +kernel
theorem dX7_setQuiet_30 : decode cX7_setQuiet 30 = .ok (.iconst 2, 1) := by decide +kernel
theorem dX7_setQuiet_31 : decode cX7_setQuiet 31 = .ok (.invokevirtual 58, 3) := by decide +kernel
theorem dX7_setQuiet_34 : decode cX7_setQuiet 34 = .ok (.ifCond .ne 5, 3) := by decide +kernel
theorem dX7_setQuiet_37 : decode cX7_setQuiet 37 = .ok (.iconst 0, 1) := by decide +kernel
theorem dX7_setQuiet_38 : decode cX7_setQuiet 38 = .ok (.ireturn, 1) := by decide +kernel
theorem dX7_setQuiet_39 : decode cX7_setQuiet 39 = .ok (.aload_n 0, 1) := by decide +kernel
theorem dX7_setQuiet_40 : decode cX7_setQuiet 40 = .ok (.getfield 20, 3) := by decide +kernel
theorem dX7_setQuiet_43 : decode cX7_setQuiet 43 = .ok (.iload_n 1, 1) := by decide +kernel
theorem dX7_setQuiet_44 : decode cX7_setQuiet 44 = .ok (.iaload, 1) := by decide +kernel
theorem dX7_setQuiet_45 : decode cX7_setQuiet 45 = .ok (.istore 4, 2) := by decide +kernel
theorem dX7_setQuiet_47 : decode cX7_setQuiet 47 = .ok (.aload_n 0, 1) := by decide +kernel
theorem dX7_setQuiet_48 : decode cX7_setQuiet 48 = .ok (.getfield 20, 3) := by decide +kernel
theorem dX7_setQuiet_51 : decode cX7_setQuiet 51 = .ok (.iload_n 1, 1) := by decide +kernel
theorem dX7_setQuiet_52 : decode cX7_setQuiet 52 = .ok (.iload_n 2, 1) := by decide +kernel
theorem dX7_setQuiet_53 : decode cX7_setQuiet 53 = .ok (.iastore, 1) := by decide +kernel
theorem dX7_setQuiet_54 : decode cX7_setQuiet 54 = .ok (.iload 4, 2) := by decide +kernel
theorem dX7_setQuiet_56 : decode cX7_setQuiet 56 = .ok (.ireturn, 1) := by decide +kernel
set_option maxRecDepth 20000 in
theorem ggX7_set_X7_isName : GoodIn wsX7_set wsX7_isName := goodIn_r _ [5, 6, 7, 4, 8] (by decide +kernel) (by decide +kernel)
set_option maxRecDepth 20000 in
theorem gX7_set_X7_isName : GoodIn wsX7_set (va_wsS RX7 65 yX7_isName wsX7_isName) := goodIn_app (goodIn_of _ (by decide +kernel)) ggX7_set_X7_isName
set_option maxRecDepth 20000 in
theorem ggX7_set_X7_isIn : GoodIn wsX7_set wsX7_isIn := goodIn_r _ [8] (by decide +kernel) (by decide +kernel)
set_option maxRecDepth 20000 in
theorem gX7_set_X7_isIn : GoodIn wsX7_set (va_wsS RX7 54 yX7_isIn wsX7_isIn) := goodIn_app (goodIn_of _ (by decide +kernel)) ggX7_set_X7_isIn
set_option maxRecDepth 20000 in
theorem ggX7_set_X7_holds : GoodIn wsX7_set wsX7_holds := goodIn_r _ [12, 13, 14, 15, 16, 17, 18, 19, 20, 21, 22, 23, 24, 25, 26, 27, 28] (by decide +kernel) (by decide +kernel)
set_option maxRecDepth 20000 in
theorem gX7_set_X7_holds : GoodIn wsX7_set (wsV RX7 58 RX7 yX7_holds wsX7_holds) := goodIn_app (goodIn_of _ (by decide +kernel)) ggX7_set_X7_holds
theorem dX7_set_0 : decode cX7_set 0 = .ok (.aload_n 0, 1) := by decide +kernel
theorem dX7_set_1 : decode cX7_set 1 = .ok (.iload_n 1, 1) := by decide +kernel
theorem dX7_set_2 : decode cX7_set 2 = .ok (.invokestatic 65, 3) := by decide +kernel
theorem dX7_set_5 : decode cX7_set 5 = .ok (.ifCond .ne 7, 3) := by decide +kernel
theorem dX7_set_8 : decode cX7_set 8 = .ok (.iconst 1, 1) := by decide +kernel
theorem dX7_set_9 : decode cX7_set 9 = .ok (.goto 18, 3) := by decide +kernel
theorem dX7_set_12 : decode cX7_set 12 = .ok (.iload_n 2, 1) := by decide +kernel
theorem dX7_set_13 : decode cX7_set 13 = .ok (.iconst (-1), 1) := by decide +kernel
theorem dX7_set_14 : decode cX7_set 14 = .ok (.bipush 63, 2) := by decide +kernel
theorem dX7_set_16 : decode cX7_set 16 = .ok (.invokestatic 54, 3) := by decide +kernel
theorem dX7_set_19 : decode cX7_set 19 = .ok (.ifCond .eq 7, 3) := by decide +kernel
theorem dX7_set_22 : decode cX7_set 22 = .ok (.iconst 0, 1) := by decide +kernel
theorem dX7_set_23 : decode cX7_set 23 = .ok (.goto 4, 3) := by decide +kernel
theorem dX7_set_26 : decode cX7_set 26 = .ok (.iconst 2, 1) := by decide +kernel
theorem dX7_set_27 : decode cX7_set 27 = .ok (.invokevirtual 58, 3) := by decide +kernel
theorem dX7_set_30 : decode cX7_set 30 = .ok (.ifCond .ne 5, 3) := by decide +kernel
theorem dX7_set_33 : decode cX7_set 33 = .ok (.iconst 0, 1) := by decide +kernel
theorem dX7_set_34 : decode cX7_set 34 = .ok (.ireturn, 1) := by decide +kernel
theorem dX7_set_35 : decode cX7_set 35 = .ok (.aload_n 0, 1) := by decide +kernel
theorem dX7_set_36 : decode cX7_set 36 = .ok (.getfield 7, 3) := by decide +kernel
theorem dX7_set_39 : decode cX7_set 39 = .ok (.iload_n 1, 1) := by decide +kernel
theorem dX7_set_40 : decode cX7_set 40 = .ok (.iaload, 1) := by decide +kernel
theorem dX7_set_41 : decode cX7_set 41 = .ok (.istore_n 3, 1) := by decide +kernel
theorem dX7_set_42 : decode cX7_set 42 = .ok (.aload_n 0, 1) := by decide +kernel
theorem dX7_set_43 : decode cX7_set 43 = .ok (.getfield 7, 3) := by decide +kernel
theorem dX7_set_46 : decode cX7_set 46 = .ok (.iload_n 1, 1) := by decide +kernel
theorem dX7_set_47 : decode cX7_set 47 = .ok (.iload_n 2, 1) := by decide +kernel
theorem dX7_set_48 : decode cX7_set 48 = .ok (.iastore, 1) := by decide +kernel
theorem dX7_set_49 : decode cX7_set 49 = .ok (.iload_n 3, 1) := by decide +kernel
theorem dX7_set_50 : decode cX7_set 50 = .ok (.ireturn, 1) := by decide +kernel
theorem dX7_isTrue_0 : decode cX7_isTrue 0 = .ok (.aload_n 0, 1) := by decide +kernel
theorem dX7_isTrue_1 : decode cX7_isTrue 1 = .ok (.getfield 7, 3) := by decide +kernel
theorem dX7_isTrue_4 : decode cX7_isTrue 4 = .ok (.aload_n 0, 1) := by decide +kernel
theorem dX7_isTrue_5 : decode cX7_isTrue 5 = .ok (.getfield 35, 3) := by decide +kernel
theorem dX7_isTrue_8 : decode cX7_isTrue 8 = .ok (.iload_n 1, 1) := by decide +kernel
theorem dX7_isTrue_9 : decode cX7_isTrue 9 = .ok (.iaload, 1) := by decide +kernel
theorem dX7_isTrue_10 : decode cX7_isTrue 10 = .ok (.iaload, 1) := by decide +kernel
theorem dX7_isTrue_11 : decode cX7_isTrue 11 = .ok (.istore_n 2, 1) := by decide +kernel
theorem dX7_isTrue_12 : decode cX7_isTrue 12 = .ok (.iload_n 2, 1) := by decide +kernel
theorem dX7_isTrue_13 : decode cX7_isTrue 13 = .ok (.iconst (-1), 1) := by decide +kernel
theorem dX7_isTrue_14 : decode cX7_isTrue 14 = .ok (.if_icmp .eq 27, 3) := by decide +kernel
theorem dX7_isTrue_17 : decode cX7_isTrue 17 = .ok (.iload_n 2, 1) := by decide +kernel
theorem dX7_isTrue_18 : decode cX7_isTrue 18 = .ok (.aload_n 0, 1) := by decide +kernel
theorem dX7_isTrue_19 : decode cX7_isTrue 19 = .ok (.getfield 38, 3) := by decide +kernel
theorem dX7_isTrue_22 : decode cX7_isTrue 22 = .ok (.iload_n 1, 1) := by decide +kernel
theorem dX7_isTrue_23 : decode cX7_isTrue 23 = .ok (.iaload, 1) := by decide +kernel
theorem dX7_isTrue_24 : decode cX7_isTrue 24 = .ok (.if_icmp .lt 17, 3) := by decide +kernel
theorem dX7_isTrue_27 : decode cX7_isTrue 27 = .ok (.iload_n 2, 1) := by decide +kernel
theorem dX7_isTrue_28 : decode cX7_isTrue 28 = .ok (.aload_n 0, 1) := by decide +kernel
theorem dX7_isTrue_29 : decode cX7_isTrue 29 = .ok (.getfield 41, 3) := by decide +kernel
theorem dX7_isTrue_32 : decode cX7_isTrue 32 = .ok (.iload_n 1, 1) := by decide +kernel
theorem dX7_isTrue_33 : decode cX7_isTrue 33 = .ok (.iaload, 1) := by decide +kernel
theorem dX7_isTrue_34 : decode cX7_isTrue 34 = .ok (.if_icmp .gt 7, 3) := by decide +kernel
theorem dX7_isTrue_37 : decode cX7_isTrue 37 = .ok (.iconst 1, 1) := by decide +kernel
theorem dX7_isTrue_38 : decode cX7_isTrue 38 = .ok (.goto 4, 3) := by decide +kernel
theorem dX7_isTrue_41 : decode cX7_isTrue 41 = .ok (.iconst 0, 1) := by decide +kernel
theorem dX7_isTrue_42 : decode cX7_isTrue 42 = .ok (.istore_n 3, 1) := by decide +kernel
theorem dX7_isTrue_43 : decode cX7_isTrue 43 = .ok (.iload_n 3, 1) := by decide +kernel
theorem dX7_isTrue_44 : decode cX7_isTrue 44 = .ok (.aload_n 0, 1) := by decide +kernel
theorem dX7_isTrue_45 : decode cX7_isTrue 45 = .ok (.getfield 44, 3) := by decide +kernel
theorem dX7_isTrue_48 : decode cX7_isTrue 48 = .ok (.iload_n 1, 1) := by decide +kernel
theorem dX7_isTrue_49 : decode cX7_isTrue 49 = .ok (.baload, 1) := by decide +kernel
theorem dX7_isTrue_50 : decode cX7_isTrue 50 = .ok (.if_icmp .eq 7, 3) := by decide +kernel
theorem dX7_isTrue_53 : decode cX7_isTrue 53 = .ok (.iconst 1, 1) := by decide +kernel
theorem dX7_isTrue_54 : decode cX7_isTrue 54 = .ok (.goto 4, 3) := by decide +kernel
theorem dX7_isTrue_57 : decode cX7_isTrue 57 = .ok (.iconst 0, 1) := by decide +kernel
theorem dX7_isTrue_58 : decode cX7_isTrue 58 = .ok (.ireturn, 1) := by decide +kernel
set_option maxRecDepth 20000 in
theorem ggX7_does_X7_isTrue : GoodIn wsX7_does wsX7_isTrue := goodIn_r _ [7, 8, 9, 10, 11, 12, 13, 14, 15, 16, 17, 18, 19, 20, 21, 22, 23, 24, 25, 26, 27] (by decide +kernel) (by decide +kernel)
set_option maxRecDepth 20000 in
theorem gX7_does_X7_isTrue : GoodIn wsX7_does (wsV RX7 72 RX7 yX7_isTrue wsX7_isTrue) := goodIn_app (goodIn_of _ (by decide +kernel)) ggX7_does_X7_isTrue
theorem dX7_does_0 : decode cX7_does 0 = .ok (.iconst 0, 1) := by decide +kernel
theorem dX7_does_1 : decode cX7_does 1 = .ok (.istore_n 2, 1) := by decide +kernel
theorem dX7_does_2 : decode cX7_does 2 = .ok (.iconst 3, 1) := by decide +kernel
theorem dX7_does_3 : decode cX7_does 3 = .ok (.iload_n 1, 1) := by decide +kernel
theorem dX7_does_4 : decode cX7_does 4 = .ok (.imul, 1) := by decide +kernel
theorem dX7_does_5 : decode cX7_does 5 = .ok (.istore_n 3, 1) := by decide +kernel
theorem dX7_does_6 : decode cX7_does 6 = .ok (.iload_n 3, 1) := by decide +kernel
theorem dX7_does_7 : decode cX7_does 7 = .ok (.iconst 3, 1) := by decide +kernel
theorem dX7_does_8 : decode cX7_does 8 = .ok (.iload_n 1, 1) := by decide +kernel
theorem dX7_does_9 : decode cX7_does 9 = .ok (.imul, 1) := by decide +kernel
theorem dX7_does_10 : decode cX7_does 10 = .ok (.aload_n 0, 1) := by decide +kernel
theorem dX7_does_11 : decode cX7_does 11 = .ok (.getfield 17, 3) := by decide +kernel
theorem dX7_does_14 : decode cX7_does 14 = .ok (.iload_n 1, 1) := by decide +kernel
theorem dX7_does_15 : decode cX7_does 15 = .ok (.iaload, 1) := by decide +kernel
theorem dX7_does_16 : decode cX7_does 16 = .ok (.iadd, 1) := by decide +kernel
theorem dX7_does_17 : decode cX7_does 17 = .ok (.if_icmp .ge 74, 3) := by decide +kernel
theorem dX7_does_20 : decode cX7_does 20 = .ok (.iconst 1, 1) := by decide +kernel
theorem dX7_does_21 : decode cX7_does 21 = .ok (.istore 4, 2) := by decide +kernel
theorem dX7_does_23 : decode cX7_does 23 = .ok (.iconst 4, 1) := by decide +kernel
theorem dX7_does_24 : decode cX7_does 24 = .ok (.iload_n 3, 1) := by decide +kernel
theorem dX7_does_25 : decode cX7_does 25 = .ok (.imul, 1) := by decide +kernel
theorem dX7_does_26 : decode cX7_does 26 = .ok (.istore 5, 2) := by decide +kernel
theorem dX7_does_28 : decode cX7_does 28 = .ok (.iload 5, 2) := by decide +kernel
theorem dX7_does_30 : decode cX7_does 30 = .ok (.iconst 4, 1) := by decide +kernel
theorem dX7_does_31 : decode cX7_does 31 = .ok (.iload_n 3, 1) := by decide +kernel
theorem dX7_does_32 : decode cX7_does 32 = .ok (.imul, 1) := by decide +kernel
theorem dX7_does_33 : decode cX7_does 33 = .ok (.aload_n 0, 1) := by decide +kernel
theorem dX7_does_34 : decode cX7_does 34 = .ok (.getfield 32, 3) := by decide +kernel
theorem dX7_does_37 : decode cX7_does 37 = .ok (.iload_n 3, 1) := by decide +kernel
theorem dX7_does_38 : decode cX7_does 38 = .ok (.iaload, 1) := by decide +kernel
theorem dX7_does_39 : decode cX7_does 39 = .ok (.iadd, 1) := by decide +kernel
theorem dX7_does_40 : decode cX7_does 40 = .ok (.if_icmp .ge 30, 3) := by decide +kernel
theorem dX7_does_43 : decode cX7_does 43 = .ok (.iload 4, 2) := by decide +kernel
theorem dX7_does_45 : decode cX7_does 45 = .ok (.ifCond .eq 16, 3) := by decide +kernel
theorem dX7_does_48 : decode cX7_does 48 = .ok (.aload_n 0, 1) := by decide +kernel
theorem dX7_does_49 : decode cX7_does 49 = .ok (.iload 5, 2) := by decide +kernel
theorem dX7_does_51 : decode cX7_does 51 = .ok (.invokevirtual 72, 3) := by decide +kernel
theorem dX7_does_54 : decode cX7_does 54 = .ok (.ifCond .eq 7, 3) := by decide +kernel
theorem dX7_does_57 : decode cX7_does 57 = .ok (.iconst 1, 1) := by decide +kernel
theorem dX7_does_58 : decode cX7_does 58 = .ok (.goto 4, 3) := by decide +kernel
theorem dX7_does_61 : decode cX7_does 61 = .ok (.iconst 0, 1) := by decide +kernel
theorem dX7_does_62 : decode cX7_does 62 = .ok (.istore 4, 2) := by decide +kernel
theorem dX7_does_64 : decode cX7_does 64 = .ok (.iinc 5 1, 3) := by decide +kernel
theorem dX7_does_67 : decode cX7_does 67 = .ok (.goto (-39), 3) := by decide +kernel
theorem dX7_does_70 : decode cX7_does 70 = .ok (.iload_n 2, 1) := by decide +kernel
theorem dX7_does_71 : decode cX7_does 71 = .ok (.ifCond .ne 8, 3) := by decide +kernel
theorem dX7_does_74 : decode cX7_does 74 = .ok (.iload 4, 2) := by decide +kernel
theorem dX7_does_76 : decode cX7_does 76 = .ok (.ifCond .eq 7, 3) := by decide +kernel
theorem dX7_does_79 : decode cX7_does 79 = .ok (.iconst 1, 1) := by decide +kernel
theorem dX7_does_80 : decode cX7_does 80 = .ok (.goto 4, 3) := by decide +kernel
theorem dX7_does_83 : decode cX7_does 83 = .ok (.iconst 0, 1) := by decide +kernel
theorem dX7_does_84 : decode cX7_does 84 = .ok (.istore_n 2, 1) := by decide +kernel
theorem dX7_does_85 : decode cX7_does 85 = .ok (.iinc 3 1, 3) := by decide +kernel
theorem dX7_does_88 : decode cX7_does 88 = .ok (.goto (-82), 3) := by decide +kernel
theorem dX7_does_91 : decode cX7_does 91 = .ok (.iload_n 2, 1) := by decide +kernel
theorem dX7_does_92 : decode cX7_does 92 = .ok (.ireturn, 1) := by decide +kernel
theorem dX7_quietNow_0 : decode cX7_quietNow 0 = .ok (.aload_n 0, 1) := by decide +kernel
theorem dX7_quietNow_1 : decode cX7_quietNow 1 = .ok (.getfield 75, 3) := by decide +kernel
theorem dX7_quietNow_4 : decode cX7_quietNow 4 = .ok (.aload_n 0, 1) := by decide +kernel
theorem dX7_quietNow_5 : decode cX7_quietNow 5 = .ok (.getfield 23, 3) := by decide +kernel
theorem dX7_quietNow_8 : decode cX7_quietNow 8 = .ok (.iload_n 1, 1) := by decide +kernel
theorem dX7_quietNow_9 : decode cX7_quietNow 9 = .ok (.iaload, 1) := by decide +kernel
theorem dX7_quietNow_10 : decode cX7_quietNow 10 = .ok (.if_icmp .ge 7, 3) := by decide +kernel
theorem dX7_quietNow_13 : decode cX7_quietNow 13 = .ok (.iconst 1, 1) := by decide +kernel
theorem dX7_quietNow_14 : decode cX7_quietNow 14 = .ok (.goto 4, 3) := by decide +kernel
theorem dX7_quietNow_17 : decode cX7_quietNow 17 = .ok (.iconst 0, 1) := by decide +kernel
theorem dX7_quietNow_18 : decode cX7_quietNow 18 = .ok (.ireturn, 1) := by decide +kernel
theorem dX7_raises_0 : decode cX7_raises 0 = .ok (.aload_n 0, 1) := by decide +kernel
theorem dX7_raises_1 : decode cX7_raises 1 = .ok (.getfield 26, 3) := by decide +kernel
theorem dX7_raises_4 : decode cX7_raises 4 = .ok (.iload_n 1, 1) := by decide +kernel
theorem dX7_raises_5 : decode cX7_raises 5 = .ok (.dup2, 1) := by decide +kernel
theorem dX7_raises_6 : decode cX7_raises 6 = .ok (.iaload, 1) := by decide +kernel
theorem dX7_raises_7 : decode cX7_raises 7 = .ok (.iconst 1, 1) := by decide +kernel
theorem dX7_raises_8 : decode cX7_raises 8 = .ok (.iadd, 1) := by decide +kernel
theorem dX7_raises_9 : decode cX7_raises 9 = .ok (.iastore, 1) := by decide +kernel
theorem dX7_raises_10 : decode cX7_raises 10 = .ok (.aload_n 0, 1) := by decide +kernel
theorem dX7_raises_11 : decode cX7_raises 11 = .ok (.getfield 23, 3) := by decide +kernel
theorem dX7_raises_14 : decode cX7_raises 14 = .ok (.iload_n 1, 1) := by decide +kernel
theorem dX7_raises_15 : decode cX7_raises 15 = .ok (.aload_n 0, 1) := by decide +kernel
theorem dX7_raises_16 : decode cX7_raises 16 = .ok (.getfield 75, 3) := by decide +kernel
theorem dX7_raises_19 : decode cX7_raises 19 = .ok (.aload_n 0, 1) := by decide +kernel
theorem dX7_raises_20 : decode cX7_raises 20 = .ok (.getfield 20, 3) := by decide +kernel
theorem dX7_raises_23 : decode cX7_raises 23 = .ok (.iload_n 1, 1) := by decide +kernel
theorem dX7_raises_24 : decode cX7_raises 24 = .ok (.iaload, 1) := by decide +kernel
theorem dX7_raises_25 : decode cX7_raises 25 = .ok (.iadd, 1) := by decide +kernel
theorem dX7_raises_26 : decode cX7_raises 26 = .ok (.iastore, 1) := by decide +kernel
theorem dX7_raises_27 : decode cX7_raises 27 = .ok (.return_, 1) := by decide +kernel
set_option maxRecDepth 20000 in
theorem ggX7_come_X7_isQuestion : GoodIn wsX7_come wsX7_isQuestion := goodIn_r _ [8, 2, 9, 10, 11, 7, 12, 40, 41, 42, 43, 44, 45, 46, 47, 48, 49, 50, 51, 52, 53, 54] (by decide +kernel) (by decide +kernel)
set_option maxRecDepth 20000 in
theorem gX7_come_X7_isQuestion : GoodIn wsX7_come (wsV RX7 62 RX7 yX7_isQuestion wsX7_isQuestion) := goodIn_app (goodIn_of _ (by decide +kernel)) ggX7_come_X7_isQuestion
set_option maxRecDepth 20000 in
theorem ggX7_come_X7_does : GoodIn wsX7_come wsX7_does := goodIn_r _ [16, 17, 18, 19, 20, 21, 7, 22, 23, 24, 25, 26, 27, 40, 41, 42, 43, 44, 45, 46, 47, 48, 49, 50, 51, 52, 53, 54] (by decide +kernel) (by decide +kernel)
set_option maxRecDepth 20000 in
theorem gX7_come_X7_does : GoodIn wsX7_come (wsV RX7 78 RX7 yX7_does wsX7_does) := goodIn_app (goodIn_of _ (by decide +kernel)) ggX7_come_X7_does
set_option maxRecDepth 20000 in
theorem ggX7_come_X7_quietNow : GoodIn wsX7_come wsX7_quietNow := goodIn_r _ [31, 32, 33, 40, 41, 42, 43, 44, 45, 46, 47, 48, 49, 50, 51, 52, 53, 54] (by decide +kernel) (by decide +kernel)
set_option maxRecDepth 20000 in
theorem gX7_come_X7_quietNow : GoodIn wsX7_come (wsV RX7 81 RX7 yX7_quietNow wsX7_quietNow) := goodIn_app (goodIn_of _ (by decide +kernel)) ggX7_come_X7_quietNow
set_option maxRecDepth 20000 in
theorem ggX7_come_X7_raises : GoodIn wsX7_come wsX7_raises := goodIn_r _ [37, 38, 33, 32, 39, 40, 41, 42, 43, 44, 45, 46, 47, 48, 49, 50, 51, 52, 53, 54] (by decide +kernel) (by decide +kernel)
set_option maxRecDepth 20000 in
theorem gX7_come_X7_raises : GoodIn wsX7_come (wsV RX7 84 RX7 yX7_raises wsX7_raises) := goodIn_app (goodIn_of _ (by decide +kernel)) ggX7_come_X7_raises
theorem dX7_come_0 : decode cX7_come 0 = .ok (.aload_n 0, 1) := by decide +kernel
theorem dX7_come_1 : decode cX7_come 1 = .ok (.iconst 0, 1) := by decide +kernel
theorem dX7_come_2 : decode cX7_come 2 = .ok (.putfield 47, 3) := by decide +kernel
theorem dX7_come_5 : decode cX7_come 5 = .ok (.iconst 0, 1) := by decide +kernel
theorem dX7_come_6 : decode cX7_come 6 = .ok (.istore_n 1, 1) := by decide +kernel
theorem dX7_come_7 : decode cX7_come 7 = .ok (.iconst 0, 1) := by decide +kernel
theorem dX7_come_8 : decode cX7_come 8 = .ok (.istore_n 2, 1) := by decide +kernel
theorem dX7_come_9 : decode cX7_come 9 = .ok (.iload_n 2, 1) := by decide +kernel
theorem dX7_come_10 : decode cX7_come 10 = .ok (.aload_n 0, 1) := by decide +kernel
theorem dX7_come_11 : decode cX7_come 11 = .ok (.getfield 51, 3) := by decide +kernel
theorem dX7_come_14 : decode cX7_come 14 = .ok (.if_icmp .ge 57, 3) := by decide +kernel
theorem dX7_come_17 : decode cX7_come 17 = .ok (.aload_n 0, 1) := by decide +kernel
theorem dX7_come_18 : decode cX7_come 18 = .ok (.iload_n 2, 1) := by decide +kernel
theorem dX7_come_19 : decode cX7_come 19 = .ok (.invokevirtual 62, 3) := by decide +kernel
theorem dX7_come_22 : decode cX7_come 22 = .ok (.ifCond .eq 43, 3) := by decide +kernel
theorem dX7_come_25 : decode cX7_come 25 = .ok (.aload_n 0, 1) := by decide +kernel
theorem dX7_come_26 : decode cX7_come 26 = .ok (.iload_n 2, 1) := by decide +kernel
theorem dX7_come_27 : decode cX7_come 27 = .ok (.invokevirtual 78, 3) := by decide +kernel
theorem dX7_come_30 : decode cX7_come 30 = .ok (.ifCond .eq 35, 3) := by decide +kernel
theorem dX7_come_33 : decode cX7_come 33 = .ok (.aload_n 0, 1) := by decide +kernel
theorem dX7_come_34 : decode cX7_come 34 = .ok (.iload_n 2, 1) := by decide +kernel
theorem dX7_come_35 : decode cX7_come 35 = .ok (.invokevirtual 81, 3) := by decide +kernel
theorem dX7_come_38 : decode cX7_come 38 = .ok (.ifCond .eq 16, 3) := by decide +kernel
theorem dX7_come_41 : decode cX7_come 41 = .ok (.aload_n 0, 1) := by decide +kernel
theorem dX7_come_42 : decode cX7_come 42 = .ok (.getfield 29, 3) := by decide +kernel
theorem dX7_come_45 : decode cX7_come 45 = .ok (.iload_n 2, 1) := by decide +kernel
theorem dX7_come_46 : decode cX7_come 46 = .ok (.dup2, 1) := by decide +kernel
theorem dX7_come_47 : decode cX7_come 47 = .ok (.iaload, 1) := by decide +kernel
theorem dX7_come_48 : decode cX7_come 48 = .ok (.iconst 1, 1) := by decide +kernel
theorem dX7_come_49 : decode cX7_come 49 = .ok (.iadd, 1) := by decide +kernel
theorem dX7_come_50 : decode cX7_come 50 = .ok (.iastore, 1) := by decide +kernel
theorem dX7_come_51 : decode cX7_come 51 = .ok (.goto 14, 3) := by decide +kernel
theorem dX7_come_54 : decode cX7_come 54 = .ok (.aload_n 0, 1) := by decide +kernel
theorem dX7_come_55 : decode cX7_come 55 = .ok (.iload_n 2, 1) := by decide +kernel
theorem dX7_come_56 : decode cX7_come 56 = .ok (.invokevirtual 84, 3) := by decide +kernel
theorem dX7_come_59 : decode cX7_come 59 = .ok (.iload_n 1, 1) := by decide +kernel
theorem dX7_come_60 : decode cX7_come 60 = .ok (.iconst 1, 1) := by decide +kernel
theorem dX7_come_61 : decode cX7_come 61 = .ok (.iload_n 2, 1) := by decide +kernel
theorem dX7_come_62 : decode cX7_come 62 = .ok (.ishl, 1) := by decide +kernel
theorem dX7_come_63 : decode cX7_come 63 = .ok (.ior, 1) := by decide +kernel
theorem dX7_come_64 : decode cX7_come 64 = .ok (.istore_n 1, 1) := by decide +kernel
theorem dX7_come_65 : decode cX7_come 65 = .ok (.iinc 2 1, 3) := by decide +kernel
theorem dX7_come_68 : decode cX7_come 68 = .ok (.goto (-59), 3) := by decide +kernel
theorem dX7_come_71 : decode cX7_come 71 = .ok (.iload_n 1, 1) := by decide +kernel
theorem dX7_come_72 : decode cX7_come 72 = .ok (.ireturn, 1) := by decide +kernel
set_option maxRecDepth 20000 in
theorem ggX7_advance_X7_isIn : GoodIn wsX7_advance wsX7_isIn := goodIn_r _ [9] (by decide +kernel) (by decide +kernel)
set_option maxRecDepth 20000 in
theorem gX7_advance_X7_isIn : GoodIn wsX7_advance (va_wsS RX7 54 yX7_isIn wsX7_isIn) := goodIn_app (goodIn_of _ (by decide +kernel)) ggX7_advance_X7_isIn
set_option maxRecDepth 20000 in
theorem ggX7_advance_X7_holds : GoodIn wsX7_advance wsX7_holds := goodIn_r _ [13, 14, 26, 27, 28, 29, 30, 31, 32, 33, 34, 35, 36, 37, 38, 39, 40] (by decide +kernel) (by decide +kernel)
set_option maxRecDepth 20000 in
theorem gX7_advance_X7_holds : GoodIn wsX7_advance (wsV RX7 58 RX7 yX7_holds wsX7_holds) := goodIn_app (goodIn_of _ (by decide +kernel)) ggX7_advance_X7_holds
set_option maxRecDepth 20000 in
theorem ggX7_advance_X7_isQuestion : GoodIn wsX7_advance wsX7_isQuestion := goodIn_r _ [18, 3, 19, 6, 7, 8, 9, 26, 27, 28, 29, 30, 31, 32, 33, 34, 35, 36, 37, 38, 39, 40] (by decide +kernel) (by decide +kernel)
set_option maxRecDepth 20000 in
theorem gX7_advance_X7_isQuestion : GoodIn wsX7_advance (wsV RX7 62 RX7 yX7_isQuestion wsX7_isQuestion) := goodIn_app (goodIn_of _ (by decide +kernel)) ggX7_advance_X7_isQuestion
set_option maxRecDepth 20000 in
theorem ggX7_advance_X7_raises : GoodIn wsX7_advance wsX7_raises := goodIn_r _ [23, 24, 4, 1, 25, 26, 27, 28, 29, 30, 31, 32, 33, 34, 35, 36, 37, 38, 39, 40] (by decide +kernel) (by decide +kernel)
set_option maxRecDepth 20000 in
theorem gX7_advance_X7_raises : GoodIn wsX7_advance (wsV RX7 84 RX7 yX7_raises wsX7_raises) := goodIn_app (goodIn_of _ (by decide +kernel)) ggX7_advance_X7_raises
theorem dX7_advance_0 : decode cX7_advance 0 = .ok (.aload_n 0, 1) := by decide +kernel
theorem dX7_advance_1 : decode cX7_advance 1 = .ok (.iload_n 1, 1) := by decide +kernel
theorem dX7_advance_2 : decode cX7_advance 2 = .ok (.iconst 1, 1) := by decide +kernel
theorem dX7_advance_3 : decode cX7_advance 3 = .ok (.sipush 1000, 3) := by decide +kernel
theorem dX7_advance_6 : decode cX7_advance 6 = .ok (.invokestatic 54, 3) := by decide +kernel
theorem dX7_advance_9 : decode cX7_advance 9 = .ok (.ifCond .ne 7, 3) := by decide +kernel
theorem dX7_advance_12 : decode cX7_advance 12 = .ok (.iconst 1, 1) := by decide +kernel
theorem dX7_advance_13 : decode cX7_advance 13 = .ok (.goto 19, 3) := by decide +kernel
theorem dX7_advance_16 : decode cX7_advance 16 = .ok (.aload_n 0, 1) := by decide +kernel
theorem dX7_advance_17 : decode cX7_advance 17 = .ok (.getfield 75, 3) := by decide +kernel
theorem dX7_advance_20 : decode cX7_advance 20 = .ok (.iload_n 1, 1) := by decide +kernel
theorem dX7_advance_21 : decode cX7_advance 21 = .ok (.iadd, 1) := by decide +kernel
theorem dX7_advance_22 : decode cX7_advance 22 = .ok (.ldc 88, 2) := by decide +kernel
theorem dX7_advance_24 : decode cX7_advance 24 = .ok (.if_icmp .le 7, 3) := by decide +kernel
theorem dX7_advance_27 : decode cX7_advance 27 = .ok (.iconst 2, 1) := by decide +kernel
theorem dX7_advance_28 : decode cX7_advance 28 = .ok (.goto 4, 3) := by decide +kernel
theorem dX7_advance_31 : decode cX7_advance 31 = .ok (.iconst 0, 1) := by decide +kernel
theorem dX7_advance_32 : decode cX7_advance 32 = .ok (.invokevirtual 58, 3) := by decide +kernel
theorem dX7_advance_35 : decode cX7_advance 35 = .ok (.ifCond .ne 5, 3) := by decide +kernel
theorem dX7_advance_38 : decode cX7_advance 38 = .ok (.iconst 0, 1) := by decide +kernel
theorem dX7_advance_39 : decode cX7_advance 39 = .ok (.ireturn, 1) := by decide +kernel
theorem dX7_advance_40 : decode cX7_advance 40 = .ok (.iconst 0, 1) := by decide +kernel
theorem dX7_advance_41 : decode cX7_advance 41 = .ok (.istore_n 2, 1) := by decide +kernel
theorem dX7_advance_42 : decode cX7_advance 42 = .ok (.iconst 0, 1) := by decide +kernel
theorem dX7_advance_43 : decode cX7_advance 43 = .ok (.istore_n 3, 1) := by decide +kernel
theorem dX7_advance_44 : decode cX7_advance 44 = .ok (.iload_n 3, 1) := by decide +kernel
theorem dX7_advance_45 : decode cX7_advance 45 = .ok (.iload_n 1, 1) := by decide +kernel
theorem dX7_advance_46 : decode cX7_advance 46 = .ok (.if_icmp .ge 87, 3) := by decide +kernel
theorem dX7_advance_49 : decode cX7_advance 49 = .ok (.aload_n 0, 1) := by decide +kernel
theorem dX7_advance_50 : decode cX7_advance 50 = .ok (.dup, 1) := by decide +kernel
theorem dX7_advance_51 : decode cX7_advance 51 = .ok (.getfield 75, 3) := by decide +kernel
theorem dX7_advance_54 : decode cX7_advance 54 = .ok (.iconst 1, 1) := by decide +kernel
theorem dX7_advance_55 : decode cX7_advance 55 = .ok (.iadd, 1) := by decide +kernel
theorem dX7_advance_56 : decode cX7_advance 56 = .ok (.putfield 75, 3) := by decide +kernel
theorem dX7_advance_59 : decode cX7_advance 59 = .ok (.iconst 0, 1) := by decide +kernel
theorem dX7_advance_60 : decode cX7_advance 60 = .ok (.istore 4, 2) := by decide +kernel
theorem dX7_advance_62 : decode cX7_advance 62 = .ok (.iload 4, 2) := by decide +kernel
theorem dX7_advance_64 : decode cX7_advance 64 = .ok (.aload_n 0, 1) := by decide +kernel
theorem dX7_advance_65 : decode cX7_advance 65 = .ok (.getfield 51, 3) := by decide +kernel
theorem dX7_advance_68 : decode cX7_advance 68 = .ok (.if_icmp .ge 59, 3) := by decide +kernel
theorem dX7_advance_71 : decode cX7_advance 71 = .ok (.aload_n 0, 1) := by decide +kernel
theorem dX7_advance_72 : decode cX7_advance 72 = .ok (.iload 4, 2) := by decide +kernel
theorem dX7_advance_74 : decode cX7_advance 74 = .ok (.invokevirtual 62, 3) := by decide +kernel
theorem dX7_advance_77 : decode cX7_advance 77 = .ok (.ifCond .eq 44, 3) := by decide +kernel
theorem dX7_advance_80 : decode cX7_advance 80 = .ok (.aload_n 0, 1) := by decide +kernel
theorem dX7_advance_81 : decode cX7_advance 81 = .ok (.getfield 75, 3) := by decide +kernel
theorem dX7_advance_84 : decode cX7_advance 84 = .ok (.aload_n 0, 1) := by decide +kernel
theorem dX7_advance_85 : decode cX7_advance 85 = .ok (.getfield 23, 3) := by decide +kernel
theorem dX7_advance_88 : decode cX7_advance 88 = .ok (.iload 4, 2) := by decide +kernel
theorem dX7_advance_90 : decode cX7_advance 90 = .ok (.iaload, 1) := by decide +kernel
theorem dX7_advance_91 : decode cX7_advance 91 = .ok (.if_icmp .ne 30, 3) := by decide +kernel
theorem dX7_advance_94 : decode cX7_advance 94 = .ok (.aload_n 0, 1) := by decide +kernel
theorem dX7_advance_95 : decode cX7_advance 95 = .ok (.getfield 29, 3) := by decide +kernel
theorem dX7_advance_98 : decode cX7_advance 98 = .ok (.iload 4, 2) := by decide +kernel
theorem dX7_advance_100 : decode cX7_advance 100 = .ok (.iaload, 1) := by decide +kernel
theorem dX7_advance_101 : decode cX7_advance 101 = .ok (.ifCond .le 20, 3) := by decide +kernel
theorem dX7_advance_104 : decode cX7_advance 104 = .ok (.aload_n 0, 1) := by decide +kernel
theorem dX7_advance_105 : decode cX7_advance 105 = .ok (.getfield 29, 3) := by decide +kernel
theorem dX7_advance_108 : decode cX7_advance 108 = .ok (.iload 4, 2) := by decide +kernel
theorem dX7_advance_110 : decode cX7_advance 110 = .ok (.iconst 0, 1) := by decide +kernel
theorem dX7_advance_111 : decode cX7_advance 111 = .ok (.iastore, 1) := by decide +kernel
theorem dX7_advance_112 : decode cX7_advance 112 = .ok (.aload_n 0, 1) := by decide +kernel
theorem dX7_advance_113 : decode cX7_advance 113 = .ok (.iload 4, 2) := by decide +kernel
theorem dX7_advance_115 : decode cX7_advance 115 = .ok (.invokevirtual 84, 3) := by decide +kernel
theorem dX7_advance_118 : decode cX7_advance 118 = .ok (.iinc 2 1, 3) := by decide +kernel
theorem dX7_advance_121 : decode cX7_advance 121 = .ok (.iinc 4 1, 3) := by decide +kernel
theorem dX7_advance_124 : decode cX7_advance 124 = .ok (.goto (-62), 3) := by decide +kernel
theorem dX7_advance_127 : decode cX7_advance 127 = .ok (.iinc 3 1, 3) := by decide +kernel
theorem dX7_advance_130 : decode cX7_advance 130 = .ok (.goto (-86), 3) := by decide +kernel
theorem dX7_advance_133 : decode cX7_advance 133 = .ok (.iload_n 2, 1) := by decide +kernel
theorem dX7_advance_134 : decode cX7_advance 134 = .ok (.ireturn, 1) := by decide +kernel
set_option maxRecDepth 20000 in
theorem ggX7_satisfies_X7_isQuestion : GoodIn wsX7_satisfies wsX7_isQuestion := goodIn_r _ [5, 6, 7, 8, 9, 4, 10, 31, 32, 33, 34, 35, 36, 37, 38, 39, 40, 41, 42, 43, 44, 45] (by decide +kernel) (by decide +kernel)
set_option maxRecDepth 20000 in
theorem gX7_satisfies_X7_isQuestion : GoodIn wsX7_satisfies (wsV RX7 62 RX7 yX7_isQuestion wsX7_isQuestion) := goodIn_app (goodIn_of _ (by decide +kernel)) ggX7_satisfies_X7_isQuestion
set_option maxRecDepth 20000 in
theorem ggX7_satisfies_X7_holds : GoodIn wsX7_satisfies wsX7_holds := goodIn_r _ [14, 15, 31, 32, 33, 34, 35, 36, 37, 38, 39, 40, 41, 42, 43, 44, 45] (by decide +kernel) (by decide +kernel)
set_option maxRecDepth 20000 in
theorem gX7_satisfies_X7_holds : GoodIn wsX7_satisfies (wsV RX7 58 RX7 yX7_holds wsX7_holds) := goodIn_app (goodIn_of _ (by decide +kernel)) ggX7_satisfies_X7_holds
set_option maxRecDepth 20000 in
theorem ggX7_satisfies_X7_does : GoodIn wsX7_satisfies wsX7_does := goodIn_r _ [19, 20, 21, 22, 23, 24, 4, 25, 26, 27, 28, 29, 30, 31, 32, 33, 34, 35, 36, 37, 38, 39, 40, 41, 42, 43, 44, 45] (by decide +kernel) (by decide +kernel)
set_option maxRecDepth 20000 in
theorem gX7_satisfies_X7_does : GoodIn wsX7_satisfies (wsV RX7 78 RX7 yX7_does wsX7_does) := goodIn_app (goodIn_of _ (by decide +kernel)) ggX7_satisfies_X7_does
theorem dX7_satisfies_0 : decode cX7_satisfies 0 = .ok (.aload_n 0, 1) := by decide +kernel
theorem dX7_satisfies_1 : decode cX7_satisfies 1 = .ok (.aload_n 0, 1) := by decide +kernel
theorem dX7_satisfies_2 : decode cX7_satisfies 2 = .ok (.iload_n 1, 1) := by decide +kernel
theorem dX7_satisfies_3 : decode cX7_satisfies 3 = .ok (.invokevirtual 62, 3) := by decide +kernel
theorem dX7_satisfies_6 : decode cX7_satisfies 6 = .ok (.ifCond .eq 7, 3) := by decide +kernel
theorem dX7_satisfies_9 : decode cX7_satisfies 9 = .ok (.iconst 0, 1) := by decide +kernel
theorem dX7_satisfies_10 : decode cX7_satisfies 10 = .ok (.goto 4, 3) := by decide +kernel
theorem dX7_satisfies_13 : decode cX7_satisfies 13 = .ok (.iconst 1, 1) := by decide +kernel
theorem dX7_satisfies_14 : decode cX7_satisfies 14 = .ok (.invokevirtual 58, 3) := by decide +kernel
theorem dX7_satisfies_17 : decode cX7_satisfies 17 = .ok (.ifCond .eq 15, 3) := by decide +kernel
theorem dX7_satisfies_20 : decode cX7_satisfies 20 = .ok (.aload_n 0, 1) := by decide +kernel
theorem dX7_satisfies_21 : decode cX7_satisfies 21 = .ok (.iload_n 1, 1) := by decide +kernel
theorem dX7_satisfies_22 : decode cX7_satisfies 22 = .ok (.invokevirtual 78, 3) := by decide +kernel
theorem dX7_satisfies_25 : decode cX7_satisfies 25 = .ok (.ifCond .eq 7, 3) := by decide +kernel
theorem dX7_satisfies_28 : decode cX7_satisfies 28 = .ok (.iconst 1, 1) := by decide +kernel
theorem dX7_satisfies_29 : decode cX7_satisfies 29 = .ok (.goto 4, 3) := by decide +kernel
theorem dX7_satisfies_32 : decode cX7_satisfies 32 = .ok (.iconst 0, 1) := by decide +kernel
theorem dX7_satisfies_33 : decode cX7_satisfies 33 = .ok (.ireturn, 1) := by decide +kernel
set_option maxRecDepth 20000 in
theorem ggX7_found_X7_isQuestion : GoodIn wsX7_found wsX7_isQuestion := goodIn_r _ [6, 1, 7, 8, 9, 5, 10, 26, 27, 28, 29, 30, 31, 32, 33, 34, 35, 36, 37, 38, 39, 40] (by decide +kernel) (by decide +kernel)
set_option maxRecDepth 20000 in
theorem gX7_found_X7_isQuestion : GoodIn wsX7_found (wsV RX7 62 RX7 yX7_isQuestion wsX7_isQuestion) := goodIn_app (goodIn_of _ (by decide +kernel)) ggX7_found_X7_isQuestion
set_option maxRecDepth 20000 in
theorem ggX7_found_X7_does : GoodIn wsX7_found wsX7_does := goodIn_r _ [14, 15, 16, 17, 18, 19, 5, 20, 21, 22, 23, 24, 25, 26, 27, 28, 29, 30, 31, 32, 33, 34, 35, 36, 37, 38, 39, 40] (by decide +kernel) (by decide +kernel)
set_option maxRecDepth 20000 in
theorem gX7_found_X7_does : GoodIn wsX7_found (wsV RX7 78 RX7 yX7_does wsX7_does) := goodIn_app (goodIn_of _ (by decide +kernel)) ggX7_found_X7_does
theorem dX7_found_0 : decode cX7_found 0 = .ok (.iconst 0, 1) := by decide +kernel
theorem dX7_found_1 : decode cX7_found 1 = .ok (.istore_n 1, 1) := by decide +kernel
theorem dX7_found_2 : decode cX7_found 2 = .ok (.iconst 0, 1) := by decide +kernel
theorem dX7_found_3 : decode cX7_found 3 = .ok (.istore_n 2, 1) := by decide +kernel
theorem dX7_found_4 : decode cX7_found 4 = .ok (.iload_n 2, 1) := by decide +kernel
theorem dX7_found_5 : decode cX7_found 5 = .ok (.aload_n 0, 1) := by decide +kernel
theorem dX7_found_6 : decode cX7_found 6 = .ok (.getfield 51, 3) := by decide +kernel
theorem dX7_found_9 : decode cX7_found 9 = .ok (.if_icmp .ge 35, 3) := by decide +kernel
theorem dX7_found_12 : decode cX7_found 12 = .ok (.iload_n 1, 1) := by decide +kernel
theorem dX7_found_13 : decode cX7_found 13 = .ok (.aload_n 0, 1) := by decide +kernel
theorem dX7_found_14 : decode cX7_found 14 = .ok (.iload_n 2, 1) := by decide +kernel
theorem dX7_found_15 : decode cX7_found 15 = .ok (.invokevirtual 62, 3) := by decide +kernel
theorem dX7_found_18 : decode cX7_found 18 = .ok (.ifCond .eq 17, 3) := by decide +kernel
theorem dX7_found_21 : decode cX7_found 21 = .ok (.aload_n 0, 1) := by decide +kernel
theorem dX7_found_22 : decode cX7_found 22 = .ok (.iload_n 2, 1) := by decide +kernel
theorem dX7_found_23 : decode cX7_found 23 = .ok (.invokevirtual 78, 3) := by decide +kernel
theorem dX7_found_26 : decode cX7_found 26 = .ok (.ifCond .eq 9, 3) := by decide +kernel
theorem dX7_found_29 : decode cX7_found 29 = .ok (.iconst 1, 1) := by decide +kernel
theorem dX7_found_30 : decode cX7_found 30 = .ok (.iload_n 2, 1) := by decide +kernel
theorem dX7_found_31 : decode cX7_found 31 = .ok (.ishl, 1) := by decide +kernel
theorem dX7_found_32 : decode cX7_found 32 = .ok (.goto 4, 3) := by decide +kernel
theorem dX7_found_35 : decode cX7_found 35 = .ok (.iconst 0, 1) := by decide +kernel
theorem dX7_found_36 : decode cX7_found 36 = .ok (.ior, 1) := by decide +kernel
theorem dX7_found_37 : decode cX7_found 37 = .ok (.istore_n 1, 1) := by decide +kernel
theorem dX7_found_38 : decode cX7_found 38 = .ok (.iinc 2 1, 3) := by decide +kernel
theorem dX7_found_41 : decode cX7_found 41 = .ok (.goto (-37), 3) := by decide +kernel
theorem dX7_found_44 : decode cX7_found 44 = .ok (.iload_n 1, 1) := by decide +kernel
theorem dX7_found_45 : decode cX7_found 45 = .ok (.ireturn, 1) := by decide +kernel
set_option maxRecDepth 20000 in
theorem ggX7_matching_X7_found : GoodIn wsX7_matching wsX7_found := goodIn_r _ [6, 7, 8, 9, 10, 5, 11, 12, 13, 14, 15, 16, 17, 18, 19, 20, 21, 22, 23, 24, 25, 26, 27, 28, 29, 30, 31, 32, 33, 34, 35, 36, 37, 38, 39, 40, 41, 42, 43, 44, 45] (by decide +kernel) (by decide +kernel)
set_option maxRecDepth 20000 in
theorem gX7_matching_X7_found : GoodIn wsX7_matching (wsV RX7 89 RX7 yX7_found wsX7_found) := goodIn_app (goodIn_of _ (by decide +kernel)) ggX7_matching_X7_found
theorem dX7_matching_0 : decode cX7_matching 0 = .ok (.aload_n 0, 1) := by decide +kernel
theorem dX7_matching_1 : decode cX7_matching 1 = .ok (.iconst 0, 1) := by decide +kernel
theorem dX7_matching_2 : decode cX7_matching 2 = .ok (.putfield 47, 3) := by decide +kernel
theorem dX7_matching_5 : decode cX7_matching 5 = .ok (.aload_n 0, 1) := by decide +kernel
theorem dX7_matching_6 : decode cX7_matching 6 = .ok (.invokevirtual 89, 3) := by decide +kernel
theorem dX7_matching_9 : decode cX7_matching 9 = .ok (.ireturn, 1) := by decide +kernel
set_option maxRecDepth 20000 in
theorem ggX7_matchingByIndex_X7_found : GoodIn wsX7_matchingByIndex wsX7_found := goodIn_r _ [6, 7, 8, 9, 10, 5, 11, 12, 13, 14, 15, 16, 17, 18, 19, 20, 21, 22, 23, 24, 25, 26, 27, 28, 29, 30, 31, 32, 33, 34, 35, 36, 37, 38, 39, 40, 41, 42, 43, 44, 45] (by decide +kernel) (by decide +kernel)
set_option maxRecDepth 20000 in
theorem gX7_matchingByIndex_X7_found : GoodIn wsX7_matchingByIndex (wsV RX7 89 RX7 yX7_found wsX7_found) := goodIn_app (goodIn_of _ (by decide +kernel)) ggX7_matchingByIndex_X7_found
theorem dX7_matchingByIndex_0 : decode cX7_matchingByIndex 0 = .ok (.aload_n 0, 1) := by decide +kernel
theorem dX7_matchingByIndex_1 : decode cX7_matchingByIndex 1 = .ok (.iconst 0, 1) := by decide +kernel
theorem dX7_matchingByIndex_2 : decode cX7_matchingByIndex 2 = .ok (.putfield 47, 3) := by decide +kernel
theorem dX7_matchingByIndex_5 : decode cX7_matchingByIndex 5 = .ok (.aload_n 0, 1) := by decide +kernel
theorem dX7_matchingByIndex_6 : decode cX7_matchingByIndex 6 = .ok (.invokevirtual 89, 3) := by decide +kernel
theorem dX7_matchingByIndex_9 : decode cX7_matchingByIndex 9 = .ok (.ireturn, 1) := by decide +kernel
theorem dX7_size_0 : decode cX7_size 0 = .ok (.aload_n 0, 1) := by decide +kernel
theorem dX7_size_1 : decode cX7_size 1 = .ok (.getfield 17, 3) := by decide +kernel
theorem dX7_size_4 : decode cX7_size 4 = .ok (.iload_n 1, 1) := by decide +kernel
theorem dX7_size_5 : decode cX7_size 5 = .ok (.iaload, 1) := by decide +kernel
theorem dX7_size_6 : decode cX7_size 6 = .ok (.ifCond .ne 7, 3) := by decide +kernel
theorem dX7_size_9 : decode cX7_size 9 = .ok (.iconst 0, 1) := by decide +kernel
theorem dX7_size_10 : decode cX7_size 10 = .ok (.goto 4, 3) := by decide +kernel
theorem dX7_size_13 : decode cX7_size 13 = .ok (.iconst 4, 1) := by decide +kernel
theorem dX7_size_14 : decode cX7_size 14 = .ok (.istore_n 2, 1) := by decide +kernel
theorem dX7_size_15 : decode cX7_size 15 = .ok (.iconst 3, 1) := by decide +kernel
theorem dX7_size_16 : decode cX7_size 16 = .ok (.iload_n 1, 1) := by decide +kernel
theorem dX7_size_17 : decode cX7_size 17 = .ok (.imul, 1) := by decide +kernel
theorem dX7_size_18 : decode cX7_size 18 = .ok (.istore_n 3, 1) := by decide +kernel
theorem dX7_size_19 : decode cX7_size 19 = .ok (.iload_n 3, 1) := by decide +kernel
theorem dX7_size_20 : decode cX7_size 20 = .ok (.iconst 3, 1) := by decide +kernel
theorem dX7_size_21 : decode cX7_size 21 = .ok (.iload_n 1, 1) := by decide +kernel
theorem dX7_size_22 : decode cX7_size 22 = .ok (.imul, 1) := by decide +kernel
theorem dX7_size_23 : decode cX7_size 23 = .ok (.aload_n 0, 1) := by decide +kernel
theorem dX7_size_24 : decode cX7_size 24 = .ok (.getfield 17, 3) := by decide +kernel
theorem dX7_size_27 : decode cX7_size 27 = .ok (.iload_n 1, 1) := by decide +kernel
theorem dX7_size_28 : decode cX7_size 28 = .ok (.iaload, 1) := by decide +kernel
theorem dX7_size_29 : decode cX7_size 29 = .ok (.iadd, 1) := by decide +kernel
theorem dX7_size_30 : decode cX7_size 30 = .ok (.if_icmp .ge 71, 3) := by decide +kernel
theorem dX7_size_33 : decode cX7_size 33 = .ok (.iconst 0, 1) := by decide +kernel
theorem dX7_size_34 : decode cX7_size 34 = .ok (.istore 4, 2) := by decide +kernel
theorem dX7_size_36 : decode cX7_size 36 = .ok (.iconst 4, 1) := by decide +kernel
theorem dX7_size_37 : decode cX7_size 37 = .ok (.iload_n 3, 1) := by decide +kernel
theorem dX7_size_38 : decode cX7_size 38 = .ok (.imul, 1) := by decide +kernel
theorem dX7_size_39 : decode cX7_size 39 = .ok (.istore 5, 2) := by decide +kernel
theorem dX7_size_41 : decode cX7_size 41 = .ok (.iload 5, 2) := by decide +kernel
theorem dX7_size_43 : decode cX7_size 43 = .ok (.iconst 4, 1) := by decide +kernel
theorem dX7_size_44 : decode cX7_size 44 = .ok (.iload_n 3, 1) := by decide +kernel
theorem dX7_size_45 : decode cX7_size 45 = .ok (.imul, 1) := by decide +kernel
theorem dX7_size_46 : decode cX7_size 46 = .ok (.aload_n 0, 1) := by decide +kernel
theorem dX7_size_47 : decode cX7_size 47 = .ok (.getfield 32, 3) := by decide +kernel
theorem dX7_size_50 : decode cX7_size 50 = .ok (.iload_n 3, 1) := by decide +kernel
theorem dX7_size_51 : decode cX7_size 51 = .ok (.iaload, 1) := by decide +kernel
theorem dX7_size_52 : decode cX7_size 52 = .ok (.iadd, 1) := by decide +kernel
theorem dX7_size_53 : decode cX7_size 53 = .ok (.if_icmp .ge 29, 3) := by decide +kernel
theorem dX7_size_56 : decode cX7_size 56 = .ok (.iload 4, 2) := by decide +kernel
theorem dX7_size_58 : decode cX7_size 58 = .ok (.aload_n 0, 1) := by decide +kernel
theorem dX7_size_59 : decode cX7_size 59 = .ok (.getfield 44, 3) := by decide +kernel
theorem dX7_size_62 : decode cX7_size 62 = .ok (.iload 5, 2) := by decide +kernel
theorem dX7_size_64 : decode cX7_size 64 = .ok (.baload, 1) := by decide +kernel
theorem dX7_size_65 : decode cX7_size 65 = .ok (.ifCond .eq 7, 3) := by decide +kernel
theorem dX7_size_68 : decode cX7_size 68 = .ok (.iconst 0, 1) := by decide +kernel
theorem dX7_size_69 : decode cX7_size 69 = .ok (.goto 4, 3) := by decide +kernel
theorem dX7_size_72 : decode cX7_size 72 = .ok (.iconst 1, 1) := by decide +kernel
theorem dX7_size_73 : decode cX7_size 73 = .ok (.iadd, 1) := by decide +kernel
theorem dX7_size_74 : decode cX7_size 74 = .ok (.istore 4, 2) := by decide +kernel
theorem dX7_size_76 : decode cX7_size 76 = .ok (.iinc 5 1, 3) := by decide +kernel
theorem dX7_size_79 : decode cX7_size 79 = .ok (.goto (-38), 3) := by decide +kernel
theorem dX7_size_82 : decode cX7_size 82 = .ok (.iload 4, 2) := by decide +kernel
theorem dX7_size_84 : decode cX7_size 84 = .ok (.iload_n 2, 1) := by decide +kernel
theorem dX7_size_85 : decode cX7_size 85 = .ok (.if_icmp .ge 8, 3) := by decide +kernel
theorem dX7_size_88 : decode cX7_size 88 = .ok (.iload 4, 2) := by decide +kernel
theorem dX7_size_90 : decode cX7_size 90 = .ok (.goto 4, 3) := by decide +kernel
theorem dX7_size_93 : decode cX7_size 93 = .ok (.iload_n 2, 1) := by decide +kernel
theorem dX7_size_94 : decode cX7_size 94 = .ok (.istore_n 2, 1) := by decide +kernel
theorem dX7_size_95 : decode cX7_size 95 = .ok (.iinc 3 1, 3) := by decide +kernel
theorem dX7_size_98 : decode cX7_size 98 = .ok (.goto (-79), 3) := by decide +kernel
theorem dX7_size_101 : decode cX7_size 101 = .ok (.iload_n 2, 1) := by decide +kernel
theorem dX7_size_102 : decode cX7_size 102 = .ok (.ireturn, 1) := by decide +kernel
set_option maxRecDepth 20000 in
theorem ggX7_sizeOf_X7_isQuestion : GoodIn wsX7_sizeOf wsX7_isQuestion := goodIn_r _ [5, 6, 7, 8, 9, 4, 10, 23, 24, 25, 26, 27, 28, 29, 30, 31, 32, 33, 34, 35, 36, 37] (by decide +kernel) (by decide +kernel)
set_option maxRecDepth 20000 in
theorem gX7_sizeOf_X7_isQuestion : GoodIn wsX7_sizeOf (wsV RX7 62 RX7 yX7_isQuestion wsX7_isQuestion) := goodIn_app (goodIn_of _ (by decide +kernel)) ggX7_sizeOf_X7_isQuestion
set_option maxRecDepth 20000 in
theorem ggX7_sizeOf_X7_holds : GoodIn wsX7_sizeOf wsX7_holds := goodIn_r _ [14, 15, 23, 24, 25, 26, 27, 28, 29, 30, 31, 32, 33, 34, 35, 36, 37] (by decide +kernel) (by decide +kernel)
set_option maxRecDepth 20000 in
theorem gX7_sizeOf_X7_holds : GoodIn wsX7_sizeOf (wsV RX7 58 RX7 yX7_holds wsX7_holds) := goodIn_app (goodIn_of _ (by decide +kernel)) ggX7_sizeOf_X7_holds
set_option maxRecDepth 20000 in
theorem ggX7_sizeOf_X7_size : GoodIn wsX7_sizeOf wsX7_size := goodIn_r _ [19, 20, 21, 22, 23, 24, 25, 26, 27, 28, 29, 30, 31, 32, 33, 34, 35, 36, 37] (by decide +kernel) (by decide +kernel)
set_option maxRecDepth 20000 in
theorem gX7_sizeOf_X7_size : GoodIn wsX7_sizeOf (wsV RX7 93 RX7 yX7_size wsX7_size) := goodIn_app (goodIn_of _ (by decide +kernel)) ggX7_sizeOf_X7_size
theorem dX7_sizeOf_0 : decode cX7_sizeOf 0 = .ok (.aload_n 0, 1) := by decide +kernel
theorem dX7_sizeOf_1 : decode cX7_sizeOf 1 = .ok (.aload_n 0, 1) := by decide +kernel
theorem dX7_sizeOf_2 : decode cX7_sizeOf 2 = .ok (.iload_n 1, 1) := by decide +kernel
theorem dX7_sizeOf_3 : decode cX7_sizeOf 3 = .ok (.invokevirtual 62, 3) := by decide +kernel
theorem dX7_sizeOf_6 : decode cX7_sizeOf 6 = .ok (.ifCond .eq 7, 3) := by decide +kernel
theorem dX7_sizeOf_9 : decode cX7_sizeOf 9 = .ok (.iconst 0, 1) := by decide +kernel
theorem dX7_sizeOf_10 : decode cX7_sizeOf 10 = .ok (.goto 4, 3) := by decide +kernel
theorem dX7_sizeOf_13 : decode cX7_sizeOf 13 = .ok (.iconst 1, 1) := by decide +kernel
theorem dX7_sizeOf_14 : decode cX7_sizeOf 14 = .ok (.invokevirtual 58, 3) := by decide +kernel
theorem dX7_sizeOf_17 : decode cX7_sizeOf 17 = .ok (.ifCond .eq 11, 3) := by decide +kernel
theorem dX7_sizeOf_20 : decode cX7_sizeOf 20 = .ok (.aload_n 0, 1) := by decide +kernel
theorem dX7_sizeOf_21 : decode cX7_sizeOf 21 = .ok (.iload_n 1, 1) := by decide +kernel
theorem dX7_sizeOf_22 : decode cX7_sizeOf 22 = .ok (.invokevirtual 93, 3) := by decide +kernel
theorem dX7_sizeOf_25 : decode cX7_sizeOf 25 = .ok (.goto 4, 3) := by decide +kernel
theorem dX7_sizeOf_28 : decode cX7_sizeOf 28 = .ok (.iconst 0, 1) := by decide +kernel
theorem dX7_sizeOf_29 : decode cX7_sizeOf 29 = .ok (.ireturn, 1) := by decide +kernel
set_option maxRecDepth 20000 in
theorem ggX7_withSize_X7_isQuestion : GoodIn wsX7_withSize wsX7_isQuestion := goodIn_r _ [7, 2, 8, 9, 10, 6, 11, 19, 20, 21, 22, 23, 24, 25, 26, 27, 28, 29, 30, 31, 32, 33] (by decide +kernel) (by decide +kernel)
set_option maxRecDepth 20000 in
theorem gX7_withSize_X7_isQuestion : GoodIn wsX7_withSize (wsV RX7 62 RX7 yX7_isQuestion wsX7_isQuestion) := goodIn_app (goodIn_of _ (by decide +kernel)) ggX7_withSize_X7_isQuestion
set_option maxRecDepth 20000 in
theorem ggX7_withSize_X7_size : GoodIn wsX7_withSize wsX7_size := goodIn_r _ [15, 16, 17, 18, 19, 20, 21, 22, 23, 24, 25, 26, 27, 28, 29, 30, 31, 32, 33] (by decide +kernel) (by decide +kernel)
set_option maxRecDepth 20000 in
theorem gX7_withSize_X7_size : GoodIn wsX7_withSize (wsV RX7 93 RX7 yX7_size wsX7_size) := goodIn_app (goodIn_of _ (by decide +kernel)) ggX7_withSize_X7_size
theorem dX7_withSize_0 : decode cX7_withSize 0 = .ok (.aload_n 0, 1) := by decide +kernel
theorem dX7_withSize_1 : decode cX7_withSize 1 = .ok (.iconst 0, 1) := by decide +kernel
theorem dX7_withSize_2 : decode cX7_withSize 2 = .ok (.putfield 47, 3) := by decide +kernel
theorem dX7_withSize_5 : decode cX7_withSize 5 = .ok (.iconst 0, 1) := by decide +kernel
theorem dX7_withSize_6 : decode cX7_withSize 6 = .ok (.istore_n 2, 1) := by decide +kernel
theorem dX7_withSize_7 : decode cX7_withSize 7 = .ok (.iconst 0, 1) := by decide +kernel
theorem dX7_withSize_8 : decode cX7_withSize 8 = .ok (.istore_n 3, 1) := by decide +kernel
theorem dX7_withSize_9 : decode cX7_withSize 9 = .ok (.iload_n 3, 1) := by decide +kernel
theorem dX7_withSize_10 : decode cX7_withSize 10 = .ok (.aload_n 0, 1) := by decide +kernel
theorem dX7_withSize_11 : decode cX7_withSize 11 = .ok (.getfield 51, 3) := by decide +kernel
theorem dX7_withSize_14 : decode cX7_withSize 14 = .ok (.if_icmp .ge 34, 3) := by decide +kernel
theorem dX7_withSize_17 : decode cX7_withSize 17 = .ok (.iload_n 2, 1) := by decide +kernel
theorem dX7_withSize_18 : decode cX7_withSize 18 = .ok (.aload_n 0, 1) := by decide +kernel
theorem dX7_withSize_19 : decode cX7_withSize 19 = .ok (.iload_n 3, 1) := by decide +kernel
theorem dX7_withSize_20 : decode cX7_withSize 20 = .ok (.invokevirtual 62, 3) := by decide +kernel
theorem dX7_withSize_23 : decode cX7_withSize 23 = .ok (.ifCond .eq 16, 3) := by decide +kernel
theorem dX7_withSize_26 : decode cX7_withSize 26 = .ok (.aload_n 0, 1) := by decide +kernel
theorem dX7_withSize_27 : decode cX7_withSize 27 = .ok (.iload_n 3, 1) := by decide +kernel
theorem dX7_withSize_28 : decode cX7_withSize 28 = .ok (.invokevirtual 93, 3) := by decide +kernel
theorem dX7_withSize_31 : decode cX7_withSize 31 = .ok (.iload_n 1, 1) := by decide +kernel
theorem dX7_withSize_32 : decode cX7_withSize 32 = .ok (.if_icmp .ne 7, 3) := by decide +kernel
theorem dX7_withSize_35 : decode cX7_withSize 35 = .ok (.iconst 1, 1) := by decide +kernel
theorem dX7_withSize_36 : decode cX7_withSize 36 = .ok (.goto 4, 3) := by decide +kernel
theorem dX7_withSize_39 : decode cX7_withSize 39 = .ok (.iconst 0, 1) := by decide +kernel
theorem dX7_withSize_40 : decode cX7_withSize 40 = .ok (.iadd, 1) := by decide +kernel
theorem dX7_withSize_41 : decode cX7_withSize 41 = .ok (.istore_n 2, 1) := by decide +kernel
theorem dX7_withSize_42 : decode cX7_withSize 42 = .ok (.iinc 3 1, 3) := by decide +kernel
theorem dX7_withSize_45 : decode cX7_withSize 45 = .ok (.goto (-36), 3) := by decide +kernel
theorem dX7_withSize_48 : decode cX7_withSize 48 = .ok (.iload_n 2, 1) := by decide +kernel
theorem dX7_withSize_49 : decode cX7_withSize 49 = .ok (.ireturn, 1) := by decide +kernel
theorem dX7_piece_0 : decode cX7_piece 0 = .ok (.iconst 1, 1) := by decide +kernel
theorem dX7_piece_1 : decode cX7_piece 1 = .ok (.istore_n 2, 1) := by decide +kernel
theorem dX7_piece_2 : decode cX7_piece 2 = .ok (.iconst 2, 1) := by decide +kernel
theorem dX7_piece_3 : decode cX7_piece 3 = .ok (.istore_n 3, 1) := by decide +kernel
theorem dX7_piece_4 : decode cX7_piece 4 = .ok (.iload_n 3, 1) := by decide +kernel
theorem dX7_piece_5 : decode cX7_piece 5 = .ok (.bipush 64, 2) := by decide +kernel
theorem dX7_piece_7 : decode cX7_piece 7 = .ok (.if_icmp .gt 31, 3) := by decide +kernel
theorem dX7_piece_10 : decode cX7_piece 10 = .ok (.iload_n 0, 1) := by decide +kernel
theorem dX7_piece_11 : decode cX7_piece 11 = .ok (.iload_n 3, 1) := by decide +kernel
theorem dX7_piece_12 : decode cX7_piece 12 = .ok (.irem, 1) := by decide +kernel
theorem dX7_piece_13 : decode cX7_piece 13 = .ok (.ifCond .ne 16, 3) := by decide +kernel
theorem dX7_piece_16 : decode cX7_piece 16 = .ok (.iload_n 0, 1) := by decide +kernel
theorem dX7_piece_17 : decode cX7_piece 17 = .ok (.iload_n 3, 1) := by decide +kernel
theorem dX7_piece_18 : decode cX7_piece 18 = .ok (.iadd, 1) := by decide +kernel
theorem dX7_piece_19 : decode cX7_piece 19 = .ok (.iconst 1, 1) := by decide +kernel
theorem dX7_piece_20 : decode cX7_piece 20 = .ok (.isub, 1) := by decide +kernel
theorem dX7_piece_21 : decode cX7_piece 21 = .ok (.iload_n 1, 1) := by decide +kernel
theorem dX7_piece_22 : decode cX7_piece 22 = .ok (.if_icmp .gt 7, 3) := by decide +kernel
theorem dX7_piece_25 : decode cX7_piece 25 = .ok (.iload_n 3, 1) := by decide +kernel
theorem dX7_piece_26 : decode cX7_piece 26 = .ok (.goto 4, 3) := by decide +kernel
theorem dX7_piece_29 : decode cX7_piece 29 = .ok (.iload_n 2, 1) := by decide +kernel
theorem dX7_piece_30 : decode cX7_piece 30 = .ok (.istore_n 2, 1) := by decide +kernel
theorem dX7_piece_31 : decode cX7_piece 31 = .ok (.iload_n 3, 1) := by decide +kernel
theorem dX7_piece_32 : decode cX7_piece 32 = .ok (.iload_n 3, 1) := by decide +kernel
theorem dX7_piece_33 : decode cX7_piece 33 = .ok (.iadd, 1) := by decide +kernel
theorem dX7_piece_34 : decode cX7_piece 34 = .ok (.istore_n 3, 1) := by decide +kernel
theorem dX7_piece_35 : decode cX7_piece 35 = .ok (.goto (-31), 3) := by decide +kernel
theorem dX7_piece_38 : decode cX7_piece 38 = .ok (.iload_n 2, 1) := by decide +kernel
theorem dX7_piece_39 : decode cX7_piece 39 = .ok (.ireturn, 1) := by decide +kernel
set_option maxRecDepth 20000 in
theorem ggX7_pieces_X7_isRange : GoodIn wsX7_pieces wsX7_isRange := goodIn_r _ [4, 5, 6, 3, 7] (by decide +kernel) (by decide +kernel)
set_option maxRecDepth 20000 in
theorem gX7_pieces_X7_isRange : GoodIn wsX7_pieces (va_wsS RX7 68 yX7_isRange wsX7_isRange) := goodIn_app (goodIn_of _ (by decide +kernel)) ggX7_pieces_X7_isRange
set_option maxRecDepth 20000 in
theorem ggX7_pieces_X7_holds : GoodIn wsX7_pieces wsX7_holds := goodIn_r _ [11, 12, 16, 17, 18, 19, 20, 21, 22, 23, 24, 25, 26, 27, 28, 29, 30] (by decide +kernel) (by decide +kernel)
set_option maxRecDepth 20000 in
theorem gX7_pieces_X7_holds : GoodIn wsX7_pieces (wsV RX7 58 RX7 yX7_holds wsX7_holds) := goodIn_app (goodIn_of _ (by decide +kernel)) ggX7_pieces_X7_holds
set_option maxRecDepth 20000 in
theorem ggX7_pieces_X7_piece : GoodIn wsX7_pieces wsX7_piece := goodIn_r _ [15] (by decide +kernel) (by decide +kernel)
set_option maxRecDepth 20000 in
theorem gX7_pieces_X7_piece : GoodIn wsX7_pieces (va_wsS RX7 97 yX7_piece wsX7_piece) := goodIn_app (goodIn_of _ (by decide +kernel)) ggX7_pieces_X7_piece
theorem dX7_pieces_0 : decode cX7_pieces 0 = .ok (.aload_n 0, 1) := by decide +kernel
theorem dX7_pieces_1 : decode cX7_pieces 1 = .ok (.iload_n 1, 1) := by decide +kernel
theorem dX7_pieces_2 : decode cX7_pieces 2 = .ok (.iload_n 2, 1) := by decide +kernel
theorem dX7_pieces_3 : decode cX7_pieces 3 = .ok (.invokestatic 68, 3) := by decide +kernel
theorem dX7_pieces_6 : decode cX7_pieces 6 = .ok (.ifCond .eq 7, 3) := by decide +kernel
theorem dX7_pieces_9 : decode cX7_pieces 9 = .ok (.iconst 0, 1) := by decide +kernel
theorem dX7_pieces_10 : decode cX7_pieces 10 = .ok (.goto 4, 3) := by decide +kernel
theorem dX7_pieces_13 : decode cX7_pieces 13 = .ok (.iconst 1, 1) := by decide +kernel
theorem dX7_pieces_14 : decode cX7_pieces 14 = .ok (.invokevirtual 58, 3) := by decide +kernel
theorem dX7_pieces_17 : decode cX7_pieces 17 = .ok (.ifCond .ne 5, 3) := by decide +kernel
theorem dX7_pieces_20 : decode cX7_pieces 20 = .ok (.iconst 0, 1) := by decide +kernel
theorem dX7_pieces_21 : decode cX7_pieces 21 = .ok (.ireturn, 1) := by decide +kernel
theorem dX7_pieces_22 : decode cX7_pieces 22 = .ok (.iconst 0, 1) := by decide +kernel
theorem dX7_pieces_23 : decode cX7_pieces 23 = .ok (.istore_n 3, 1) := by decide +kernel
theorem dX7_pieces_24 : decode cX7_pieces 24 = .ok (.iload_n 1, 1) := by decide +kernel
theorem dX7_pieces_25 : decode cX7_pieces 25 = .ok (.istore 4, 2) := by decide +kernel
theorem dX7_pieces_27 : decode cX7_pieces 27 = .ok (.iload 4, 2) := by decide +kernel
theorem dX7_pieces_29 : decode cX7_pieces 29 = .ok (.iload_n 2, 1) := by decide +kernel
theorem dX7_pieces_30 : decode cX7_pieces 30 = .ok (.if_icmp .gt 20, 3) := by decide +kernel
theorem dX7_pieces_33 : decode cX7_pieces 33 = .ok (.iinc 3 1, 3) := by decide +kernel
theorem dX7_pieces_36 : decode cX7_pieces 36 = .ok (.iload 4, 2) := by decide +kernel
theorem dX7_pieces_38 : decode cX7_pieces 38 = .ok (.iload 4, 2) := by decide +kernel
theorem dX7_pieces_40 : decode cX7_pieces 40 = .ok (.iload_n 2, 1) := by decide +kernel
theorem dX7_pieces_41 : decode cX7_pieces 41 = .ok (.invokestatic 97, 3) := by decide +kernel
theorem dX7_pieces_44 : decode cX7_pieces 44 = .ok (.iadd, 1) := by decide +kernel
theorem dX7_pieces_45 : decode cX7_pieces 45 = .ok (.istore 4, 2) := by decide +kernel
theorem dX7_pieces_47 : decode cX7_pieces 47 = .ok (.goto (-20), 3) := by decide +kernel
theorem dX7_pieces_50 : decode cX7_pieces 50 = .ok (.iload_n 3, 1) := by decide +kernel
theorem dX7_pieces_51 : decode cX7_pieces 51 = .ok (.ireturn, 1) := by decide +kernel
set_option maxRecDepth 20000 in
theorem ggX7_pieceAt_X7_isRange : GoodIn wsX7_pieceAt wsX7_isRange := goodIn_r _ [4, 5, 6, 3, 7] (by decide +kernel) (by decide +kernel)
set_option maxRecDepth 20000 in
theorem gX7_pieceAt_X7_isRange : GoodIn wsX7_pieceAt (va_wsS RX7 68 yX7_isRange wsX7_isRange) := goodIn_app (goodIn_of _ (by decide +kernel)) ggX7_pieceAt_X7_isRange
set_option maxRecDepth 20000 in
theorem ggX7_pieceAt_X7_holds : GoodIn wsX7_pieceAt wsX7_holds := goodIn_r _ [11, 12, 16, 17, 18, 19, 20, 21, 22, 23, 24, 25, 26, 27, 28, 29, 30] (by decide +kernel) (by decide +kernel)
set_option maxRecDepth 20000 in
theorem gX7_pieceAt_X7_holds : GoodIn wsX7_pieceAt (wsV RX7 58 RX7 yX7_holds wsX7_holds) := goodIn_app (goodIn_of _ (by decide +kernel)) ggX7_pieceAt_X7_holds
set_option maxRecDepth 20000 in
theorem ggX7_pieceAt_X7_piece : GoodIn wsX7_pieceAt wsX7_piece := goodIn_r _ [15] (by decide +kernel) (by decide +kernel)
set_option maxRecDepth 20000 in
theorem gX7_pieceAt_X7_piece : GoodIn wsX7_pieceAt (va_wsS RX7 97 yX7_piece wsX7_piece) := goodIn_app (goodIn_of _ (by decide +kernel)) ggX7_pieceAt_X7_piece
theorem dX7_pieceAt_0 : decode cX7_pieceAt 0 = .ok (.aload_n 0, 1) := by decide +kernel
theorem dX7_pieceAt_1 : decode cX7_pieceAt 1 = .ok (.iload_n 3, 1) := by decide +kernel
theorem dX7_pieceAt_2 : decode cX7_pieceAt 2 = .ok (.ifCond .ge 7, 3) := by decide +kernel
theorem dX7_pieceAt_5 : decode cX7_pieceAt 5 = .ok (.iconst 1, 1) := by decide +kernel
theorem dX7_pieceAt_6 : decode cX7_pieceAt 6 = .ok (.goto 16, 3) := by decide +kernel
theorem dX7_pieceAt_9 : decode cX7_pieceAt 9 = .ok (.iload_n 1, 1) := by decide +kernel
theorem dX7_pieceAt_10 : decode cX7_pieceAt 10 = .ok (.iload_n 2, 1) := by decide +kernel
theorem dX7_pieceAt_11 : decode cX7_pieceAt 11 = .ok (.invokestatic 68, 3) := by decide +kernel
theorem dX7_pieceAt_14 : decode cX7_pieceAt 14 = .ok (.ifCond .eq 7, 3) := by decide +kernel
theorem dX7_pieceAt_17 : decode cX7_pieceAt 17 = .ok (.iconst 0, 1) := by decide +kernel
theorem dX7_pieceAt_18 : decode cX7_pieceAt 18 = .ok (.goto 4, 3) := by decide +kernel
theorem dX7_pieceAt_21 : decode cX7_pieceAt 21 = .ok (.iconst 2, 1) := by decide +kernel
theorem dX7_pieceAt_22 : decode cX7_pieceAt 22 = .ok (.invokevirtual 58, 3) := by decide +kernel
theorem dX7_pieceAt_25 : decode cX7_pieceAt 25 = .ok (.ifCond .ne 5, 3) := by decide +kernel
theorem dX7_pieceAt_28 : decode cX7_pieceAt 28 = .ok (.iconst 0, 1) := by decide +kernel
theorem dX7_pieceAt_29 : decode cX7_pieceAt 29 = .ok (.ireturn, 1) := by decide +kernel
theorem dX7_pieceAt_30 : decode cX7_pieceAt 30 = .ok (.iconst 0, 1) := by decide +kernel
theorem dX7_pieceAt_31 : decode cX7_pieceAt 31 = .ok (.istore 4, 2) := by decide +kernel
theorem dX7_pieceAt_33 : decode cX7_pieceAt 33 = .ok (.iload_n 1, 1) := by decide +kernel
theorem dX7_pieceAt_34 : decode cX7_pieceAt 34 = .ok (.istore 5, 2) := by decide +kernel
theorem dX7_pieceAt_36 : decode cX7_pieceAt 36 = .ok (.iload 5, 2) := by decide +kernel
theorem dX7_pieceAt_38 : decode cX7_pieceAt 38 = .ok (.iload_n 2, 1) := by decide +kernel
theorem dX7_pieceAt_39 : decode cX7_pieceAt 39 = .ok (.if_icmp .gt 39, 3) := by decide +kernel
theorem dX7_pieceAt_42 : decode cX7_pieceAt 42 = .ok (.iload 4, 2) := by decide +kernel
theorem dX7_pieceAt_44 : decode cX7_pieceAt 44 = .ok (.iload_n 3, 1) := by decide +kernel
theorem dX7_pieceAt_45 : decode cX7_pieceAt 45 = .ok (.if_icmp .ne 16, 3) := by decide +kernel
theorem dX7_pieceAt_48 : decode cX7_pieceAt 48 = .ok (.bipush 100, 2) := by decide +kernel
theorem dX7_pieceAt_50 : decode cX7_pieceAt 50 = .ok (.iload 5, 2) := by decide +kernel
theorem dX7_pieceAt_52 : decode cX7_pieceAt 52 = .ok (.imul, 1) := by decide +kernel
theorem dX7_pieceAt_53 : decode cX7_pieceAt 53 = .ok (.iload 5, 2) := by decide +kernel
theorem dX7_pieceAt_55 : decode cX7_pieceAt 55 = .ok (.iload_n 2, 1) := by decide +kernel
theorem dX7_pieceAt_56 : decode cX7_pieceAt 56 = .ok (.invokestatic 97, 3) := by decide +kernel
theorem dX7_pieceAt_59 : decode cX7_pieceAt 59 = .ok (.iadd, 1) := by decide +kernel
theorem dX7_pieceAt_60 : decode cX7_pieceAt 60 = .ok (.ireturn, 1) := by decide +kernel
theorem dX7_pieceAt_61 : decode cX7_pieceAt 61 = .ok (.iinc 4 1, 3) := by decide +kernel
theorem dX7_pieceAt_64 : decode cX7_pieceAt 64 = .ok (.iload 5, 2) := by decide +kernel
theorem dX7_pieceAt_66 : decode cX7_pieceAt 66 = .ok (.iload 5, 2) := by decide +kernel
theorem dX7_pieceAt_68 : decode cX7_pieceAt 68 = .ok (.iload_n 2, 1) := by decide +kernel
theorem dX7_pieceAt_69 : decode cX7_pieceAt 69 = .ok (.invokestatic 97, 3) := by decide +kernel
theorem dX7_pieceAt_72 : decode cX7_pieceAt 72 = .ok (.iadd, 1) := by decide +kernel
theorem dX7_pieceAt_73 : decode cX7_pieceAt 73 = .ok (.istore 5, 2) := by decide +kernel
theorem dX7_pieceAt_75 : decode cX7_pieceAt 75 = .ok (.goto (-39), 3) := by decide +kernel
theorem dX7_pieceAt_78 : decode cX7_pieceAt 78 = .ok (.iconst (-1), 1) := by decide +kernel
theorem dX7_pieceAt_79 : decode cX7_pieceAt 79 = .ok (.ireturn, 1) := by decide +kernel
theorem dX7_minute_0 : decode cX7_minute 0 = .ok (.aload_n 0, 1) := by decide +kernel
theorem dX7_minute_1 : decode cX7_minute 1 = .ok (.iconst 0, 1) := by decide +kernel
theorem dX7_minute_2 : decode cX7_minute 2 = .ok (.putfield 47, 3) := by decide +kernel
theorem dX7_minute_5 : decode cX7_minute 5 = .ok (.aload_n 0, 1) := by decide +kernel
theorem dX7_minute_6 : decode cX7_minute 6 = .ok (.getfield 75, 3) := by decide +kernel
theorem dX7_minute_9 : decode cX7_minute 9 = .ok (.ireturn, 1) := by decide +kernel
set_option maxRecDepth 20000 in
theorem ggX7_isQuiet_X7_isQuestion : GoodIn wsX7_isQuiet wsX7_isQuestion := goodIn_r _ [5, 6, 7, 8, 9, 4, 10, 22, 23, 24, 25, 26, 27, 28, 29, 30, 31, 32, 33, 34, 35, 36] (by decide +kernel) (by decide +kernel)
set_option maxRecDepth 20000 in
theorem gX7_isQuiet_X7_isQuestion : GoodIn wsX7_isQuiet (wsV RX7 62 RX7 yX7_isQuestion wsX7_isQuestion) := goodIn_app (goodIn_of _ (by decide +kernel)) ggX7_isQuiet_X7_isQuestion
set_option maxRecDepth 20000 in
theorem ggX7_isQuiet_X7_holds : GoodIn wsX7_isQuiet wsX7_holds := goodIn_r _ [14, 15, 22, 23, 24, 25, 26, 27, 28, 29, 30, 31, 32, 33, 34, 35, 36] (by decide +kernel) (by decide +kernel)
set_option maxRecDepth 20000 in
theorem gX7_isQuiet_X7_holds : GoodIn wsX7_isQuiet (wsV RX7 58 RX7 yX7_holds wsX7_holds) := goodIn_app (goodIn_of _ (by decide +kernel)) ggX7_isQuiet_X7_holds
set_option maxRecDepth 20000 in
theorem ggX7_isQuiet_X7_quietNow : GoodIn wsX7_isQuiet wsX7_quietNow := goodIn_r _ [19, 20, 21, 22, 23, 24, 25, 26, 27, 28, 29, 30, 31, 32, 33, 34, 35, 36] (by decide +kernel) (by decide +kernel)
set_option maxRecDepth 20000 in
theorem gX7_isQuiet_X7_quietNow : GoodIn wsX7_isQuiet (wsV RX7 81 RX7 yX7_quietNow wsX7_quietNow) := goodIn_app (goodIn_of _ (by decide +kernel)) ggX7_isQuiet_X7_quietNow
theorem dX7_isQuiet_0 : decode cX7_isQuiet 0 = .ok (.aload_n 0, 1) := by decide +kernel
theorem dX7_isQuiet_1 : decode cX7_isQuiet 1 = .ok (.aload_n 0, 1) := by decide +kernel
theorem dX7_isQuiet_2 : decode cX7_isQuiet 2 = .ok (.iload_n 1, 1) := by decide +kernel
theorem dX7_isQuiet_3 : decode cX7_isQuiet 3 = .ok (.invokevirtual 62, 3) := by decide +kernel
theorem dX7_isQuiet_6 : decode cX7_isQuiet 6 = .ok (.ifCond .eq 7, 3) := by decide +kernel
theorem dX7_isQuiet_9 : decode cX7_isQuiet 9 = .ok (.iconst 0, 1) := by decide +kernel
theorem dX7_isQuiet_10 : decode cX7_isQuiet 10 = .ok (.goto 4, 3) := by decide +kernel
theorem dX7_isQuiet_13 : decode cX7_isQuiet 13 = .ok (.iconst 1, 1) := by decide +kernel
theorem dX7_isQuiet_14 : decode cX7_isQuiet 14 = .ok (.invokevirtual 58, 3) := by decide +kernel
theorem dX7_isQuiet_17 : decode cX7_isQuiet 17 = .ok (.ifCond .eq 15, 3) := by decide +kernel
theorem dX7_isQuiet_20 : decode cX7_isQuiet 20 = .ok (.aload_n 0, 1) := by decide +kernel
theorem dX7_isQuiet_21 : decode cX7_isQuiet 21 = .ok (.iload_n 1, 1) := by decide +kernel
theorem dX7_isQuiet_22 : decode cX7_isQuiet 22 = .ok (.invokevirtual 81, 3) := by decide +kernel
theorem dX7_isQuiet_25 : decode cX7_isQuiet 25 = .ok (.ifCond .eq 7, 3) := by decide +kernel
theorem dX7_isQuiet_28 : decode cX7_isQuiet 28 = .ok (.iconst 1, 1) := by decide +kernel
theorem dX7_isQuiet_29 : decode cX7_isQuiet 29 = .ok (.goto 4, 3) := by decide +kernel
theorem dX7_isQuiet_32 : decode cX7_isQuiet 32 = .ok (.iconst 0, 1) := by decide +kernel
theorem dX7_isQuiet_33 : decode cX7_isQuiet 33 = .ok (.ireturn, 1) := by decide +kernel
set_option maxRecDepth 20000 in
theorem ggX7_alerts_X7_isQuestion : GoodIn wsX7_alerts wsX7_isQuestion := goodIn_r _ [6, 7, 8, 9, 10, 5, 11, 17, 18, 19, 20, 21, 22, 23, 24, 25, 26, 27, 28, 29, 30, 31] (by decide +kernel) (by decide +kernel)
set_option maxRecDepth 20000 in
theorem gX7_alerts_X7_isQuestion : GoodIn wsX7_alerts (wsV RX7 62 RX7 yX7_isQuestion wsX7_isQuestion) := goodIn_app (goodIn_of _ (by decide +kernel)) ggX7_alerts_X7_isQuestion
set_option maxRecDepth 20000 in
theorem ggX7_alerts_X7_holds : GoodIn wsX7_alerts wsX7_holds := goodIn_r _ [15, 16, 17, 18, 19, 20, 21, 22, 23, 24, 25, 26, 27, 28, 29, 30, 31] (by decide +kernel) (by decide +kernel)
set_option maxRecDepth 20000 in
theorem gX7_alerts_X7_holds : GoodIn wsX7_alerts (wsV RX7 58 RX7 yX7_holds wsX7_holds) := goodIn_app (goodIn_of _ (by decide +kernel)) ggX7_alerts_X7_holds
theorem dX7_alerts_0 : decode cX7_alerts 0 = .ok (.aload_n 0, 1) := by decide +kernel
theorem dX7_alerts_1 : decode cX7_alerts 1 = .ok (.aload_n 0, 1) := by decide +kernel
theorem dX7_alerts_2 : decode cX7_alerts 2 = .ok (.iload_n 1, 1) := by decide +kernel
theorem dX7_alerts_3 : decode cX7_alerts 3 = .ok (.invokevirtual 62, 3) := by decide +kernel
theorem dX7_alerts_6 : decode cX7_alerts 6 = .ok (.ifCond .eq 7, 3) := by decide +kernel
theorem dX7_alerts_9 : decode cX7_alerts 9 = .ok (.iconst 0, 1) := by decide +kernel
theorem dX7_alerts_10 : decode cX7_alerts 10 = .ok (.goto 4, 3) := by decide +kernel
theorem dX7_alerts_13 : decode cX7_alerts 13 = .ok (.iconst 1, 1) := by decide +kernel
theorem dX7_alerts_14 : decode cX7_alerts 14 = .ok (.invokevirtual 58, 3) := by decide +kernel
theorem dX7_alerts_17 : decode cX7_alerts 17 = .ok (.ifCond .eq 12, 3) := by decide +kernel
theorem dX7_alerts_20 : decode cX7_alerts 20 = .ok (.aload_n 0, 1) := by decide +kernel
theorem dX7_alerts_21 : decode cX7_alerts 21 = .ok (.getfield 26, 3) := by decide +kernel
theorem dX7_alerts_24 : decode cX7_alerts 24 = .ok (.iload_n 1, 1) := by decide +kernel
theorem dX7_alerts_25 : decode cX7_alerts 25 = .ok (.iaload, 1) := by decide +kernel
theorem dX7_alerts_26 : decode cX7_alerts 26 = .ok (.goto 4, 3) := by decide +kernel
theorem dX7_alerts_29 : decode cX7_alerts 29 = .ok (.iconst 0, 1) := by decide +kernel
theorem dX7_alerts_30 : decode cX7_alerts 30 = .ok (.ireturn, 1) := by decide +kernel
set_option maxRecDepth 20000 in
theorem ggX7_batch_X7_isQuestion : GoodIn wsX7_batch wsX7_isQuestion := goodIn_r _ [6, 7, 8, 9, 10, 5, 11, 17, 18, 19, 20, 21, 22, 23, 24, 25, 26, 27, 28, 29, 30, 31] (by decide +kernel) (by decide +kernel)
set_option maxRecDepth 20000 in
theorem gX7_batch_X7_isQuestion : GoodIn wsX7_batch (wsV RX7 62 RX7 yX7_isQuestion wsX7_isQuestion) := goodIn_app (goodIn_of _ (by decide +kernel)) ggX7_batch_X7_isQuestion
set_option maxRecDepth 20000 in
theorem ggX7_batch_X7_holds : GoodIn wsX7_batch wsX7_holds := goodIn_r _ [15, 16, 17, 18, 19, 20, 21, 22, 23, 24, 25, 26, 27, 28, 29, 30, 31] (by decide +kernel) (by decide +kernel)
set_option maxRecDepth 20000 in
theorem gX7_batch_X7_holds : GoodIn wsX7_batch (wsV RX7 58 RX7 yX7_holds wsX7_holds) := goodIn_app (goodIn_of _ (by decide +kernel)) ggX7_batch_X7_holds
theorem dX7_batch_0 : decode cX7_batch 0 = .ok (.aload_n 0, 1) := by decide +kernel
theorem dX7_batch_1 : decode cX7_batch 1 = .ok (.aload_n 0, 1) := by decide +kernel
theorem dX7_batch_2 : decode cX7_batch 2 = .ok (.iload_n 1, 1) := by decide +kernel
theorem dX7_batch_3 : decode cX7_batch 3 = .ok (.invokevirtual 62, 3) := by decide +kernel
theorem dX7_batch_6 : decode cX7_batch 6 = .ok (.ifCond .eq 7, 3) := by decide +kernel
theorem dX7_batch_9 : decode cX7_batch 9 = .ok (.iconst 0, 1) := by decide +kernel
theorem dX7_batch_10 : decode cX7_batch 10 = .ok (.goto 4, 3) := by decide +kernel
theorem dX7_batch_13 : decode cX7_batch 13 = .ok (.iconst 1, 1) := by decide +kernel
theorem dX7_batch_14 : decode cX7_batch 14 = .ok (.invokevirtual 58, 3) := by decide +kernel
theorem dX7_batch_17 : decode cX7_batch 17 = .ok (.ifCond .eq 12, 3) := by decide +kernel
theorem dX7_batch_20 : decode cX7_batch 20 = .ok (.aload_n 0, 1) := by decide +kernel
theorem dX7_batch_21 : decode cX7_batch 21 = .ok (.getfield 29, 3) := by decide +kernel
theorem dX7_batch_24 : decode cX7_batch 24 = .ok (.iload_n 1, 1) := by decide +kernel
theorem dX7_batch_25 : decode cX7_batch 25 = .ok (.iaload, 1) := by decide +kernel
theorem dX7_batch_26 : decode cX7_batch 26 = .ok (.goto 4, 3) := by decide +kernel
theorem dX7_batch_29 : decode cX7_batch 29 = .ok (.iconst 0, 1) := by decide +kernel
theorem dX7_batch_30 : decode cX7_batch 30 = .ok (.ireturn, 1) := by decide +kernel
