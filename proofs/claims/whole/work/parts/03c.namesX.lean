theorem dX0_init_0 : decode cX0_init 0 = .ok (.aload_n 0, 1) := by decide +kernel
theorem dX0_init_1 : decode cX0_init 1 = .ok (.invokespecial 3, 3) := by decide +kernel
theorem dX0_init_4 : decode cX0_init 4 = .ok (.aload_n 0, 1) := by decide +kernel
theorem dX0_init_5 : decode cX0_init 5 = .ok (.bipush 6, 2) := by decide +kernel
theorem dX0_init_7 : decode cX0_init 7 = .ok (.newarray .int, 2) := by decide +kernel
theorem dX0_init_9 : decode cX0_init 9 = .ok (.putfield 9, 3) := by decide +kernel
theorem dX0_init_12 : decode cX0_init 12 = .ok (.aload_n 0, 1) := by decide +kernel
theorem dX0_init_13 : decode cX0_init 13 = .ok (.getfield 9, 3) := by decide +kernel
theorem dX0_init_16 : decode cX0_init 16 = .ok (.iconst (-1), 1) := by decide +kernel
theorem dX0_init_17 : decode cX0_init 17 = .ok (.invokestatic 15, 3) := by decide +kernel
theorem dX0_init_20 : decode cX0_init 20 = .ok (.return_, 1) := by decide +kernel
theorem dX0_valueOf_0 : decode cX0_valueOf 0 = .ok (.iload_n 1, 1) := by decide +kernel
theorem dX0_valueOf_1 : decode cX0_valueOf 1 = .ok (.ifCond .lt 21, 3) := by decide +kernel
theorem dX0_valueOf_4 : decode cX0_valueOf 4 = .ok (.iload_n 1, 1) := by decide +kernel
theorem dX0_valueOf_5 : decode cX0_valueOf 5 = .ok (.aload_n 0, 1) := by decide +kernel
theorem dX0_valueOf_6 : decode cX0_valueOf 6 = .ok (.getfield 9, 3) := by decide +kernel
theorem dX0_valueOf_9 : decode cX0_valueOf 9 = .ok (.arraylength, 1) := by decide +kernel
theorem dX0_valueOf_10 : decode cX0_valueOf 10 = .ok (.if_icmp .ge 12, 3) := by decide +kernel
theorem dX0_valueOf_13 : decode cX0_valueOf 13 = .ok (.aload_n 0, 1) := by decide +kernel
theorem dX0_valueOf_14 : decode cX0_valueOf 14 = .ok (.getfield 9, 3) := by decide +kernel
theorem dX0_valueOf_17 : decode cX0_valueOf 17 = .ok (.iload_n 1, 1) := by decide +kernel
theorem dX0_valueOf_18 : decode cX0_valueOf 18 = .ok (.iaload, 1) := by decide +kernel
theorem dX0_valueOf_19 : decode cX0_valueOf 19 = .ok (.goto 4, 3) := by decide +kernel
theorem dX0_valueOf_22 : decode cX0_valueOf 22 = .ok (.iconst (-1), 1) := by decide +kernel
theorem dX0_valueOf_23 : decode cX0_valueOf 23 = .ok (.ireturn, 1) := by decide +kernel
set_option maxRecDepth 20000 in
theorem ggX0_replace_X0_valueOf : GoodIn wsX0_replace wsX0_valueOf := goodIn_r _ [6, 1, 7] (by decide +kernel) (by decide +kernel)
set_option maxRecDepth 20000 in
theorem gX0_replace_X0_valueOf : GoodIn wsX0_replace (wsV RX0 21 RX0 yX0_valueOf wsX0_valueOf) := goodIn_app (goodIn_of _ (by decide +kernel)) ggX0_replace_X0_valueOf
theorem dX0_replace_0 : decode cX0_replace 0 = .ok (.aload_n 0, 1) := by decide +kernel
theorem dX0_replace_1 : decode cX0_replace 1 = .ok (.iload_n 1, 1) := by decide +kernel
theorem dX0_replace_2 : decode cX0_replace 2 = .ok (.invokevirtual 21, 3) := by decide +kernel
theorem dX0_replace_5 : decode cX0_replace 5 = .ok (.istore_n 3, 1) := by decide +kernel
theorem dX0_replace_6 : decode cX0_replace 6 = .ok (.iload_n 1, 1) := by decide +kernel
theorem dX0_replace_7 : decode cX0_replace 7 = .ok (.ifCond .lt 19, 3) := by decide +kernel
theorem dX0_replace_10 : decode cX0_replace 10 = .ok (.iload_n 1, 1) := by decide +kernel
theorem dX0_replace_11 : decode cX0_replace 11 = .ok (.aload_n 0, 1) := by decide +kernel
theorem dX0_replace_12 : decode cX0_replace 12 = .ok (.getfield 9, 3) := by decide +kernel
theorem dX0_replace_15 : decode cX0_replace 15 = .ok (.arraylength, 1) := by decide +kernel
theorem dX0_replace_16 : decode cX0_replace 16 = .ok (.if_icmp .ge 10, 3) := by decide +kernel
theorem dX0_replace_19 : decode cX0_replace 19 = .ok (.aload_n 0, 1) := by decide +kernel
theorem dX0_replace_20 : decode cX0_replace 20 = .ok (.getfield 9, 3) := by decide +kernel
theorem dX0_replace_23 : decode cX0_replace 23 = .ok (.iload_n 1, 1) := by decide +kernel
theorem dX0_replace_24 : decode cX0_replace 24 = .ok (.iload_n 2, 1) := by decide +kernel
theorem dX0_replace_25 : decode cX0_replace 25 = .ok (.iastore, 1) := by decide +kernel
theorem dX0_replace_26 : decode cX0_replace 26 = .ok (.iload_n 3, 1) := by decide +kernel
theorem dX0_replace_27 : decode cX0_replace 27 = .ok (.ireturn, 1) := by decide +kernel
theorem dX1_init_0 : decode cX1_init 0 = .ok (.aload_n 0, 1) := by decide +kernel
theorem dX1_init_1 : decode cX1_init 1 = .ok (.invokespecial 3, 3) := by decide +kernel
theorem dX1_init_4 : decode cX1_init 4 = .ok (.aload_n 0, 1) := by decide +kernel
theorem dX1_init_5 : decode cX1_init 5 = .ok (.sipush 768, 3) := by decide +kernel
theorem dX1_init_8 : decode cX1_init 8 = .ok (.anewarray 11, 3) := by decide +kernel
theorem dX1_init_11 : decode cX1_init 11 = .ok (.putfield 13, 3) := by decide +kernel
theorem dX1_init_14 : decode cX1_init 14 = .ok (.return_, 1) := by decide +kernel
set_option maxRecDepth 20000 in
theorem ggX1_enter_X6_levelOfPiece : GoodIn wsX1_enter wsX6_levelOfPiece := goodIn_r _ [3] (by decide +kernel) (by decide +kernel)
set_option maxRecDepth 20000 in
theorem gX1_enter_X6_levelOfPiece_n17 : GoodIn wsX1_enter (wsX6_levelOfPiece) := ggX1_enter_X6_levelOfPiece
set_option maxRecDepth 20000 in
theorem ggX1_enter_X1_post : GoodIn wsX1_enter wsX1_post := goodIn_r _ [8, 9, 10, 11, 12, 13, 14, 15, 16, 17, 18, 19, 20, 21, 22, 23] (by decide +kernel) (by decide +kernel)
set_option maxRecDepth 20000 in
theorem gX1_enter_X1_post : GoodIn wsX1_enter (wsV RX1 21 RX1 yX1_post wsX1_post) := goodIn_app (goodIn_of _ (by decide +kernel)) ggX1_enter_X1_post
theorem dX1_enter_0 : decode cX1_enter 0 = .ok (.iload_n 3, 1) := by decide +kernel
theorem dX1_enter_1 : decode cX1_enter 1 = .ok (.istore 5, 2) := by decide +kernel
theorem dX1_enter_3 : decode cX1_enter 3 = .ok (.iconst 0, 1) := by decide +kernel
theorem dX1_enter_4 : decode cX1_enter 4 = .ok (.istore 6, 2) := by decide +kernel
theorem dX1_enter_6 : decode cX1_enter 6 = .ok (.iload 6, 2) := by decide +kernel
theorem dX1_enter_8 : decode cX1_enter 8 = .ok (.bipush 64, 2) := by decide +kernel
theorem dX1_enter_10 : decode cX1_enter 10 = .ok (.if_icmp .ge 53, 3) := by decide +kernel
theorem dX1_enter_13 : decode cX1_enter 13 = .ok (.iload 5, 2) := by decide +kernel
theorem dX1_enter_15 : decode cX1_enter 15 = .ok (.iload 4, 2) := by decide +kernel
theorem dX1_enter_17 : decode cX1_enter 17 = .ok (.if_icmp .gt 46, 3) := by decide +kernel
theorem dX1_enter_20 : decode cX1_enter 20 = .ok (.iload 5, 2) := by decide +kernel
theorem dX1_enter_22 : decode cX1_enter 22 = .ok (.iload 4, 2) := by decide +kernel
theorem dX1_enter_24 : decode cX1_enter 24 = .ok (.invokestatic 17, 3) := by decide +kernel
theorem dX1_enter_27 : decode cX1_enter 27 = .ok (.istore 7, 2) := by decide +kernel
theorem dX1_enter_29 : decode cX1_enter 29 = .ok (.aload_n 0, 1) := by decide +kernel
theorem dX1_enter_30 : decode cX1_enter 30 = .ok (.aload_n 1, 1) := by decide +kernel
theorem dX1_enter_31 : decode cX1_enter 31 = .ok (.iload_n 2, 1) := by decide +kernel
theorem dX1_enter_32 : decode cX1_enter 32 = .ok (.sipush 128, 3) := by decide +kernel
theorem dX1_enter_35 : decode cX1_enter 35 = .ok (.imul, 1) := by decide +kernel
theorem dX1_enter_36 : decode cX1_enter 36 = .ok (.bipush 64, 2) := by decide +kernel
theorem dX1_enter_38 : decode cX1_enter 38 = .ok (.iload 5, 2) := by decide +kernel
theorem dX1_enter_40 : decode cX1_enter 40 = .ok (.iadd, 1) := by decide +kernel
theorem dX1_enter_41 : decode cX1_enter 41 = .ok (.iload 7, 2) := by decide +kernel
theorem dX1_enter_43 : decode cX1_enter 43 = .ok (.ishr, 1) := by decide +kernel
theorem dX1_enter_44 : decode cX1_enter 44 = .ok (.iadd, 1) := by decide +kernel
theorem dX1_enter_45 : decode cX1_enter 45 = .ok (.invokevirtual 21, 3) := by decide +kernel
theorem dX1_enter_48 : decode cX1_enter 48 = .ok (.iload 5, 2) := by decide +kernel
theorem dX1_enter_50 : decode cX1_enter 50 = .ok (.iconst 1, 1) := by decide +kernel
theorem dX1_enter_51 : decode cX1_enter 51 = .ok (.iload 7, 2) := by decide +kernel
theorem dX1_enter_53 : decode cX1_enter 53 = .ok (.ishl, 1) := by decide +kernel
theorem dX1_enter_54 : decode cX1_enter 54 = .ok (.iadd, 1) := by decide +kernel
theorem dX1_enter_55 : decode cX1_enter 55 = .ok (.istore 5, 2) := by decide +kernel
theorem dX1_enter_57 : decode cX1_enter 57 = .ok (.iinc 6 1, 3) := by decide +kernel
theorem dX1_enter_60 : decode cX1_enter 60 = .ok (.goto (-54), 3) := by decide +kernel
theorem dX1_enter_63 : decode cX1_enter 63 = .ok (.return_, 1) := by decide +kernel
set_option maxRecDepth 20000 in
theorem ggX1_post_X2_init : GoodIn wsX1_post wsX2_init := goodIn_r _ [7, 8, 9, 10, 11, 12, 14, 15] (by decide +kernel) (by decide +kernel)
set_option maxRecDepth 20000 in
theorem gX1_post_X2_init : GoodIn wsX1_post (wsX2_init) := ggX1_post_X2_init
theorem dX1_post_0 : decode cX1_post 0 = .ok (.iload_n 2, 1) := by decide +kernel
theorem dX1_post_1 : decode cX1_post 1 = .ok (.ifCond .lt 32, 3) := by decide +kernel
theorem dX1_post_4 : decode cX1_post 4 = .ok (.iload_n 2, 1) := by decide +kernel
theorem dX1_post_5 : decode cX1_post 5 = .ok (.aload_n 0, 1) := by decide +kernel
theorem dX1_post_6 : decode cX1_post 6 = .ok (.getfield 13, 3) := by decide +kernel
theorem dX1_post_9 : decode cX1_post 9 = .ok (.arraylength, 1) := by decide +kernel
theorem dX1_post_10 : decode cX1_post 10 = .ok (.if_icmp .ge 23, 3) := by decide +kernel
theorem dX1_post_13 : decode cX1_post 13 = .ok (.aload_n 0, 1) := by decide +kernel
theorem dX1_post_14 : decode cX1_post 14 = .ok (.getfield 13, 3) := by decide +kernel
theorem dX1_post_17 : decode cX1_post 17 = .ok (.iload_n 2, 1) := by decide +kernel
theorem dX1_post_18 : decode cX1_post 18 = .ok (.new 11, 3) := by decide +kernel
theorem dX1_post_21 : decode cX1_post 21 = .ok (.dup, 1) := by decide +kernel
theorem dX1_post_22 : decode cX1_post 22 = .ok (.aload_n 1, 1) := by decide +kernel
theorem dX1_post_23 : decode cX1_post 23 = .ok (.aload_n 0, 1) := by decide +kernel
theorem dX1_post_24 : decode cX1_post 24 = .ok (.getfield 13, 3) := by decide +kernel
theorem dX1_post_27 : decode cX1_post 27 = .ok (.iload_n 2, 1) := by decide +kernel
theorem dX1_post_28 : decode cX1_post 28 = .ok (.aaload, 1) := by decide +kernel
theorem dX1_post_29 : decode cX1_post 29 = .ok (.invokespecial 25, 3) := by decide +kernel
theorem dX1_post_32 : decode cX1_post 32 = .ok (.aastore, 1) := by decide +kernel
theorem dX1_post_33 : decode cX1_post 33 = .ok (.return_, 1) := by decide +kernel
set_option maxRecDepth 20000 in
theorem ggX1_countHits_X0_valueOf : GoodIn wsX1_countHits wsX0_valueOf := goodIn_r _ [5, 6, 23] (by decide +kernel) (by decide +kernel)
set_option maxRecDepth 20000 in
theorem gX1_countHits_X0_valueOf : GoodIn wsX1_countHits (wsV RX1 28 RX0 yX0_valueOf wsX0_valueOf) := goodIn_app (goodIn_of _ (by decide +kernel)) ggX1_countHits_X0_valueOf
set_option maxRecDepth 20000 in
theorem ggX1_countHits_X6_isValue : GoodIn wsX1_countHits wsX6_isValue := goodIn_r _ [9] (by decide +kernel) (by decide +kernel)
set_option maxRecDepth 20000 in
theorem gX1_countHits_X6_isValue_n34 : GoodIn wsX1_countHits (wsX6_isValue) := ggX1_countHits_X6_isValue
set_option maxRecDepth 20000 in
theorem ggX1_countHits_X1_hitAbove : GoodIn wsX1_countHits wsX1_hitAbove := goodIn_r _ [14, 15, 16, 17, 18, 19, 20, 13, 21, 22, 24, 25, 26, 27, 28, 29] (by decide +kernel) (by decide +kernel)
set_option maxRecDepth 20000 in
theorem gX1_countHits_X1_hitAbove : GoodIn wsX1_countHits (wsV RX1 38 RX1 yX1_hitAbove wsX1_hitAbove) := goodIn_app (goodIn_of _ (by decide +kernel)) ggX1_countHits_X1_hitAbove
theorem dX1_countHits_0 : decode cX1_countHits 0 = .ok (.iconst 0, 1) := by decide +kernel
theorem dX1_countHits_1 : decode cX1_countHits 1 = .ok (.istore_n 2, 1) := by decide +kernel
theorem dX1_countHits_2 : decode cX1_countHits 2 = .ok (.iload_n 2, 1) := by decide +kernel
theorem dX1_countHits_3 : decode cX1_countHits 3 = .ok (.bipush 6, 2) := by decide +kernel
theorem dX1_countHits_5 : decode cX1_countHits 5 = .ok (.if_icmp .ge 35, 3) := by decide +kernel
theorem dX1_countHits_8 : decode cX1_countHits 8 = .ok (.aload_n 1, 1) := by decide +kernel
theorem dX1_countHits_9 : decode cX1_countHits 9 = .ok (.iload_n 2, 1) := by decide +kernel
theorem dX1_countHits_10 : decode cX1_countHits 10 = .ok (.invokevirtual 28, 3) := by decide +kernel
theorem dX1_countHits_13 : decode cX1_countHits 13 = .ok (.istore_n 3, 1) := by decide +kernel
theorem dX1_countHits_14 : decode cX1_countHits 14 = .ok (.iload_n 3, 1) := by decide +kernel
theorem dX1_countHits_15 : decode cX1_countHits 15 = .ok (.invokestatic 34, 3) := by decide +kernel
theorem dX1_countHits_18 : decode cX1_countHits 18 = .ok (.ifCond .eq 16, 3) := by decide +kernel
theorem dX1_countHits_21 : decode cX1_countHits 21 = .ok (.aload_n 0, 1) := by decide +kernel
theorem dX1_countHits_22 : decode cX1_countHits 22 = .ok (.iload_n 2, 1) := by decide +kernel
theorem dX1_countHits_23 : decode cX1_countHits 23 = .ok (.sipush 128, 3) := by decide +kernel
theorem dX1_countHits_26 : decode cX1_countHits 26 = .ok (.imul, 1) := by decide +kernel
theorem dX1_countHits_27 : decode cX1_countHits 27 = .ok (.bipush 64, 2) := by decide +kernel
theorem dX1_countHits_29 : decode cX1_countHits 29 = .ok (.iload_n 3, 1) := by decide +kernel
theorem dX1_countHits_30 : decode cX1_countHits 30 = .ok (.iadd, 1) := by decide +kernel
theorem dX1_countHits_31 : decode cX1_countHits 31 = .ok (.invokevirtual 38, 3) := by decide +kernel
theorem dX1_countHits_34 : decode cX1_countHits 34 = .ok (.iinc 2 1, 3) := by decide +kernel
theorem dX1_countHits_37 : decode cX1_countHits 37 = .ok (.goto (-35), 3) := by decide +kernel
theorem dX1_countHits_40 : decode cX1_countHits 40 = .ok (.return_, 1) := by decide +kernel
set_option maxRecDepth 20000 in
theorem ggX1_hitAbove_X1_firstAt : GoodIn wsX1_hitAbove wsX1_firstAt := goodIn_r _ [8, 9, 15] (by decide +kernel) (by decide +kernel)
set_option maxRecDepth 20000 in
theorem gX1_hitAbove_X1_firstAt : GoodIn wsX1_hitAbove (wsV RX1 42 RX1 yX1_firstAt wsX1_firstAt) := goodIn_app (goodIn_of _ (by decide +kernel)) ggX1_hitAbove_X1_firstAt
theorem dX1_hitAbove_0 : decode cX1_hitAbove 0 = .ok (.iload_n 2, 1) := by decide +kernel
theorem dX1_hitAbove_1 : decode cX1_hitAbove 1 = .ok (.istore_n 3, 1) := by decide +kernel
theorem dX1_hitAbove_2 : decode cX1_hitAbove 2 = .ok (.iload_n 3, 1) := by decide +kernel
theorem dX1_hitAbove_3 : decode cX1_hitAbove 3 = .ok (.ifCond .le 48, 3) := by decide +kernel
theorem dX1_hitAbove_6 : decode cX1_hitAbove 6 = .ok (.aload_n 0, 1) := by decide +kernel
theorem dX1_hitAbove_7 : decode cX1_hitAbove 7 = .ok (.iload_n 1, 1) := by decide +kernel
theorem dX1_hitAbove_8 : decode cX1_hitAbove 8 = .ok (.iload_n 3, 1) := by decide +kernel
theorem dX1_hitAbove_9 : decode cX1_hitAbove 9 = .ok (.iadd, 1) := by decide +kernel
theorem dX1_hitAbove_10 : decode cX1_hitAbove 10 = .ok (.invokevirtual 42, 3) := by decide +kernel
theorem dX1_hitAbove_13 : decode cX1_hitAbove 13 = .ok (.astore 4, 2) := by decide +kernel
theorem dX1_hitAbove_15 : decode cX1_hitAbove 15 = .ok (.aload 4, 2) := by decide +kernel
theorem dX1_hitAbove_17 : decode cX1_hitAbove 17 = .ok (.ifnull 27, 3) := by decide +kernel
theorem dX1_hitAbove_20 : decode cX1_hitAbove 20 = .ok (.aload 4, 2) := by decide +kernel
theorem dX1_hitAbove_22 : decode cX1_hitAbove 22 = .ok (.getfield 46, 3) := by decide +kernel
theorem dX1_hitAbove_25 : decode cX1_hitAbove 25 = .ok (.dup, 1) := by decide +kernel
theorem dX1_hitAbove_26 : decode cX1_hitAbove 26 = .ok (.getfield 50, 3) := by decide +kernel
theorem dX1_hitAbove_29 : decode cX1_hitAbove 29 = .ok (.iconst 1, 1) := by decide +kernel
theorem dX1_hitAbove_30 : decode cX1_hitAbove 30 = .ok (.iadd, 1) := by decide +kernel
theorem dX1_hitAbove_31 : decode cX1_hitAbove 31 = .ok (.putfield 50, 3) := by decide +kernel
theorem dX1_hitAbove_34 : decode cX1_hitAbove 34 = .ok (.aload 4, 2) := by decide +kernel
theorem dX1_hitAbove_36 : decode cX1_hitAbove 36 = .ok (.getfield 56, 3) := by decide +kernel
theorem dX1_hitAbove_39 : decode cX1_hitAbove 39 = .ok (.astore 4, 2) := by decide +kernel
theorem dX1_hitAbove_41 : decode cX1_hitAbove 41 = .ok (.goto (-26), 3) := by decide +kernel
theorem dX1_hitAbove_44 : decode cX1_hitAbove 44 = .ok (.iload_n 3, 1) := by decide +kernel
theorem dX1_hitAbove_45 : decode cX1_hitAbove 45 = .ok (.iconst 1, 1) := by decide +kernel
theorem dX1_hitAbove_46 : decode cX1_hitAbove 46 = .ok (.ishr, 1) := by decide +kernel
theorem dX1_hitAbove_47 : decode cX1_hitAbove 47 = .ok (.istore_n 3, 1) := by decide +kernel
theorem dX1_hitAbove_48 : decode cX1_hitAbove 48 = .ok (.goto (-46), 3) := by decide +kernel
theorem dX1_hitAbove_51 : decode cX1_hitAbove 51 = .ok (.return_, 1) := by decide +kernel
theorem dX1_firstAt_0 : decode cX1_firstAt 0 = .ok (.iload_n 1, 1) := by decide +kernel
theorem dX1_firstAt_1 : decode cX1_firstAt 1 = .ok (.ifCond .lt 21, 3) := by decide +kernel
theorem dX1_firstAt_4 : decode cX1_firstAt 4 = .ok (.iload_n 1, 1) := by decide +kernel
theorem dX1_firstAt_5 : decode cX1_firstAt 5 = .ok (.aload_n 0, 1) := by decide +kernel
theorem dX1_firstAt_6 : decode cX1_firstAt 6 = .ok (.getfield 13, 3) := by decide +kernel
theorem dX1_firstAt_9 : decode cX1_firstAt 9 = .ok (.arraylength, 1) := by decide +kernel
theorem dX1_firstAt_10 : decode cX1_firstAt 10 = .ok (.if_icmp .ge 12, 3) := by decide +kernel
theorem dX1_firstAt_13 : decode cX1_firstAt 13 = .ok (.aload_n 0, 1) := by decide +kernel
theorem dX1_firstAt_14 : decode cX1_firstAt 14 = .ok (.getfield 13, 3) := by decide +kernel
theorem dX1_firstAt_17 : decode cX1_firstAt 17 = .ok (.iload_n 1, 1) := by decide +kernel
theorem dX1_firstAt_18 : decode cX1_firstAt 18 = .ok (.aaload, 1) := by decide +kernel
theorem dX1_firstAt_19 : decode cX1_firstAt 19 = .ok (.goto 4, 3) := by decide +kernel
theorem dX1_firstAt_22 : decode cX1_firstAt 22 = .ok (.aconst_null, 1) := by decide +kernel
theorem dX1_firstAt_23 : decode cX1_firstAt 23 = .ok (.areturn, 1) := by decide +kernel
theorem dX2_init_0 : decode cX2_init 0 = .ok (.aload_n 0, 1) := by decide +kernel
theorem dX2_init_1 : decode cX2_init 1 = .ok (.invokespecial 1, 3) := by decide +kernel
theorem dX2_init_4 : decode cX2_init 4 = .ok (.aload_n 0, 1) := by decide +kernel
theorem dX2_init_5 : decode cX2_init 5 = .ok (.aload_n 1, 1) := by decide +kernel
theorem dX2_init_6 : decode cX2_init 6 = .ok (.putfield 7, 3) := by decide +kernel
theorem dX2_init_9 : decode cX2_init 9 = .ok (.aload_n 0, 1) := by decide +kernel
theorem dX2_init_10 : decode cX2_init 10 = .ok (.aload_n 2, 1) := by decide +kernel
theorem dX2_init_11 : decode cX2_init 11 = .ok (.putfield 13, 3) := by decide +kernel
theorem dX2_init_14 : decode cX2_init 14 = .ok (.return_, 1) := by decide +kernel
set_option maxRecDepth 20000 in
theorem ggX3_init_Jx4a65c_init_da8c8 : GoodIn wsX3_init wsJx4a65c_init_da8c8 := goodIn_r _ [12, 13, 14, 15, 16, 17, 18, 19, 20, 21, 22, 23, 24, 2, 3, 25, 26, 27] (by decide +kernel) (by decide +kernel)
set_option maxRecDepth 20000 in
theorem gX3_init_Jx4a65c_init_da8c8 : GoodIn wsX3_init (wsJx4a65c_init_da8c8) := ggX3_init_Jx4a65c_init_da8c8
theorem dX3_init_0 : decode cX3_init 0 = .ok (.aload_n 0, 1) := by decide +kernel
theorem dX3_init_1 : decode cX3_init 1 = .ok (.invokespecial 1, 3) := by decide +kernel
theorem dX3_init_4 : decode cX3_init 4 = .ok (.aload_n 0, 1) := by decide +kernel
theorem dX3_init_5 : decode cX3_init 5 = .ok (.new 7, 3) := by decide +kernel
theorem dX3_init_8 : decode cX3_init 8 = .ok (.dup, 1) := by decide +kernel
theorem dX3_init_9 : decode cX3_init 9 = .ok (.invokespecial 9, 3) := by decide +kernel
theorem dX3_init_12 : decode cX3_init 12 = .ok (.putfield 10, 3) := by decide +kernel
theorem dX3_init_15 : decode cX3_init 15 = .ok (.aload_n 0, 1) := by decide +kernel
theorem dX3_init_16 : decode cX3_init 16 = .ok (.iconst 0, 1) := by decide +kernel
theorem dX3_init_17 : decode cX3_init 17 = .ok (.putfield 16, 3) := by decide +kernel
theorem dX3_init_20 : decode cX3_init 20 = .ok (.aload_n 0, 1) := by decide +kernel
theorem dX3_init_21 : decode cX3_init 21 = .ok (.iconst 0, 1) := by decide +kernel
theorem dX3_init_22 : decode cX3_init 22 = .ok (.putfield 20, 3) := by decide +kernel
theorem dX3_init_25 : decode cX3_init 25 = .ok (.return_, 1) := by decide +kernel
set_option maxRecDepth 20000 in
theorem ggX3_isTrue_Jx4a65c_size_8abf5 : GoodIn wsX3_isTrue wsJx4a65c_size_8abf5 := goodIn_r _ [7, 8, 44, 45, 46] (by decide +kernel) (by decide +kernel)
set_option maxRecDepth 20000 in
theorem gX3_isTrue_Jx4a65c_size_8abf5_f23Jx4a65c : GoodIn wsX3_isTrue (va_wsF RX3 23 RJx4a65c ⟨"java/util/List", "size", "()I"⟩ yJx4a65c_size_8abf5 wsJx4a65c_size_8abf5) := goodIn_app (goodIn_of _ (by decide +kernel)) ggX3_isTrue_Jx4a65c_size_8abf5
set_option maxRecDepth 20000 in
theorem ggX3_isTrue_Jx4a65c_get_915e3 : GoodIn wsX3_isTrue wsJx4a65c_get_915e3 := goodIn_r _ [12, 8, 13, 14, 15, 16, 17, 18, 19, 20, 21, 22, 23, 6, 24, 25, 44, 45, 46] (by decide +kernel) (by decide +kernel)
set_option maxRecDepth 20000 in
theorem gX3_isTrue_Jx4a65c_get_915e3_f29Jx4a65c : GoodIn wsX3_isTrue (va_wsF RX3 29 RJx4a65c ⟨"java/util/List", "get", "(I)Ljava/lang/Object;"⟩ yJx4a65c_get_915e3 wsJx4a65c_get_915e3) := goodIn_app (goodIn_of _ (by decide +kernel)) ggX3_isTrue_Jx4a65c_get_915e3
set_option maxRecDepth 20000 in
theorem ggX3_isTrue_X5_isTrue : GoodIn wsX3_isTrue wsX5_isTrue := goodIn_r _ [30, 31, 32, 33, 34, 35, 36, 37, 38, 39, 40, 47, 48, 49, 50, 51] (by decide +kernel) (by decide +kernel)
set_option maxRecDepth 20000 in
theorem gX3_isTrue_X5_isTrue : GoodIn wsX3_isTrue (wsV RX3 35 RX5 yX5_isTrue wsX5_isTrue) := goodIn_app (goodIn_of _ (by decide +kernel)) ggX3_isTrue_X5_isTrue
theorem dX3_isTrue_0 : decode cX3_isTrue 0 = .ok (.iconst 0, 1) := by decide +kernel
theorem dX3_isTrue_1 : decode cX3_isTrue 1 = .ok (.istore_n 2, 1) := by decide +kernel
theorem dX3_isTrue_2 : decode cX3_isTrue 2 = .ok (.iload_n 2, 1) := by decide +kernel
theorem dX3_isTrue_3 : decode cX3_isTrue 3 = .ok (.aload_n 0, 1) := by decide +kernel
theorem dX3_isTrue_4 : decode cX3_isTrue 4 = .ok (.getfield 10, 3) := by decide +kernel
theorem dX3_isTrue_7 : decode cX3_isTrue 7 = .ok (.invokeinterface 23 1, 5) := by decide +kernel
theorem dX3_isTrue_12 : decode cX3_isTrue 12 = .ok (.if_icmp .ge 31, 3) := by decide +kernel
theorem dX3_isTrue_15 : decode cX3_isTrue 15 = .ok (.aload_n 0, 1) := by decide +kernel
theorem dX3_isTrue_16 : decode cX3_isTrue 16 = .ok (.getfield 10, 3) := by decide +kernel
theorem dX3_isTrue_19 : decode cX3_isTrue 19 = .ok (.iload_n 2, 1) := by decide +kernel
theorem dX3_isTrue_20 : decode cX3_isTrue 20 = .ok (.invokeinterface 29 2, 5) := by decide +kernel
theorem dX3_isTrue_25 : decode cX3_isTrue 25 = .ok (.checkcast 33, 3) := by decide +kernel
theorem dX3_isTrue_28 : decode cX3_isTrue 28 = .ok (.aload_n 1, 1) := by decide +kernel
theorem dX3_isTrue_29 : decode cX3_isTrue 29 = .ok (.invokevirtual 35, 3) := by decide +kernel
theorem dX3_isTrue_32 : decode cX3_isTrue 32 = .ok (.ifCond .ne 5, 3) := by decide +kernel
theorem dX3_isTrue_35 : decode cX3_isTrue 35 = .ok (.iconst 0, 1) := by decide +kernel
theorem dX3_isTrue_36 : decode cX3_isTrue 36 = .ok (.ireturn, 1) := by decide +kernel
theorem dX3_isTrue_37 : decode cX3_isTrue 37 = .ok (.iinc 2 1, 3) := by decide +kernel
theorem dX3_isTrue_40 : decode cX3_isTrue 40 = .ok (.goto (-38), 3) := by decide +kernel
theorem dX3_isTrue_43 : decode cX3_isTrue 43 = .ok (.iconst 1, 1) := by decide +kernel
theorem dX3_isTrue_44 : decode cX3_isTrue 44 = .ok (.ireturn, 1) := by decide +kernel
set_option maxRecDepth 20000 in
theorem ggX3_isTrueByHits_Jx4a65c_size_8abf5 : GoodIn wsX3_isTrueByHits wsJx4a65c_size_8abf5 := goodIn_r _ [10, 11, 51, 52, 53] (by decide +kernel) (by decide +kernel)
set_option maxRecDepth 20000 in
theorem gX3_isTrueByHits_Jx4a65c_size_8abf5_f23Jx4a65c : GoodIn wsX3_isTrueByHits (va_wsF RX3 23 RJx4a65c ⟨"java/util/List", "size", "()I"⟩ yJx4a65c_size_8abf5 wsJx4a65c_size_8abf5) := goodIn_app (goodIn_of _ (by decide +kernel)) ggX3_isTrueByHits_Jx4a65c_size_8abf5
set_option maxRecDepth 20000 in
theorem ggX3_isTrueByHits_Jx4a65c_get_915e3 : GoodIn wsX3_isTrueByHits wsJx4a65c_get_915e3 := goodIn_r _ [15, 11, 16, 17, 18, 19, 20, 21, 22, 23, 24, 25, 26, 9, 27, 28, 51, 52, 53] (by decide +kernel) (by decide +kernel)
set_option maxRecDepth 20000 in
theorem gX3_isTrueByHits_Jx4a65c_get_915e3_f29Jx4a65c : GoodIn wsX3_isTrueByHits (va_wsF RX3 29 RJx4a65c ⟨"java/util/List", "get", "(I)Ljava/lang/Object;"⟩ yJx4a65c_get_915e3 wsJx4a65c_get_915e3) := goodIn_app (goodIn_of _ (by decide +kernel)) ggX3_isTrueByHits_Jx4a65c_get_915e3
set_option maxRecDepth 20000 in
theorem ggX3_isTrueByHits_X5_isTrue : GoodIn wsX3_isTrueByHits wsX5_isTrue := goodIn_r _ [33, 34, 35, 36, 37, 38, 39, 40, 41, 42, 43, 47, 48, 49, 50, 54] (by decide +kernel) (by decide +kernel)
set_option maxRecDepth 20000 in
theorem gX3_isTrueByHits_X5_isTrue : GoodIn wsX3_isTrueByHits (wsV RX3 35 RX5 yX5_isTrue wsX5_isTrue) := goodIn_app (goodIn_of _ (by decide +kernel)) ggX3_isTrueByHits_X5_isTrue
theorem dX3_isTrueByHits_0 : decode cX3_isTrueByHits 0 = .ok (.aload_n 0, 1) := by decide +kernel
theorem dX3_isTrueByHits_1 : decode cX3_isTrueByHits 1 = .ok (.getfield 20, 3) := by decide +kernel
theorem dX3_isTrueByHits_4 : decode cX3_isTrueByHits 4 = .ok (.aload_n 0, 1) := by decide +kernel
theorem dX3_isTrueByHits_5 : decode cX3_isTrueByHits 5 = .ok (.getfield 16, 3) := by decide +kernel
theorem dX3_isTrueByHits_8 : decode cX3_isTrueByHits 8 = .ok (.if_icmp .eq 5, 3) := by decide +kernel
theorem dX3_isTrueByHits_11 : decode cX3_isTrueByHits 11 = .ok (.iconst 0, 1) := by decide +kernel
theorem dX3_isTrueByHits_12 : decode cX3_isTrueByHits 12 = .ok (.ireturn, 1) := by decide +kernel
theorem dX3_isTrueByHits_13 : decode cX3_isTrueByHits 13 = .ok (.iconst 0, 1) := by decide +kernel
theorem dX3_isTrueByHits_14 : decode cX3_isTrueByHits 14 = .ok (.istore_n 2, 1) := by decide +kernel
theorem dX3_isTrueByHits_15 : decode cX3_isTrueByHits 15 = .ok (.iload_n 2, 1) := by decide +kernel
theorem dX3_isTrueByHits_16 : decode cX3_isTrueByHits 16 = .ok (.aload_n 0, 1) := by decide +kernel
theorem dX3_isTrueByHits_17 : decode cX3_isTrueByHits 17 = .ok (.getfield 10, 3) := by decide +kernel
theorem dX3_isTrueByHits_20 : decode cX3_isTrueByHits 20 = .ok (.invokeinterface 23 1, 5) := by decide +kernel
theorem dX3_isTrueByHits_25 : decode cX3_isTrueByHits 25 = .ok (.if_icmp .ge 40, 3) := by decide +kernel
theorem dX3_isTrueByHits_28 : decode cX3_isTrueByHits 28 = .ok (.aload_n 0, 1) := by decide +kernel
theorem dX3_isTrueByHits_29 : decode cX3_isTrueByHits 29 = .ok (.getfield 10, 3) := by decide +kernel
theorem dX3_isTrueByHits_32 : decode cX3_isTrueByHits 32 = .ok (.iload_n 2, 1) := by decide +kernel
theorem dX3_isTrueByHits_33 : decode cX3_isTrueByHits 33 = .ok (.invokeinterface 29 2, 5) := by decide +kernel
theorem dX3_isTrueByHits_38 : decode cX3_isTrueByHits 38 = .ok (.checkcast 33, 3) := by decide +kernel
theorem dX3_isTrueByHits_41 : decode cX3_isTrueByHits 41 = .ok (.astore_n 3, 1) := by decide +kernel
theorem dX3_isTrueByHits_42 : decode cX3_isTrueByHits 42 = .ok (.aload_n 3, 1) := by decide +kernel
theorem dX3_isTrueByHits_43 : decode cX3_isTrueByHits 43 = .ok (.getfield 39, 3) := by decide +kernel
theorem dX3_isTrueByHits_46 : decode cX3_isTrueByHits 46 = .ok (.ifCond .eq 13, 3) := by decide +kernel
theorem dX3_isTrueByHits_49 : decode cX3_isTrueByHits 49 = .ok (.aload_n 3, 1) := by decide +kernel
theorem dX3_isTrueByHits_50 : decode cX3_isTrueByHits 50 = .ok (.aload_n 1, 1) := by decide +kernel
theorem dX3_isTrueByHits_51 : decode cX3_isTrueByHits 51 = .ok (.invokevirtual 35, 3) := by decide +kernel
theorem dX3_isTrueByHits_54 : decode cX3_isTrueByHits 54 = .ok (.ifCond .ne 5, 3) := by decide +kernel
theorem dX3_isTrueByHits_57 : decode cX3_isTrueByHits 57 = .ok (.iconst 0, 1) := by decide +kernel
theorem dX3_isTrueByHits_58 : decode cX3_isTrueByHits 58 = .ok (.ireturn, 1) := by decide +kernel
theorem dX3_isTrueByHits_59 : decode cX3_isTrueByHits 59 = .ok (.iinc 2 1, 3) := by decide +kernel
theorem dX3_isTrueByHits_62 : decode cX3_isTrueByHits 62 = .ok (.goto (-47), 3) := by decide +kernel
theorem dX3_isTrueByHits_65 : decode cX3_isTrueByHits 65 = .ok (.iconst 1, 1) := by decide +kernel
theorem dX3_isTrueByHits_66 : decode cX3_isTrueByHits 66 = .ok (.ireturn, 1) := by decide +kernel
set_option maxRecDepth 20000 in
theorem ggX4_init_Jx4a65c_init_da8c8 : GoodIn wsX4_init wsJx4a65c_init_da8c8 := goodIn_r _ [15, 16, 17, 18, 19, 20, 21, 22, 23, 24, 25, 26, 27, 2, 3, 28, 29, 30] (by decide +kernel) (by decide +kernel)
set_option maxRecDepth 20000 in
theorem gX4_init_Jx4a65c_init_da8c8 : GoodIn wsX4_init (wsJx4a65c_init_da8c8) := ggX4_init_Jx4a65c_init_da8c8
theorem dX4_init_0 : decode cX4_init 0 = .ok (.aload_n 0, 1) := by decide +kernel
theorem dX4_init_1 : decode cX4_init 1 = .ok (.invokespecial 3, 3) := by decide +kernel
theorem dX4_init_4 : decode cX4_init 4 = .ok (.aload_n 0, 1) := by decide +kernel
theorem dX4_init_5 : decode cX4_init 5 = .ok (.new 9, 3) := by decide +kernel
theorem dX4_init_8 : decode cX4_init 8 = .ok (.dup, 1) := by decide +kernel
theorem dX4_init_9 : decode cX4_init 9 = .ok (.invokespecial 11, 3) := by decide +kernel
theorem dX4_init_12 : decode cX4_init 12 = .ok (.putfield 12, 3) := by decide +kernel
theorem dX4_init_15 : decode cX4_init 15 = .ok (.aload_n 0, 1) := by decide +kernel
theorem dX4_init_16 : decode cX4_init 16 = .ok (.iconst 0, 1) := by decide +kernel
theorem dX4_init_17 : decode cX4_init 17 = .ok (.putfield 18, 3) := by decide +kernel
theorem dX4_init_20 : decode cX4_init 20 = .ok (.aload_n 0, 1) := by decide +kernel
theorem dX4_init_21 : decode cX4_init 21 = .ok (.iconst 0, 1) := by decide +kernel
theorem dX4_init_22 : decode cX4_init 22 = .ok (.putfield 22, 3) := by decide +kernel
theorem dX4_init_25 : decode cX4_init 25 = .ok (.aload_n 0, 1) := by decide +kernel
theorem dX4_init_26 : decode cX4_init 26 = .ok (.iconst 0, 1) := by decide +kernel
theorem dX4_init_27 : decode cX4_init 27 = .ok (.putfield 26, 3) := by decide +kernel
theorem dX4_init_30 : decode cX4_init 30 = .ok (.aload_n 0, 1) := by decide +kernel
theorem dX4_init_31 : decode cX4_init 31 = .ok (.iconst 0, 1) := by decide +kernel
theorem dX4_init_32 : decode cX4_init 32 = .ok (.putfield 29, 3) := by decide +kernel
theorem dX4_init_35 : decode cX4_init 35 = .ok (.aload_n 0, 1) := by decide +kernel
theorem dX4_init_36 : decode cX4_init 36 = .ok (.iconst 0, 1) := by decide +kernel
theorem dX4_init_37 : decode cX4_init 37 = .ok (.putfield 32, 3) := by decide +kernel
theorem dX4_init_40 : decode cX4_init 40 = .ok (.return_, 1) := by decide +kernel
set_option maxRecDepth 20000 in
theorem ggX4_lastProduct_Jx4a65c_size_8abf5 : GoodIn wsX4_lastProduct wsJx4a65c_size_8abf5 := goodIn_r _ [7, 8, 32, 33, 34] (by decide +kernel) (by decide +kernel)
set_option maxRecDepth 20000 in
theorem gX4_lastProduct_Jx4a65c_size_8abf5_f35Jx4a65c : GoodIn wsX4_lastProduct (va_wsF RX4 35 RJx4a65c ⟨"java/util/List", "size", "()I"⟩ yJx4a65c_size_8abf5 wsJx4a65c_size_8abf5) := goodIn_app (goodIn_of _ (by decide +kernel)) ggX4_lastProduct_Jx4a65c_size_8abf5
set_option maxRecDepth 20000 in
theorem ggX4_lastProduct_Jx4a65c_get_915e3 : GoodIn wsX4_lastProduct wsJx4a65c_get_915e3 := goodIn_r _ [12, 8, 13, 14, 15, 16, 17, 18, 19, 20, 21, 22, 23, 6, 24, 25, 32, 33, 34] (by decide +kernel) (by decide +kernel)
set_option maxRecDepth 20000 in
theorem gX4_lastProduct_Jx4a65c_get_915e3_f41Jx4a65c : GoodIn wsX4_lastProduct (va_wsF RX4 41 RJx4a65c ⟨"java/util/List", "get", "(I)Ljava/lang/Object;"⟩ yJx4a65c_get_915e3 wsJx4a65c_get_915e3) := goodIn_app (goodIn_of _ (by decide +kernel)) ggX4_lastProduct_Jx4a65c_get_915e3
theorem dX4_lastProduct_0 : decode cX4_lastProduct 0 = .ok (.aload_n 0, 1) := by decide +kernel
theorem dX4_lastProduct_1 : decode cX4_lastProduct 1 = .ok (.getfield 12, 3) := by decide +kernel
theorem dX4_lastProduct_4 : decode cX4_lastProduct 4 = .ok (.invokeinterface 35 1, 5) := by decide +kernel
theorem dX4_lastProduct_9 : decode cX4_lastProduct 9 = .ok (.istore_n 1, 1) := by decide +kernel
theorem dX4_lastProduct_10 : decode cX4_lastProduct 10 = .ok (.iload_n 1, 1) := by decide +kernel
theorem dX4_lastProduct_11 : decode cX4_lastProduct 11 = .ok (.ifCond .le 21, 3) := by decide +kernel
theorem dX4_lastProduct_14 : decode cX4_lastProduct 14 = .ok (.aload_n 0, 1) := by decide +kernel
theorem dX4_lastProduct_15 : decode cX4_lastProduct 15 = .ok (.getfield 12, 3) := by decide +kernel
theorem dX4_lastProduct_18 : decode cX4_lastProduct 18 = .ok (.iload_n 1, 1) := by decide +kernel
theorem dX4_lastProduct_19 : decode cX4_lastProduct 19 = .ok (.iconst 1, 1) := by decide +kernel
theorem dX4_lastProduct_20 : decode cX4_lastProduct 20 = .ok (.isub, 1) := by decide +kernel
theorem dX4_lastProduct_21 : decode cX4_lastProduct 21 = .ok (.invokeinterface 41 2, 5) := by decide +kernel
theorem dX4_lastProduct_26 : decode cX4_lastProduct 26 = .ok (.checkcast 45, 3) := by decide +kernel
theorem dX4_lastProduct_29 : decode cX4_lastProduct 29 = .ok (.goto 4, 3) := by decide +kernel
theorem dX4_lastProduct_32 : decode cX4_lastProduct 32 = .ok (.aconst_null, 1) := by decide +kernel
theorem dX4_lastProduct_33 : decode cX4_lastProduct 33 = .ok (.areturn, 1) := by decide +kernel
set_option maxRecDepth 20000 in
theorem ggX4_leastSize_Jx4a65c_size_8abf5 : GoodIn wsX4_leastSize wsJx4a65c_size_8abf5 := goodIn_r _ [12, 13, 44, 45, 46] (by decide +kernel) (by decide +kernel)
set_option maxRecDepth 20000 in
theorem gX4_leastSize_Jx4a65c_size_8abf5_f35Jx4a65c : GoodIn wsX4_leastSize (va_wsF RX4 35 RJx4a65c ⟨"java/util/List", "size", "()I"⟩ yJx4a65c_size_8abf5 wsJx4a65c_size_8abf5) := goodIn_app (goodIn_of _ (by decide +kernel)) ggX4_leastSize_Jx4a65c_size_8abf5
set_option maxRecDepth 20000 in
theorem ggX4_leastSize_Jx4a65c_get_915e3 : GoodIn wsX4_leastSize wsJx4a65c_get_915e3 := goodIn_r _ [17, 13, 18, 19, 20, 21, 22, 23, 24, 25, 26, 27, 28, 11, 29, 30, 44, 45, 46] (by decide +kernel) (by decide +kernel)
set_option maxRecDepth 20000 in
theorem gX4_leastSize_Jx4a65c_get_915e3_f41Jx4a65c : GoodIn wsX4_leastSize (va_wsF RX4 41 RJx4a65c ⟨"java/util/List", "get", "(I)Ljava/lang/Object;"⟩ yJx4a65c_get_915e3 wsJx4a65c_get_915e3) := goodIn_app (goodIn_of _ (by decide +kernel)) ggX4_leastSize_Jx4a65c_get_915e3
set_option maxRecDepth 20000 in
theorem ggX4_leastSize_Jx4a65c_isEmpty_aae02 : GoodIn wsX4_leastSize wsJx4a65c_isEmpty_aae02 := goodIn_r _ [34, 13, 44, 45, 46] (by decide +kernel) (by decide +kernel)
set_option maxRecDepth 20000 in
theorem gX4_leastSize_Jx4a65c_isEmpty_aae02_f56Jx4a65c : GoodIn wsX4_leastSize (va_wsF RX4 56 RJx4a65c ⟨"java/util/List", "isEmpty", "()Z"⟩ yJx4a65c_isEmpty_aae02 wsJx4a65c_isEmpty_aae02) := goodIn_app (goodIn_of _ (by decide +kernel)) ggX4_leastSize_Jx4a65c_isEmpty_aae02
theorem dX4_leastSize_0 : decode cX4_leastSize 0 = .ok (.iconst 4, 1) := by decide +kernel
theorem dX4_leastSize_1 : decode cX4_leastSize 1 = .ok (.istore_n 1, 1) := by decide +kernel
theorem dX4_leastSize_2 : decode cX4_leastSize 2 = .ok (.iconst 0, 1) := by decide +kernel
theorem dX4_leastSize_3 : decode cX4_leastSize 3 = .ok (.istore_n 2, 1) := by decide +kernel
theorem dX4_leastSize_4 : decode cX4_leastSize 4 = .ok (.iload_n 2, 1) := by decide +kernel
theorem dX4_leastSize_5 : decode cX4_leastSize 5 = .ok (.aload_n 0, 1) := by decide +kernel
theorem dX4_leastSize_6 : decode cX4_leastSize 6 = .ok (.getfield 12, 3) := by decide +kernel
theorem dX4_leastSize_9 : decode cX4_leastSize 9 = .ok (.invokeinterface 35 1, 5) := by decide +kernel
theorem dX4_leastSize_14 : decode cX4_leastSize 14 = .ok (.if_icmp .ge 30, 3) := by decide +kernel
theorem dX4_leastSize_17 : decode cX4_leastSize 17 = .ok (.iload_n 1, 1) := by decide +kernel
theorem dX4_leastSize_18 : decode cX4_leastSize 18 = .ok (.aload_n 0, 1) := by decide +kernel
theorem dX4_leastSize_19 : decode cX4_leastSize 19 = .ok (.getfield 12, 3) := by decide +kernel
theorem dX4_leastSize_22 : decode cX4_leastSize 22 = .ok (.iload_n 2, 1) := by decide +kernel
theorem dX4_leastSize_23 : decode cX4_leastSize 23 = .ok (.invokeinterface 41 2, 5) := by decide +kernel
theorem dX4_leastSize_28 : decode cX4_leastSize 28 = .ok (.checkcast 45, 3) := by decide +kernel
theorem dX4_leastSize_31 : decode cX4_leastSize 31 = .ok (.getfield 47, 3) := by decide +kernel
theorem dX4_leastSize_34 : decode cX4_leastSize 34 = .ok (.invokestatic 50, 3) := by decide +kernel
theorem dX4_leastSize_37 : decode cX4_leastSize 37 = .ok (.istore_n 1, 1) := by decide +kernel
theorem dX4_leastSize_38 : decode cX4_leastSize 38 = .ok (.iinc 2 1, 3) := by decide +kernel
theorem dX4_leastSize_41 : decode cX4_leastSize 41 = .ok (.goto (-37), 3) := by decide +kernel
theorem dX4_leastSize_44 : decode cX4_leastSize 44 = .ok (.aload_n 0, 1) := by decide +kernel
theorem dX4_leastSize_45 : decode cX4_leastSize 45 = .ok (.getfield 12, 3) := by decide +kernel
theorem dX4_leastSize_48 : decode cX4_leastSize 48 = .ok (.invokeinterface 56 1, 5) := by decide +kernel
theorem dX4_leastSize_53 : decode cX4_leastSize 53 = .ok (.ifCond .eq 7, 3) := by decide +kernel
theorem dX4_leastSize_56 : decode cX4_leastSize 56 = .ok (.iconst 0, 1) := by decide +kernel
theorem dX4_leastSize_57 : decode cX4_leastSize 57 = .ok (.goto 4, 3) := by decide +kernel
theorem dX4_leastSize_60 : decode cX4_leastSize 60 = .ok (.iload_n 1, 1) := by decide +kernel
theorem dX4_leastSize_61 : decode cX4_leastSize 61 = .ok (.ireturn, 1) := by decide +kernel
set_option maxRecDepth 20000 in
theorem ggX4_isSatisfied_Jx4a65c_size_8abf5 : GoodIn wsX4_isSatisfied wsJx4a65c_size_8abf5 := goodIn_r _ [8, 9, 57, 58, 59] (by decide +kernel) (by decide +kernel)
set_option maxRecDepth 20000 in
theorem gX4_isSatisfied_Jx4a65c_size_8abf5_f35Jx4a65c : GoodIn wsX4_isSatisfied (va_wsF RX4 35 RJx4a65c ⟨"java/util/List", "size", "()I"⟩ yJx4a65c_size_8abf5 wsJx4a65c_size_8abf5) := goodIn_app (goodIn_of _ (by decide +kernel)) ggX4_isSatisfied_Jx4a65c_size_8abf5
set_option maxRecDepth 20000 in
theorem ggX4_isSatisfied_Jx4a65c_get_915e3 : GoodIn wsX4_isSatisfied wsJx4a65c_get_915e3 := goodIn_r _ [13, 9, 14, 15, 16, 17, 18, 19, 20, 21, 22, 23, 24, 7, 25, 26, 57, 58, 59] (by decide +kernel) (by decide +kernel)
set_option maxRecDepth 20000 in
theorem gX4_isSatisfied_Jx4a65c_get_915e3_f41Jx4a65c : GoodIn wsX4_isSatisfied (va_wsF RX4 41 RJx4a65c ⟨"java/util/List", "get", "(I)Ljava/lang/Object;"⟩ yJx4a65c_get_915e3 wsJx4a65c_get_915e3) := goodIn_app (goodIn_of _ (by decide +kernel)) ggX4_isSatisfied_Jx4a65c_get_915e3
set_option maxRecDepth 20000 in
theorem ggX4_isSatisfied_X3_isTrue : GoodIn wsX4_isSatisfied wsX3_isTrue := goodIn_r _ [31, 32, 33, 34, 5, 6, 7, 8, 9, 35, 11, 12, 13, 14, 15, 16, 17, 18, 19, 20, 21, 22, 23, 24, 25, 26, 36, 37, 38, 39, 40, 41, 42, 43, 44, 45, 46, 47, 48, 49, 50, 60, 61, 62, 57, 58, 59, 63, 64, 65, 66, 67] (by decide +kernel) (by decide +kernel)
set_option maxRecDepth 20000 in
theorem gX4_isSatisfied_X3_isTrue : GoodIn wsX4_isSatisfied (wsV RX4 60 RX3 yX3_isTrue wsX3_isTrue) := goodIn_app (goodIn_of _ (by decide +kernel)) ggX4_isSatisfied_X3_isTrue
theorem dX4_isSatisfied_0 : decode cX4_isSatisfied 0 = .ok (.iconst 0, 1) := by decide +kernel
theorem dX4_isSatisfied_1 : decode cX4_isSatisfied 1 = .ok (.istore_n 2, 1) := by decide +kernel
theorem dX4_isSatisfied_2 : decode cX4_isSatisfied 2 = .ok (.aload_n 0, 1) := by decide +kernel
theorem dX4_isSatisfied_3 : decode cX4_isSatisfied 3 = .ok (.getfield 18, 3) := by decide +kernel
theorem dX4_isSatisfied_6 : decode cX4_isSatisfied 6 = .ok (.ifCond .ne 44, 3) := by decide +kernel
theorem dX4_isSatisfied_9 : decode cX4_isSatisfied 9 = .ok (.iload_n 2, 1) := by decide +kernel
theorem dX4_isSatisfied_10 : decode cX4_isSatisfied 10 = .ok (.aload_n 0, 1) := by decide +kernel
theorem dX4_isSatisfied_11 : decode cX4_isSatisfied 11 = .ok (.getfield 12, 3) := by decide +kernel
theorem dX4_isSatisfied_14 : decode cX4_isSatisfied 14 = .ok (.invokeinterface 35 1, 5) := by decide +kernel
theorem dX4_isSatisfied_19 : decode cX4_isSatisfied 19 = .ok (.if_icmp .ge 31, 3) := by decide +kernel
theorem dX4_isSatisfied_22 : decode cX4_isSatisfied 22 = .ok (.aload_n 0, 1) := by decide +kernel
theorem dX4_isSatisfied_23 : decode cX4_isSatisfied 23 = .ok (.getfield 12, 3) := by decide +kernel
theorem dX4_isSatisfied_26 : decode cX4_isSatisfied 26 = .ok (.iload_n 2, 1) := by decide +kernel
theorem dX4_isSatisfied_27 : decode cX4_isSatisfied 27 = .ok (.invokeinterface 41 2, 5) := by decide +kernel
theorem dX4_isSatisfied_32 : decode cX4_isSatisfied 32 = .ok (.checkcast 45, 3) := by decide +kernel
theorem dX4_isSatisfied_35 : decode cX4_isSatisfied 35 = .ok (.aload_n 1, 1) := by decide +kernel
theorem dX4_isSatisfied_36 : decode cX4_isSatisfied 36 = .ok (.invokevirtual 60, 3) := by decide +kernel
theorem dX4_isSatisfied_39 : decode cX4_isSatisfied 39 = .ok (.ifCond .eq 5, 3) := by decide +kernel
theorem dX4_isSatisfied_42 : decode cX4_isSatisfied 42 = .ok (.iconst 1, 1) := by decide +kernel
theorem dX4_isSatisfied_43 : decode cX4_isSatisfied 43 = .ok (.ireturn, 1) := by decide +kernel
theorem dX4_isSatisfied_44 : decode cX4_isSatisfied 44 = .ok (.iinc 2 1, 3) := by decide +kernel
theorem dX4_isSatisfied_47 : decode cX4_isSatisfied 47 = .ok (.goto (-45), 3) := by decide +kernel
theorem dX4_isSatisfied_50 : decode cX4_isSatisfied 50 = .ok (.iconst 0, 1) := by decide +kernel
theorem dX4_isSatisfied_51 : decode cX4_isSatisfied 51 = .ok (.ireturn, 1) := by decide +kernel
set_option maxRecDepth 20000 in
theorem ggX4_isSatisfiedByHits_Jx4a65c_size_8abf5 : GoodIn wsX4_isSatisfiedByHits wsJx4a65c_size_8abf5 := goodIn_r _ [8, 9, 60, 61, 62] (by decide +kernel) (by decide +kernel)
set_option maxRecDepth 20000 in
theorem gX4_isSatisfiedByHits_Jx4a65c_size_8abf5_f35Jx4a65c : GoodIn wsX4_isSatisfiedByHits (va_wsF RX4 35 RJx4a65c ⟨"java/util/List", "size", "()I"⟩ yJx4a65c_size_8abf5 wsJx4a65c_size_8abf5) := goodIn_app (goodIn_of _ (by decide +kernel)) ggX4_isSatisfiedByHits_Jx4a65c_size_8abf5
set_option maxRecDepth 20000 in
theorem ggX4_isSatisfiedByHits_Jx4a65c_get_915e3 : GoodIn wsX4_isSatisfiedByHits wsJx4a65c_get_915e3 := goodIn_r _ [13, 9, 14, 15, 16, 17, 18, 19, 20, 21, 22, 23, 24, 7, 25, 26, 60, 61, 62] (by decide +kernel) (by decide +kernel)
set_option maxRecDepth 20000 in
theorem gX4_isSatisfiedByHits_Jx4a65c_get_915e3_f41Jx4a65c : GoodIn wsX4_isSatisfiedByHits (va_wsF RX4 41 RJx4a65c ⟨"java/util/List", "get", "(I)Ljava/lang/Object;"⟩ yJx4a65c_get_915e3 wsJx4a65c_get_915e3) := goodIn_app (goodIn_of _ (by decide +kernel)) ggX4_isSatisfiedByHits_Jx4a65c_get_915e3
set_option maxRecDepth 20000 in
theorem ggX4_isSatisfiedByHits_X3_isTrueByHits : GoodIn wsX4_isSatisfiedByHits wsX3_isTrueByHits := goodIn_r _ [31, 32, 33, 34, 35, 36, 37, 5, 6, 7, 8, 9, 38, 11, 12, 13, 14, 15, 16, 17, 18, 19, 20, 21, 22, 23, 24, 25, 26, 39, 40, 41, 42, 43, 44, 45, 46, 47, 48, 49, 50, 51, 52, 53, 63, 64, 65, 66, 67, 68, 69, 60, 61, 62, 70] (by decide +kernel) (by decide +kernel)
set_option maxRecDepth 20000 in
theorem gX4_isSatisfiedByHits_X3_isTrueByHits : GoodIn wsX4_isSatisfiedByHits (wsV RX4 64 RX3 yX3_isTrueByHits wsX3_isTrueByHits) := goodIn_app (goodIn_of _ (by decide +kernel)) ggX4_isSatisfiedByHits_X3_isTrueByHits
theorem dX4_isSatisfiedByHits_0 : decode cX4_isSatisfiedByHits 0 = .ok (.iconst 0, 1) := by decide +kernel
theorem dX4_isSatisfiedByHits_1 : decode cX4_isSatisfiedByHits 1 = .ok (.istore_n 2, 1) := by decide +kernel
theorem dX4_isSatisfiedByHits_2 : decode cX4_isSatisfiedByHits 2 = .ok (.aload_n 0, 1) := by decide +kernel
theorem dX4_isSatisfiedByHits_3 : decode cX4_isSatisfiedByHits 3 = .ok (.getfield 18, 3) := by decide +kernel
theorem dX4_isSatisfiedByHits_6 : decode cX4_isSatisfiedByHits 6 = .ok (.ifCond .ne 44, 3) := by decide +kernel
theorem dX4_isSatisfiedByHits_9 : decode cX4_isSatisfiedByHits 9 = .ok (.iload_n 2, 1) := by decide +kernel
theorem dX4_isSatisfiedByHits_10 : decode cX4_isSatisfiedByHits 10 = .ok (.aload_n 0, 1) := by decide +kernel
theorem dX4_isSatisfiedByHits_11 : decode cX4_isSatisfiedByHits 11 = .ok (.getfield 12, 3) := by decide +kernel
theorem dX4_isSatisfiedByHits_14 : decode cX4_isSatisfiedByHits 14 = .ok (.invokeinterface 35 1, 5) := by decide +kernel
theorem dX4_isSatisfiedByHits_19 : decode cX4_isSatisfiedByHits 19 = .ok (.if_icmp .ge 31, 3) := by decide +kernel
theorem dX4_isSatisfiedByHits_22 : decode cX4_isSatisfiedByHits 22 = .ok (.aload_n 0, 1) := by decide +kernel
theorem dX4_isSatisfiedByHits_23 : decode cX4_isSatisfiedByHits 23 = .ok (.getfield 12, 3) := by decide +kernel
theorem dX4_isSatisfiedByHits_26 : decode cX4_isSatisfiedByHits 26 = .ok (.iload_n 2, 1) := by decide +kernel
theorem dX4_isSatisfiedByHits_27 : decode cX4_isSatisfiedByHits 27 = .ok (.invokeinterface 41 2, 5) := by decide +kernel
theorem dX4_isSatisfiedByHits_32 : decode cX4_isSatisfiedByHits 32 = .ok (.checkcast 45, 3) := by decide +kernel
theorem dX4_isSatisfiedByHits_35 : decode cX4_isSatisfiedByHits 35 = .ok (.aload_n 1, 1) := by decide +kernel
theorem dX4_isSatisfiedByHits_36 : decode cX4_isSatisfiedByHits 36 = .ok (.invokevirtual 64, 3) := by decide +kernel
theorem dX4_isSatisfiedByHits_39 : decode cX4_isSatisfiedByHits 39 = .ok (.ifCond .eq 5, 3) := by decide +kernel
theorem dX4_isSatisfiedByHits_42 : decode cX4_isSatisfiedByHits 42 = .ok (.iconst 1, 1) := by decide +kernel
theorem dX4_isSatisfiedByHits_43 : decode cX4_isSatisfiedByHits 43 = .ok (.ireturn, 1) := by decide +kernel
theorem dX4_isSatisfiedByHits_44 : decode cX4_isSatisfiedByHits 44 = .ok (.iinc 2 1, 3) := by decide +kernel
theorem dX4_isSatisfiedByHits_47 : decode cX4_isSatisfiedByHits 47 = .ok (.goto (-45), 3) := by decide +kernel
theorem dX4_isSatisfiedByHits_50 : decode cX4_isSatisfiedByHits 50 = .ok (.iconst 0, 1) := by decide +kernel
theorem dX4_isSatisfiedByHits_51 : decode cX4_isSatisfiedByHits 51 = .ok (.ireturn, 1) := by decide +kernel
set_option maxRecDepth 20000 in
theorem ggX4_forgetHits_Jx4a65c_size_8abf5 : GoodIn wsX4_forgetHits wsJx4a65c_size_8abf5 := goodIn_r _ [8, 9, 36, 37, 38] (by decide +kernel) (by decide +kernel)
set_option maxRecDepth 20000 in
theorem gX4_forgetHits_Jx4a65c_size_8abf5_f35Jx4a65c : GoodIn wsX4_forgetHits (va_wsF RX4 35 RJx4a65c ⟨"java/util/List", "size", "()I"⟩ yJx4a65c_size_8abf5 wsJx4a65c_size_8abf5) := goodIn_app (goodIn_of _ (by decide +kernel)) ggX4_forgetHits_Jx4a65c_size_8abf5
set_option maxRecDepth 20000 in
theorem ggX4_forgetHits_Jx4a65c_get_915e3 : GoodIn wsX4_forgetHits wsJx4a65c_get_915e3 := goodIn_r _ [13, 9, 14, 15, 16, 17, 18, 19, 20, 21, 22, 23, 24, 7, 25, 26, 36, 37, 38] (by decide +kernel) (by decide +kernel)
set_option maxRecDepth 20000 in
theorem gX4_forgetHits_Jx4a65c_get_915e3_f41Jx4a65c : GoodIn wsX4_forgetHits (va_wsF RX4 41 RJx4a65c ⟨"java/util/List", "get", "(I)Ljava/lang/Object;"⟩ yJx4a65c_get_915e3 wsJx4a65c_get_915e3) := goodIn_app (goodIn_of _ (by decide +kernel)) ggX4_forgetHits_Jx4a65c_get_915e3
theorem dX4_forgetHits_0 : decode cX4_forgetHits 0 = .ok (.iconst 0, 1) := by decide +kernel
theorem dX4_forgetHits_1 : decode cX4_forgetHits 1 = .ok (.istore_n 1, 1) := by decide +kernel
theorem dX4_forgetHits_2 : decode cX4_forgetHits 2 = .ok (.iload_n 1, 1) := by decide +kernel
theorem dX4_forgetHits_3 : decode cX4_forgetHits 3 = .ok (.aload_n 0, 1) := by decide +kernel
theorem dX4_forgetHits_4 : decode cX4_forgetHits 4 = .ok (.getfield 12, 3) := by decide +kernel
theorem dX4_forgetHits_7 : decode cX4_forgetHits 7 = .ok (.invokeinterface 35 1, 5) := by decide +kernel
theorem dX4_forgetHits_12 : decode cX4_forgetHits 12 = .ok (.if_icmp .ge 26, 3) := by decide +kernel
theorem dX4_forgetHits_15 : decode cX4_forgetHits 15 = .ok (.aload_n 0, 1) := by decide +kernel
theorem dX4_forgetHits_16 : decode cX4_forgetHits 16 = .ok (.getfield 12, 3) := by decide +kernel
theorem dX4_forgetHits_19 : decode cX4_forgetHits 19 = .ok (.iload_n 1, 1) := by decide +kernel
theorem dX4_forgetHits_20 : decode cX4_forgetHits 20 = .ok (.invokeinterface 41 2, 5) := by decide +kernel
theorem dX4_forgetHits_25 : decode cX4_forgetHits 25 = .ok (.checkcast 45, 3) := by decide +kernel
theorem dX4_forgetHits_28 : decode cX4_forgetHits 28 = .ok (.iconst 0, 1) := by decide +kernel
theorem dX4_forgetHits_29 : decode cX4_forgetHits 29 = .ok (.putfield 67, 3) := by decide +kernel
theorem dX4_forgetHits_32 : decode cX4_forgetHits 32 = .ok (.iinc 1 1, 3) := by decide +kernel
theorem dX4_forgetHits_35 : decode cX4_forgetHits 35 = .ok (.goto (-33), 3) := by decide +kernel
theorem dX4_forgetHits_38 : decode cX4_forgetHits 38 = .ok (.return_, 1) := by decide +kernel
theorem dX4_isQuietAt_0 : decode cX4_isQuietAt 0 = .ok (.iload_n 1, 1) := by decide +kernel
theorem dX4_isQuietAt_1 : decode cX4_isQuietAt 1 = .ok (.aload_n 0, 1) := by decide +kernel
theorem dX4_isQuietAt_2 : decode cX4_isQuietAt 2 = .ok (.getfield 26, 3) := by decide +kernel
theorem dX4_isQuietAt_5 : decode cX4_isQuietAt 5 = .ok (.if_icmp .ge 7, 3) := by decide +kernel
theorem dX4_isQuietAt_8 : decode cX4_isQuietAt 8 = .ok (.iconst 1, 1) := by decide +kernel
theorem dX4_isQuietAt_9 : decode cX4_isQuietAt 9 = .ok (.goto 4, 3) := by decide +kernel
theorem dX4_isQuietAt_12 : decode cX4_isQuietAt 12 = .ok (.iconst 0, 1) := by decide +kernel
theorem dX4_isQuietAt_13 : decode cX4_isQuietAt 13 = .ok (.ireturn, 1) := by decide +kernel
set_option maxRecDepth 20000 in
theorem ggX4_takeDocument_X4_isQuietAt : GoodIn wsX4_takeDocument wsX4_isQuietAt := goodIn_r _ [6, 7, 14, 15, 16, 17, 18, 19] (by decide +kernel) (by decide +kernel)
set_option maxRecDepth 20000 in
theorem gX4_takeDocument_X4_isQuietAt : GoodIn wsX4_takeDocument (wsV RX4 70 RX4 yX4_isQuietAt wsX4_isQuietAt) := goodIn_app (goodIn_of _ (by decide +kernel)) ggX4_takeDocument_X4_isQuietAt
set_option maxRecDepth 20000 in
theorem ggX4_takeDocument_X4_raiseAlert : GoodIn wsX4_takeDocument wsX4_raiseAlert := goodIn_r _ [11, 12, 13, 7, 14, 15, 16, 17, 18, 19] (by decide +kernel) (by decide +kernel)
set_option maxRecDepth 20000 in
theorem gX4_takeDocument_X4_raiseAlert : GoodIn wsX4_takeDocument (wsV RX4 74 RX4 yX4_raiseAlert wsX4_raiseAlert) := goodIn_app (goodIn_of _ (by decide +kernel)) ggX4_takeDocument_X4_raiseAlert
theorem dX4_takeDocument_0 : decode cX4_takeDocument 0 = .ok (.aload_n 0, 1) := by decide +kernel
theorem dX4_takeDocument_1 : decode cX4_takeDocument 1 = .ok (.iload_n 1, 1) := by decide +kernel
theorem dX4_takeDocument_2 : decode cX4_takeDocument 2 = .ok (.invokevirtual 70, 3) := by decide +kernel
theorem dX4_takeDocument_5 : decode cX4_takeDocument 5 = .ok (.ifCond .eq 15, 3) := by decide +kernel
theorem dX4_takeDocument_8 : decode cX4_takeDocument 8 = .ok (.aload_n 0, 1) := by decide +kernel
theorem dX4_takeDocument_9 : decode cX4_takeDocument 9 = .ok (.dup, 1) := by decide +kernel
theorem dX4_takeDocument_10 : decode cX4_takeDocument 10 = .ok (.getfield 32, 3) := by decide +kernel
theorem dX4_takeDocument_13 : decode cX4_takeDocument 13 = .ok (.iconst 1, 1) := by decide +kernel
theorem dX4_takeDocument_14 : decode cX4_takeDocument 14 = .ok (.iadd, 1) := by decide +kernel
theorem dX4_takeDocument_15 : decode cX4_takeDocument 15 = .ok (.putfield 32, 3) := by decide +kernel
theorem dX4_takeDocument_18 : decode cX4_takeDocument 18 = .ok (.iconst 0, 1) := by decide +kernel
theorem dX4_takeDocument_19 : decode cX4_takeDocument 19 = .ok (.ireturn, 1) := by decide +kernel
theorem dX4_takeDocument_20 : decode cX4_takeDocument 20 = .ok (.aload_n 0, 1) := by decide +kernel
theorem dX4_takeDocument_21 : decode cX4_takeDocument 21 = .ok (.iload_n 1, 1) := by decide +kernel
theorem dX4_takeDocument_22 : decode cX4_takeDocument 22 = .ok (.invokevirtual 74, 3) := by decide +kernel
theorem dX4_takeDocument_25 : decode cX4_takeDocument 25 = .ok (.iconst 1, 1) := by decide +kernel
theorem dX4_takeDocument_26 : decode cX4_takeDocument 26 = .ok (.ireturn, 1) := by decide +kernel
set_option maxRecDepth 20000 in
theorem ggX4_sendBatch_X4_isQuietAt : GoodIn wsX4_sendBatch wsX4_isQuietAt := goodIn_r _ [8, 3, 15, 16, 17, 18, 19, 20] (by decide +kernel) (by decide +kernel)
set_option maxRecDepth 20000 in
theorem gX4_sendBatch_X4_isQuietAt : GoodIn wsX4_sendBatch (wsV RX4 70 RX4 yX4_isQuietAt wsX4_isQuietAt) := goodIn_app (goodIn_of _ (by decide +kernel)) ggX4_sendBatch_X4_isQuietAt
set_option maxRecDepth 20000 in
theorem ggX4_sendBatch_X4_raiseAlert : GoodIn wsX4_sendBatch wsX4_raiseAlert := goodIn_r _ [12, 13, 14, 3, 15, 16, 17, 18, 19, 20] (by decide +kernel) (by decide +kernel)
set_option maxRecDepth 20000 in
theorem gX4_sendBatch_X4_raiseAlert : GoodIn wsX4_sendBatch (wsV RX4 74 RX4 yX4_raiseAlert wsX4_raiseAlert) := goodIn_app (goodIn_of _ (by decide +kernel)) ggX4_sendBatch_X4_raiseAlert
theorem dX4_sendBatch_0 : decode cX4_sendBatch 0 = .ok (.aload_n 0, 1) := by decide +kernel
theorem dX4_sendBatch_1 : decode cX4_sendBatch 1 = .ok (.getfield 18, 3) := by decide +kernel
theorem dX4_sendBatch_4 : decode cX4_sendBatch 4 = .ok (.ifCond .ne 18, 3) := by decide +kernel
theorem dX4_sendBatch_7 : decode cX4_sendBatch 7 = .ok (.aload_n 0, 1) := by decide +kernel
theorem dX4_sendBatch_8 : decode cX4_sendBatch 8 = .ok (.getfield 32, 3) := by decide +kernel
theorem dX4_sendBatch_11 : decode cX4_sendBatch 11 = .ok (.ifCond .eq 11, 3) := by decide +kernel
theorem dX4_sendBatch_14 : decode cX4_sendBatch 14 = .ok (.aload_n 0, 1) := by decide +kernel
theorem dX4_sendBatch_15 : decode cX4_sendBatch 15 = .ok (.iload_n 1, 1) := by decide +kernel
theorem dX4_sendBatch_16 : decode cX4_sendBatch 16 = .ok (.invokevirtual 70, 3) := by decide +kernel
theorem dX4_sendBatch_19 : decode cX4_sendBatch 19 = .ok (.ifCond .eq 5, 3) := by decide +kernel
theorem dX4_sendBatch_22 : decode cX4_sendBatch 22 = .ok (.iconst 0, 1) := by decide +kernel
theorem dX4_sendBatch_23 : decode cX4_sendBatch 23 = .ok (.ireturn, 1) := by decide +kernel
theorem dX4_sendBatch_24 : decode cX4_sendBatch 24 = .ok (.aload_n 0, 1) := by decide +kernel
theorem dX4_sendBatch_25 : decode cX4_sendBatch 25 = .ok (.iconst 0, 1) := by decide +kernel
theorem dX4_sendBatch_26 : decode cX4_sendBatch 26 = .ok (.putfield 32, 3) := by decide +kernel
theorem dX4_sendBatch_29 : decode cX4_sendBatch 29 = .ok (.aload_n 0, 1) := by decide +kernel
theorem dX4_sendBatch_30 : decode cX4_sendBatch 30 = .ok (.aload_n 0, 1) := by decide +kernel
theorem dX4_sendBatch_31 : decode cX4_sendBatch 31 = .ok (.getfield 26, 3) := by decide +kernel
theorem dX4_sendBatch_34 : decode cX4_sendBatch 34 = .ok (.invokevirtual 74, 3) := by decide +kernel
theorem dX4_sendBatch_37 : decode cX4_sendBatch 37 = .ok (.iconst 1, 1) := by decide +kernel
theorem dX4_sendBatch_38 : decode cX4_sendBatch 38 = .ok (.ireturn, 1) := by decide +kernel
theorem dX4_raiseAlert_0 : decode cX4_raiseAlert 0 = .ok (.aload_n 0, 1) := by decide +kernel
theorem dX4_raiseAlert_1 : decode cX4_raiseAlert 1 = .ok (.dup, 1) := by decide +kernel
theorem dX4_raiseAlert_2 : decode cX4_raiseAlert 2 = .ok (.getfield 29, 3) := by decide +kernel
theorem dX4_raiseAlert_5 : decode cX4_raiseAlert 5 = .ok (.iconst 1, 1) := by decide +kernel
theorem dX4_raiseAlert_6 : decode cX4_raiseAlert 6 = .ok (.iadd, 1) := by decide +kernel
theorem dX4_raiseAlert_7 : decode cX4_raiseAlert 7 = .ok (.putfield 29, 3) := by decide +kernel
theorem dX4_raiseAlert_10 : decode cX4_raiseAlert 10 = .ok (.aload_n 0, 1) := by decide +kernel
theorem dX4_raiseAlert_11 : decode cX4_raiseAlert 11 = .ok (.iload_n 1, 1) := by decide +kernel
theorem dX4_raiseAlert_12 : decode cX4_raiseAlert 12 = .ok (.aload_n 0, 1) := by decide +kernel
theorem dX4_raiseAlert_13 : decode cX4_raiseAlert 13 = .ok (.getfield 22, 3) := by decide +kernel
theorem dX4_raiseAlert_16 : decode cX4_raiseAlert 16 = .ok (.iadd, 1) := by decide +kernel
theorem dX4_raiseAlert_17 : decode cX4_raiseAlert 17 = .ok (.putfield 26, 3) := by decide +kernel
theorem dX4_raiseAlert_20 : decode cX4_raiseAlert 20 = .ok (.return_, 1) := by decide +kernel
theorem dX5_init_0 : decode cX5_init 0 = .ok (.aload_n 0, 1) := by decide +kernel
theorem dX5_init_1 : decode cX5_init 1 = .ok (.invokespecial 3, 3) := by decide +kernel
theorem dX5_init_4 : decode cX5_init 4 = .ok (.aload_n 0, 1) := by decide +kernel
theorem dX5_init_5 : decode cX5_init 5 = .ok (.iload_n 1, 1) := by decide +kernel
theorem dX5_init_6 : decode cX5_init 6 = .ok (.putfield 9, 3) := by decide +kernel
theorem dX5_init_9 : decode cX5_init 9 = .ok (.aload_n 0, 1) := by decide +kernel
theorem dX5_init_10 : decode cX5_init 10 = .ok (.iload_n 2, 1) := by decide +kernel
theorem dX5_init_11 : decode cX5_init 11 = .ok (.putfield 15, 3) := by decide +kernel
theorem dX5_init_14 : decode cX5_init 14 = .ok (.aload_n 0, 1) := by decide +kernel
theorem dX5_init_15 : decode cX5_init 15 = .ok (.iload_n 3, 1) := by decide +kernel
theorem dX5_init_16 : decode cX5_init 16 = .ok (.putfield 18, 3) := by decide +kernel
theorem dX5_init_19 : decode cX5_init 19 = .ok (.aload_n 0, 1) := by decide +kernel
theorem dX5_init_20 : decode cX5_init 20 = .ok (.iload 4, 2) := by decide +kernel
theorem dX5_init_22 : decode cX5_init 22 = .ok (.putfield 21, 3) := by decide +kernel
theorem dX5_init_25 : decode cX5_init 25 = .ok (.return_, 1) := by decide +kernel
set_option maxRecDepth 20000 in
theorem ggX5_isTrue_X0_valueOf : GoodIn wsX5_isTrue wsX0_valueOf := goodIn_r _ [9, 10, 15] (by decide +kernel) (by decide +kernel)
set_option maxRecDepth 20000 in
theorem gX5_isTrue_X0_valueOf : GoodIn wsX5_isTrue (wsV RX5 25 RX0 yX0_valueOf wsX0_valueOf) := goodIn_app (goodIn_of _ (by decide +kernel)) ggX5_isTrue_X0_valueOf
theorem dX5_isTrue_0 : decode cX5_isTrue 0 = .ok (.aload_n 1, 1) := by decide +kernel
theorem dX5_isTrue_1 : decode cX5_isTrue 1 = .ok (.aload_n 0, 1) := by decide +kernel
theorem dX5_isTrue_2 : decode cX5_isTrue 2 = .ok (.getfield 9, 3) := by decide +kernel
theorem dX5_isTrue_5 : decode cX5_isTrue 5 = .ok (.invokevirtual 25, 3) := by decide +kernel
theorem dX5_isTrue_8 : decode cX5_isTrue 8 = .ok (.istore_n 2, 1) := by decide +kernel
theorem dX5_isTrue_9 : decode cX5_isTrue 9 = .ok (.iload_n 2, 1) := by decide +kernel
theorem dX5_isTrue_10 : decode cX5_isTrue 10 = .ok (.iconst (-1), 1) := by decide +kernel
theorem dX5_isTrue_11 : decode cX5_isTrue 11 = .ok (.if_icmp .eq 23, 3) := by decide +kernel
theorem dX5_isTrue_14 : decode cX5_isTrue 14 = .ok (.iload_n 2, 1) := by decide +kernel
theorem dX5_isTrue_15 : decode cX5_isTrue 15 = .ok (.aload_n 0, 1) := by decide +kernel
theorem dX5_isTrue_16 : decode cX5_isTrue 16 = .ok (.getfield 15, 3) := by decide +kernel
theorem dX5_isTrue_19 : decode cX5_isTrue 19 = .ok (.if_icmp .lt 15, 3) := by decide +kernel
theorem dX5_isTrue_22 : decode cX5_isTrue 22 = .ok (.iload_n 2, 1) := by decide +kernel
theorem dX5_isTrue_23 : decode cX5_isTrue 23 = .ok (.aload_n 0, 1) := by decide +kernel
theorem dX5_isTrue_24 : decode cX5_isTrue 24 = .ok (.getfield 18, 3) := by decide +kernel
theorem dX5_isTrue_27 : decode cX5_isTrue 27 = .ok (.if_icmp .gt 7, 3) := by decide +kernel
theorem dX5_isTrue_30 : decode cX5_isTrue 30 = .ok (.iconst 1, 1) := by decide +kernel
theorem dX5_isTrue_31 : decode cX5_isTrue 31 = .ok (.goto 4, 3) := by decide +kernel
theorem dX5_isTrue_34 : decode cX5_isTrue 34 = .ok (.iconst 0, 1) := by decide +kernel
theorem dX5_isTrue_35 : decode cX5_isTrue 35 = .ok (.istore_n 3, 1) := by decide +kernel
theorem dX5_isTrue_36 : decode cX5_isTrue 36 = .ok (.iload_n 3, 1) := by decide +kernel
theorem dX5_isTrue_37 : decode cX5_isTrue 37 = .ok (.aload_n 0, 1) := by decide +kernel
theorem dX5_isTrue_38 : decode cX5_isTrue 38 = .ok (.getfield 21, 3) := by decide +kernel
theorem dX5_isTrue_41 : decode cX5_isTrue 41 = .ok (.if_icmp .eq 7, 3) := by decide +kernel
theorem dX5_isTrue_44 : decode cX5_isTrue 44 = .ok (.iconst 1, 1) := by decide +kernel
theorem dX5_isTrue_45 : decode cX5_isTrue 45 = .ok (.goto 4, 3) := by decide +kernel
theorem dX5_isTrue_48 : decode cX5_isTrue 48 = .ok (.iconst 0, 1) := by decide +kernel
theorem dX5_isTrue_49 : decode cX5_isTrue 49 = .ok (.ireturn, 1) := by decide +kernel
set_option maxRecDepth 20000 in
theorem ggX6_init_Jx4a65c_init_da8c8 : GoodIn wsX6_init wsJx4a65c_init_da8c8 := goodIn_r _ [19, 20, 21, 22, 23, 24, 25, 26, 27, 28, 29, 30, 31, 2, 3, 48, 49, 50] (by decide +kernel) (by decide +kernel)
set_option maxRecDepth 20000 in
theorem gX6_init_Jx4a65c_init_da8c8 : GoodIn wsX6_init (wsJx4a65c_init_da8c8) := ggX6_init_Jx4a65c_init_da8c8
set_option maxRecDepth 20000 in
theorem ggX6_init_X0_init : GoodIn wsX6_init wsX0_init := goodIn_r _ [34, 35, 2, 3, 36, 37, 38, 39, 40, 41, 55] (by decide +kernel) (by decide +kernel)
set_option maxRecDepth 20000 in
theorem gX6_init_X0_init : GoodIn wsX6_init (wsX0_init) := ggX6_init_X0_init
set_option maxRecDepth 20000 in
theorem ggX6_init_X1_init : GoodIn wsX6_init wsX1_init := goodIn_r _ [44, 45, 2, 3, 46, 47, 56] (by decide +kernel) (by decide +kernel)
set_option maxRecDepth 20000 in
theorem gX6_init_X1_init : GoodIn wsX6_init (wsX1_init) := ggX6_init_X1_init
