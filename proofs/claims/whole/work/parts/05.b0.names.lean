set_option maxRecDepth 20000 in
theorem ggX0_init_X2_init : GoodIn wsX0_init wsX2_init := goodIn_r _ [11, 12, 2, 3, 13, 14, 15, 16, 17, 18, 19, 20, 21, 22, 23, 24, 25, 26, 30, 31, 32, 33, 34, 35, 36, 37, 38, 39, 40, 41] (by decide +kernel) (by decide +kernel)
set_option maxRecDepth 20000 in
theorem gX0_init_X2_init_n24 : GoodIn wsX0_init (wsX2_init) := ggX0_init_X2_init
theorem dX0_init_0 : decode cX0_init 0 = .ok (.aload_n 0, 1) := by decide +kernel
theorem dX0_init_1 : decode cX0_init 1 = .ok (.invokespecial 3, 3) := by decide +kernel
theorem dX0_init_4 : decode cX0_init 4 = .ok (.aload_n 0, 1) := by decide +kernel
theorem dX0_init_5 : decode cX0_init 5 = .ok (.iconst 5, 1) := by decide +kernel
theorem dX0_init_6 : decode cX0_init 6 = .ok (.anewarray 11, 3) := by decide +kernel
theorem dX0_init_9 : decode cX0_init 9 = .ok (.putfield 13, 3) := by decide +kernel
theorem dX0_init_12 : decode cX0_init 12 = .ok (.aload_n 0, 1) := by decide +kernel
theorem dX0_init_13 : decode cX0_init 13 = .ok (.iconst 0, 1) := by decide +kernel
theorem dX0_init_14 : decode cX0_init 14 = .ok (.putfield 17, 3) := by decide +kernel
theorem dX0_init_17 : decode cX0_init 17 = .ok (.aload_n 0, 1) := by decide +kernel
theorem dX0_init_18 : decode cX0_init 18 = .ok (.iconst 0, 1) := by decide +kernel
theorem dX0_init_19 : decode cX0_init 19 = .ok (.putfield 21, 3) := by decide +kernel
theorem dX0_init_22 : decode cX0_init 22 = .ok (.iconst 0, 1) := by decide +kernel
theorem dX0_init_23 : decode cX0_init 23 = .ok (.istore_n 1, 1) := by decide +kernel
theorem dX0_init_24 : decode cX0_init 24 = .ok (.iload_n 1, 1) := by decide +kernel
theorem dX0_init_25 : decode cX0_init 25 = .ok (.iconst 5, 1) := by decide +kernel
theorem dX0_init_26 : decode cX0_init 26 = .ok (.if_icmp .ge 22, 3) := by decide +kernel
theorem dX0_init_29 : decode cX0_init 29 = .ok (.aload_n 0, 1) := by decide +kernel
theorem dX0_init_30 : decode cX0_init 30 = .ok (.getfield 13, 3) := by decide +kernel
theorem dX0_init_33 : decode cX0_init 33 = .ok (.iload_n 1, 1) := by decide +kernel
theorem dX0_init_34 : decode cX0_init 34 = .ok (.new 11, 3) := by decide +kernel
theorem dX0_init_37 : decode cX0_init 37 = .ok (.dup, 1) := by decide +kernel
theorem dX0_init_38 : decode cX0_init 38 = .ok (.invokespecial 24, 3) := by decide +kernel
theorem dX0_init_41 : decode cX0_init 41 = .ok (.aastore, 1) := by decide +kernel
theorem dX0_init_42 : decode cX0_init 42 = .ok (.iinc 1 1, 3) := by decide +kernel
theorem dX0_init_45 : decode cX0_init 45 = .ok (.goto (-21), 3) := by decide +kernel
theorem dX0_init_48 : decode cX0_init 48 = .ok (.return_, 1) := by decide +kernel
set_option maxRecDepth 20000 in
theorem ggX0_prepare_X2_copyFrom : GoodIn wsX0_prepare wsX2_copyFrom := goodIn_r _ [7, 8, 9, 10, 11, 12, 13, 14, 15, 16, 17, 18, 19, 20, 21, 6, 22, 23, 24, 25, 26, 27, 28, 29, 30, 31, 32, 33, 37, 38, 39, 40, 41, 42, 43, 44, 45, 46, 47, 48] (by decide +kernel) (by decide +kernel)
set_option maxRecDepth 20000 in
theorem gX0_prepare_X2_copyFrom : GoodIn wsX0_prepare (wsV RX0 25 RX2 yX2_copyFrom wsX2_copyFrom) := goodIn_app (goodIn_of _ (by decide +kernel)) ggX0_prepare_X2_copyFrom
theorem dX0_prepare_0 : decode cX0_prepare 0 = .ok (.aload_n 0, 1) := by decide +kernel
theorem dX0_prepare_1 : decode cX0_prepare 1 = .ok (.getfield 13, 3) := by decide +kernel
theorem dX0_prepare_4 : decode cX0_prepare 4 = .ok (.aload_n 0, 1) := by decide +kernel
theorem dX0_prepare_5 : decode cX0_prepare 5 = .ok (.getfield 17, 3) := by decide +kernel
theorem dX0_prepare_8 : decode cX0_prepare 8 = .ok (.aaload, 1) := by decide +kernel
theorem dX0_prepare_9 : decode cX0_prepare 9 = .ok (.aload_n 1, 1) := by decide +kernel
theorem dX0_prepare_10 : decode cX0_prepare 10 = .ok (.invokevirtual 25, 3) := by decide +kernel
theorem dX0_prepare_13 : decode cX0_prepare 13 = .ok (.return_, 1) := by decide +kernel
set_option maxRecDepth 20000 in
theorem ggX0_restorePrepared_X2_copyFrom : GoodIn wsX0_restorePrepared wsX2_copyFrom := goodIn_r _ [7, 8, 9, 10, 11, 12, 13, 14, 15, 16, 17, 18, 19, 20, 21, 6, 22, 23, 24, 25, 26, 27, 28, 29, 30, 31, 32, 33, 37, 38, 39, 40, 41, 42, 43, 44, 45, 46, 47, 48] (by decide +kernel) (by decide +kernel)
set_option maxRecDepth 20000 in
theorem gX0_restorePrepared_X2_copyFrom : GoodIn wsX0_restorePrepared (wsV RX0 25 RX2 yX2_copyFrom wsX2_copyFrom) := goodIn_app (goodIn_of _ (by decide +kernel)) ggX0_restorePrepared_X2_copyFrom
theorem dX0_restorePrepared_0 : decode cX0_restorePrepared 0 = .ok (.aload_n 1, 1) := by decide +kernel
theorem dX0_restorePrepared_1 : decode cX0_restorePrepared 1 = .ok (.aload_n 0, 1) := by decide +kernel
theorem dX0_restorePrepared_2 : decode cX0_restorePrepared 2 = .ok (.getfield 13, 3) := by decide +kernel
theorem dX0_restorePrepared_5 : decode cX0_restorePrepared 5 = .ok (.aload_n 0, 1) := by decide +kernel
theorem dX0_restorePrepared_6 : decode cX0_restorePrepared 6 = .ok (.getfield 17, 3) := by decide +kernel
theorem dX0_restorePrepared_9 : decode cX0_restorePrepared 9 = .ok (.aaload, 1) := by decide +kernel
theorem dX0_restorePrepared_10 : decode cX0_restorePrepared 10 = .ok (.invokevirtual 25, 3) := by decide +kernel
theorem dX0_restorePrepared_13 : decode cX0_restorePrepared 13 = .ok (.return_, 1) := by decide +kernel
theorem dX0_keepPrepared_0 : decode cX0_keepPrepared 0 = .ok (.aload_n 0, 1) := by decide +kernel
theorem dX0_keepPrepared_1 : decode cX0_keepPrepared 1 = .ok (.aload_n 0, 1) := by decide +kernel
theorem dX0_keepPrepared_2 : decode cX0_keepPrepared 2 = .ok (.getfield 17, 3) := by decide +kernel
theorem dX0_keepPrepared_5 : decode cX0_keepPrepared 5 = .ok (.iconst 1, 1) := by decide +kernel
theorem dX0_keepPrepared_6 : decode cX0_keepPrepared 6 = .ok (.iadd, 1) := by decide +kernel
theorem dX0_keepPrepared_7 : decode cX0_keepPrepared 7 = .ok (.iconst 5, 1) := by decide +kernel
theorem dX0_keepPrepared_8 : decode cX0_keepPrepared 8 = .ok (.irem, 1) := by decide +kernel
theorem dX0_keepPrepared_9 : decode cX0_keepPrepared 9 = .ok (.putfield 17, 3) := by decide +kernel
theorem dX0_keepPrepared_12 : decode cX0_keepPrepared 12 = .ok (.aload_n 0, 1) := by decide +kernel
theorem dX0_keepPrepared_13 : decode cX0_keepPrepared 13 = .ok (.aload_n 0, 1) := by decide +kernel
theorem dX0_keepPrepared_14 : decode cX0_keepPrepared 14 = .ok (.getfield 21, 3) := by decide +kernel
theorem dX0_keepPrepared_17 : decode cX0_keepPrepared 17 = .ok (.iconst 1, 1) := by decide +kernel
theorem dX0_keepPrepared_18 : decode cX0_keepPrepared 18 = .ok (.iadd, 1) := by decide +kernel
theorem dX0_keepPrepared_19 : decode cX0_keepPrepared 19 = .ok (.iconst 4, 1) := by decide +kernel
theorem dX0_keepPrepared_20 : decode cX0_keepPrepared 20 = .ok (.invokestatic 29, 3) := by decide +kernel
theorem dX0_keepPrepared_23 : decode cX0_keepPrepared 23 = .ok (.putfield 21, 3) := by decide +kernel
theorem dX0_keepPrepared_26 : decode cX0_keepPrepared 26 = .ok (.return_, 1) := by decide +kernel
set_option maxRecDepth 20000 in
theorem ggX0_restoreNewest_X2_copyFrom : GoodIn wsX0_restoreNewest wsX2_copyFrom := goodIn_r _ [8, 9, 10, 11, 12, 13, 14, 15, 16, 17, 18, 19, 20, 21, 22, 7, 23, 24, 25, 26, 27, 28, 29, 30, 31, 32, 33, 34, 38, 39, 40, 41, 42, 43, 44, 45, 46, 47, 48, 49] (by decide +kernel) (by decide +kernel)
set_option maxRecDepth 20000 in
theorem gX0_restoreNewest_X2_copyFrom : GoodIn wsX0_restoreNewest (wsV RX0 25 RX2 yX2_copyFrom wsX2_copyFrom) := goodIn_app (goodIn_of _ (by decide +kernel)) ggX0_restoreNewest_X2_copyFrom
theorem dX0_restoreNewest_0 : decode cX0_restoreNewest 0 = .ok (.aload_n 0, 1) := by decide +kernel
theorem dX0_restoreNewest_1 : decode cX0_restoreNewest 1 = .ok (.getfield 21, 3) := by decide +kernel
theorem dX0_restoreNewest_4 : decode cX0_restoreNewest 4 = .ok (.ifCond .ne 5, 3) := by decide +kernel
theorem dX0_restoreNewest_7 : decode cX0_restoreNewest 7 = .ok (.iconst 0, 1) := by decide +kernel
theorem dX0_restoreNewest_8 : decode cX0_restoreNewest 8 = .ok (.ireturn, 1) := by decide +kernel
theorem dX0_restoreNewest_9 : decode cX0_restoreNewest 9 = .ok (.aload_n 0, 1) := by decide +kernel
theorem dX0_restoreNewest_10 : decode cX0_restoreNewest 10 = .ok (.aload_n 0, 1) := by decide +kernel
theorem dX0_restoreNewest_11 : decode cX0_restoreNewest 11 = .ok (.getfield 17, 3) := by decide +kernel
theorem dX0_restoreNewest_14 : decode cX0_restoreNewest 14 = .ok (.iconst 5, 1) := by decide +kernel
theorem dX0_restoreNewest_15 : decode cX0_restoreNewest 15 = .ok (.iadd, 1) := by decide +kernel
theorem dX0_restoreNewest_16 : decode cX0_restoreNewest 16 = .ok (.iconst 1, 1) := by decide +kernel
theorem dX0_restoreNewest_17 : decode cX0_restoreNewest 17 = .ok (.isub, 1) := by decide +kernel
theorem dX0_restoreNewest_18 : decode cX0_restoreNewest 18 = .ok (.iconst 5, 1) := by decide +kernel
theorem dX0_restoreNewest_19 : decode cX0_restoreNewest 19 = .ok (.irem, 1) := by decide +kernel
theorem dX0_restoreNewest_20 : decode cX0_restoreNewest 20 = .ok (.putfield 17, 3) := by decide +kernel
theorem dX0_restoreNewest_23 : decode cX0_restoreNewest 23 = .ok (.aload_n 0, 1) := by decide +kernel
theorem dX0_restoreNewest_24 : decode cX0_restoreNewest 24 = .ok (.dup, 1) := by decide +kernel
theorem dX0_restoreNewest_25 : decode cX0_restoreNewest 25 = .ok (.getfield 21, 3) := by decide +kernel
theorem dX0_restoreNewest_28 : decode cX0_restoreNewest 28 = .ok (.iconst 1, 1) := by decide +kernel
theorem dX0_restoreNewest_29 : decode cX0_restoreNewest 29 = .ok (.isub, 1) := by decide +kernel
theorem dX0_restoreNewest_30 : decode cX0_restoreNewest 30 = .ok (.putfield 21, 3) := by decide +kernel
theorem dX0_restoreNewest_33 : decode cX0_restoreNewest 33 = .ok (.aload_n 1, 1) := by decide +kernel
theorem dX0_restoreNewest_34 : decode cX0_restoreNewest 34 = .ok (.aload_n 0, 1) := by decide +kernel
theorem dX0_restoreNewest_35 : decode cX0_restoreNewest 35 = .ok (.getfield 13, 3) := by decide +kernel
theorem dX0_restoreNewest_38 : decode cX0_restoreNewest 38 = .ok (.aload_n 0, 1) := by decide +kernel
theorem dX0_restoreNewest_39 : decode cX0_restoreNewest 39 = .ok (.getfield 17, 3) := by decide +kernel
theorem dX0_restoreNewest_42 : decode cX0_restoreNewest 42 = .ok (.aaload, 1) := by decide +kernel
theorem dX0_restoreNewest_43 : decode cX0_restoreNewest 43 = .ok (.invokevirtual 25, 3) := by decide +kernel
theorem dX0_restoreNewest_46 : decode cX0_restoreNewest 46 = .ok (.iconst 1, 1) := by decide +kernel
theorem dX0_restoreNewest_47 : decode cX0_restoreNewest 47 = .ok (.ireturn, 1) := by decide +kernel
theorem dX1_init_0 : decode cX1_init 0 = .ok (.aload_n 0, 1) := by decide +kernel
theorem dX1_init_1 : decode cX1_init 1 = .ok (.invokespecial 3, 3) := by decide +kernel
theorem dX1_init_4 : decode cX1_init 4 = .ok (.aload_n 0, 1) := by decide +kernel
theorem dX1_init_5 : decode cX1_init 5 = .ok (.bipush 100, 2) := by decide +kernel
theorem dX1_init_7 : decode cX1_init 7 = .ok (.newarray .int, 2) := by decide +kernel
theorem dX1_init_9 : decode cX1_init 9 = .ok (.putfield 9, 3) := by decide +kernel
theorem dX1_init_12 : decode cX1_init 12 = .ok (.aload_n 0, 1) := by decide +kernel
theorem dX1_init_13 : decode cX1_init 13 = .ok (.iconst 0, 1) := by decide +kernel
theorem dX1_init_14 : decode cX1_init 14 = .ok (.putfield 15, 3) := by decide +kernel
theorem dX1_init_17 : decode cX1_init 17 = .ok (.aload_n 0, 1) := by decide +kernel
theorem dX1_init_18 : decode cX1_init 18 = .ok (.bipush 34, 2) := by decide +kernel
theorem dX1_init_20 : decode cX1_init 20 = .ok (.newarray .int, 2) := by decide +kernel
theorem dX1_init_22 : decode cX1_init 22 = .ok (.putfield 19, 3) := by decide +kernel
theorem dX1_init_25 : decode cX1_init 25 = .ok (.aload_n 0, 1) := by decide +kernel
theorem dX1_init_26 : decode cX1_init 26 = .ok (.bipush 34, 2) := by decide +kernel
theorem dX1_init_28 : decode cX1_init 28 = .ok (.iconst 4, 1) := by decide +kernel
theorem dX1_init_29 : decode cX1_init 29 = .ok (.multianewarray 22 2, 4) := by decide +kernel
theorem dX1_init_33 : decode cX1_init 33 = .ok (.putfield 24, 3) := by decide +kernel
theorem dX1_init_36 : decode cX1_init 36 = .ok (.aload_n 0, 1) := by decide +kernel
theorem dX1_init_37 : decode cX1_init 37 = .ok (.iconst 0, 1) := by decide +kernel
theorem dX1_init_38 : decode cX1_init 38 = .ok (.putfield 27, 3) := by decide +kernel
theorem dX1_init_41 : decode cX1_init 41 = .ok (.aload_n 0, 1) := by decide +kernel
theorem dX1_init_42 : decode cX1_init 42 = .ok (.iconst 0, 1) := by decide +kernel
theorem dX1_init_43 : decode cX1_init 43 = .ok (.putfield 30, 3) := by decide +kernel
theorem dX1_init_46 : decode cX1_init 46 = .ok (.aload_n 0, 1) := by decide +kernel
theorem dX1_init_47 : decode cX1_init 47 = .ok (.iconst 0, 1) := by decide +kernel
theorem dX1_init_48 : decode cX1_init 48 = .ok (.putfield 34, 3) := by decide +kernel
theorem dX1_init_51 : decode cX1_init 51 = .ok (.aload_n 0, 1) := by decide +kernel
theorem dX1_init_52 : decode cX1_init 52 = .ok (.iconst 0, 1) := by decide +kernel
theorem dX1_init_53 : decode cX1_init 53 = .ok (.putfield 37, 3) := by decide +kernel
theorem dX1_init_56 : decode cX1_init 56 = .ok (.return_, 1) := by decide +kernel
theorem dX1_add_0 : decode cX1_add 0 = .ok (.aload_n 0, 1) := by decide +kernel
theorem dX1_add_1 : decode cX1_add 1 = .ok (.getfield 15, 3) := by decide +kernel
theorem dX1_add_4 : decode cX1_add 4 = .ok (.bipush 100, 2) := by decide +kernel
theorem dX1_add_6 : decode cX1_add 6 = .ok (.if_icmp .lt 6, 3) := by decide +kernel
theorem dX1_add_9 : decode cX1_add 9 = .ok (.bipush (-4), 2) := by decide +kernel
theorem dX1_add_11 : decode cX1_add 11 = .ok (.ireturn, 1) := by decide +kernel
theorem dX1_add_12 : decode cX1_add 12 = .ok (.aload_n 0, 1) := by decide +kernel
theorem dX1_add_13 : decode cX1_add 13 = .ok (.getfield 9, 3) := by decide +kernel
theorem dX1_add_16 : decode cX1_add 16 = .ok (.aload_n 0, 1) := by decide +kernel
theorem dX1_add_17 : decode cX1_add 17 = .ok (.getfield 15, 3) := by decide +kernel
theorem dX1_add_20 : decode cX1_add 20 = .ok (.iload_n 1, 1) := by decide +kernel
theorem dX1_add_21 : decode cX1_add 21 = .ok (.iastore, 1) := by decide +kernel
theorem dX1_add_22 : decode cX1_add 22 = .ok (.aload_n 0, 1) := by decide +kernel
theorem dX1_add_23 : decode cX1_add 23 = .ok (.dup, 1) := by decide +kernel
theorem dX1_add_24 : decode cX1_add 24 = .ok (.getfield 15, 3) := by decide +kernel
theorem dX1_add_27 : decode cX1_add 27 = .ok (.iconst 1, 1) := by decide +kernel
theorem dX1_add_28 : decode cX1_add 28 = .ok (.iadd, 1) := by decide +kernel
theorem dX1_add_29 : decode cX1_add 29 = .ok (.putfield 15, 3) := by decide +kernel
theorem dX1_add_32 : decode cX1_add 32 = .ok (.aload_n 0, 1) := by decide +kernel
theorem dX1_add_33 : decode cX1_add 33 = .ok (.getfield 15, 3) := by decide +kernel
theorem dX1_add_36 : decode cX1_add 36 = .ok (.ireturn, 1) := by decide +kernel
set_option maxRecDepth 20000 in
theorem ggX1_parse_X1_accepts : GoodIn wsX1_parse wsX1_accepts := goodIn_r _ [9, 10, 2, 11, 12, 13, 8, 14, 1, 15, 16, 17, 18, 19, 20, 21, 22, 23, 24, 25, 26, 27, 28, 29, 30, 31, 32, 33, 34, 35, 36] (by decide +kernel) (by decide +kernel)
set_option maxRecDepth 20000 in
theorem gX1_parse_X1_accepts : GoodIn wsX1_parse (wsV RX1 40 RX1 yX1_accepts wsX1_accepts) := goodIn_app (goodIn_of _ (by decide +kernel)) ggX1_parse_X1_accepts
theorem dX1_parse_0 : decode cX1_parse 0 = .ok (.aload_n 0, 1) := by decide +kernel
theorem dX1_parse_1 : decode cX1_parse 1 = .ok (.iconst 0, 1) := by decide +kernel
theorem dX1_parse_2 : decode cX1_parse 2 = .ok (.putfield 27, 3) := by decide +kernel
theorem dX1_parse_5 : decode cX1_parse 5 = .ok (.aload_n 0, 1) := by decide +kernel
theorem dX1_parse_6 : decode cX1_parse 6 = .ok (.iconst 0, 1) := by decide +kernel
theorem dX1_parse_7 : decode cX1_parse 7 = .ok (.putfield 30, 3) := by decide +kernel
theorem dX1_parse_10 : decode cX1_parse 10 = .ok (.iconst 0, 1) := by decide +kernel
theorem dX1_parse_11 : decode cX1_parse 11 = .ok (.istore_n 1, 1) := by decide +kernel
theorem dX1_parse_12 : decode cX1_parse 12 = .ok (.iload_n 1, 1) := by decide +kernel
theorem dX1_parse_13 : decode cX1_parse 13 = .ok (.aload_n 0, 1) := by decide +kernel
theorem dX1_parse_14 : decode cX1_parse 14 = .ok (.getfield 15, 3) := by decide +kernel
theorem dX1_parse_17 : decode cX1_parse 17 = .ok (.if_icmp .ge 24, 3) := by decide +kernel
theorem dX1_parse_20 : decode cX1_parse 20 = .ok (.aload_n 0, 1) := by decide +kernel
theorem dX1_parse_21 : decode cX1_parse 21 = .ok (.aload_n 0, 1) := by decide +kernel
theorem dX1_parse_22 : decode cX1_parse 22 = .ok (.getfield 9, 3) := by decide +kernel
theorem dX1_parse_25 : decode cX1_parse 25 = .ok (.iload_n 1, 1) := by decide +kernel
theorem dX1_parse_26 : decode cX1_parse 26 = .ok (.iaload, 1) := by decide +kernel
theorem dX1_parse_27 : decode cX1_parse 27 = .ok (.invokevirtual 40, 3) := by decide +kernel
theorem dX1_parse_30 : decode cX1_parse 30 = .ok (.ifCond .ne 5, 3) := by decide +kernel
theorem dX1_parse_33 : decode cX1_parse 33 = .ok (.iload_n 1, 1) := by decide +kernel
theorem dX1_parse_34 : decode cX1_parse 34 = .ok (.ireturn, 1) := by decide +kernel
theorem dX1_parse_35 : decode cX1_parse 35 = .ok (.iinc 1 1, 3) := by decide +kernel
theorem dX1_parse_38 : decode cX1_parse 38 = .ok (.goto (-26), 3) := by decide +kernel
theorem dX1_parse_41 : decode cX1_parse 41 = .ok (.aload_n 0, 1) := by decide +kernel
theorem dX1_parse_42 : decode cX1_parse 42 = .ok (.getfield 30, 3) := by decide +kernel
theorem dX1_parse_45 : decode cX1_parse 45 = .ok (.ifCond .ne 10, 3) := by decide +kernel
theorem dX1_parse_48 : decode cX1_parse 48 = .ok (.aload_n 0, 1) := by decide +kernel
theorem dX1_parse_49 : decode cX1_parse 49 = .ok (.getfield 27, 3) := by decide +kernel
theorem dX1_parse_52 : decode cX1_parse 52 = .ok (.ifCond .ne 10, 3) := by decide +kernel
theorem dX1_parse_55 : decode cX1_parse 55 = .ok (.aload_n 0, 1) := by decide +kernel
theorem dX1_parse_56 : decode cX1_parse 56 = .ok (.getfield 15, 3) := by decide +kernel
theorem dX1_parse_59 : decode cX1_parse 59 = .ok (.goto 4, 3) := by decide +kernel
theorem dX1_parse_62 : decode cX1_parse 62 = .ok (.iconst (-1), 1) := by decide +kernel
theorem dX1_parse_63 : decode cX1_parse 63 = .ok (.ireturn, 1) := by decide +kernel
set_option maxRecDepth 20000 in
theorem ggX1_accepts_X1_beginsCommand : GoodIn wsX1_accepts wsX1_beginsCommand := goodIn_r _ [7, 8, 9, 2, 10, 1, 11, 12, 6, 13, 23, 24, 25, 26, 27, 28, 29, 30] (by decide +kernel) (by decide +kernel)
set_option maxRecDepth 20000 in
theorem gX1_accepts_X1_beginsCommand : GoodIn wsX1_accepts (wsV RX1 44 RX1 yX1_beginsCommand wsX1_beginsCommand) := goodIn_app (goodIn_of _ (by decide +kernel)) ggX1_accepts_X1_beginsCommand
set_option maxRecDepth 20000 in
theorem ggX1_accepts_X1_endsCommand : GoodIn wsX1_accepts wsX1_endsCommand := goodIn_r _ [17, 10, 9, 8, 2, 11, 12, 6, 13, 23, 24, 25, 26, 27, 28, 29, 30] (by decide +kernel) (by decide +kernel)
set_option maxRecDepth 20000 in
theorem gX1_accepts_X1_endsCommand : GoodIn wsX1_accepts (wsV RX1 47 RX1 yX1_endsCommand wsX1_endsCommand) := goodIn_app (goodIn_of _ (by decide +kernel)) ggX1_accepts_X1_endsCommand
set_option maxRecDepth 20000 in
theorem ggX1_accepts_X1_takesDigit : GoodIn wsX1_accepts wsX1_takesDigit := goodIn_r _ [21, 1, 22, 8, 10, 9, 11, 12, 6, 13, 23, 24, 25, 26, 27, 28, 29, 30] (by decide +kernel) (by decide +kernel)
set_option maxRecDepth 20000 in
theorem gX1_accepts_X1_takesDigit : GoodIn wsX1_accepts (wsV RX1 51 RX1 yX1_takesDigit wsX1_takesDigit) := goodIn_app (goodIn_of _ (by decide +kernel)) ggX1_accepts_X1_takesDigit
theorem dX1_accepts_0 : decode cX1_accepts 0 = .ok (.iload_n 1, 1) := by decide +kernel
theorem dX1_accepts_1 : decode cX1_accepts 1 = .ok (.bipush 32, 2) := by decide +kernel
theorem dX1_accepts_3 : decode cX1_accepts 3 = .ok (.if_icmp .ne 10, 3) := by decide +kernel
theorem dX1_accepts_6 : decode cX1_accepts 6 = .ok (.aload_n 0, 1) := by decide +kernel
theorem dX1_accepts_7 : decode cX1_accepts 7 = .ok (.iconst 0, 1) := by decide +kernel
theorem dX1_accepts_8 : decode cX1_accepts 8 = .ok (.putfield 37, 3) := by decide +kernel
theorem dX1_accepts_11 : decode cX1_accepts 11 = .ok (.iconst 1, 1) := by decide +kernel
theorem dX1_accepts_12 : decode cX1_accepts 12 = .ok (.ireturn, 1) := by decide +kernel
theorem dX1_accepts_13 : decode cX1_accepts 13 = .ok (.aload_n 0, 1) := by decide +kernel
theorem dX1_accepts_14 : decode cX1_accepts 14 = .ok (.getfield 30, 3) := by decide +kernel
theorem dX1_accepts_17 : decode cX1_accepts 17 = .ok (.ifCond .ne 9, 3) := by decide +kernel
theorem dX1_accepts_20 : decode cX1_accepts 20 = .ok (.aload_n 0, 1) := by decide +kernel
theorem dX1_accepts_21 : decode cX1_accepts 21 = .ok (.iload_n 1, 1) := by decide +kernel
theorem dX1_accepts_22 : decode cX1_accepts 22 = .ok (.invokevirtual 44, 3) := by decide +kernel
theorem dX1_accepts_25 : decode cX1_accepts 25 = .ok (.ireturn, 1) := by decide +kernel
theorem dX1_accepts_26 : decode cX1_accepts 26 = .ok (.iload_n 1, 1) := by decide +kernel
theorem dX1_accepts_27 : decode cX1_accepts 27 = .ok (.bipush 59, 2) := by decide +kernel
theorem dX1_accepts_29 : decode cX1_accepts 29 = .ok (.if_icmp .ne 8, 3) := by decide +kernel
theorem dX1_accepts_32 : decode cX1_accepts 32 = .ok (.aload_n 0, 1) := by decide +kernel
theorem dX1_accepts_33 : decode cX1_accepts 33 = .ok (.invokevirtual 47, 3) := by decide +kernel
theorem dX1_accepts_36 : decode cX1_accepts 36 = .ok (.ireturn, 1) := by decide +kernel
theorem dX1_accepts_37 : decode cX1_accepts 37 = .ok (.iload_n 1, 1) := by decide +kernel
theorem dX1_accepts_38 : decode cX1_accepts 38 = .ok (.bipush 48, 2) := by decide +kernel
theorem dX1_accepts_40 : decode cX1_accepts 40 = .ok (.if_icmp .lt 24, 3) := by decide +kernel
theorem dX1_accepts_43 : decode cX1_accepts 43 = .ok (.iload_n 1, 1) := by decide +kernel
theorem dX1_accepts_44 : decode cX1_accepts 44 = .ok (.bipush 57, 2) := by decide +kernel
theorem dX1_accepts_46 : decode cX1_accepts 46 = .ok (.if_icmp .gt 18, 3) := by decide +kernel
theorem dX1_accepts_49 : decode cX1_accepts 49 = .ok (.aload_n 0, 1) := by decide +kernel
theorem dX1_accepts_50 : decode cX1_accepts 50 = .ok (.iload_n 1, 1) := by decide +kernel
theorem dX1_accepts_51 : decode cX1_accepts 51 = .ok (.bipush 48, 2) := by decide +kernel
theorem dX1_accepts_53 : decode cX1_accepts 53 = .ok (.isub, 1) := by decide +kernel
theorem dX1_accepts_54 : decode cX1_accepts 54 = .ok (.invokevirtual 51, 3) := by decide +kernel
theorem dX1_accepts_57 : decode cX1_accepts 57 = .ok (.ifCond .eq 7, 3) := by decide +kernel
theorem dX1_accepts_60 : decode cX1_accepts 60 = .ok (.iconst 1, 1) := by decide +kernel
theorem dX1_accepts_61 : decode cX1_accepts 61 = .ok (.goto 4, 3) := by decide +kernel
theorem dX1_accepts_64 : decode cX1_accepts 64 = .ok (.iconst 0, 1) := by decide +kernel
theorem dX1_accepts_65 : decode cX1_accepts 65 = .ok (.ireturn, 1) := by decide +kernel
set_option maxRecDepth 20000 in
theorem ggX1_beginsCommand_X1_numbersAfter : GoodIn wsX1_beginsCommand wsX1_numbersAfter := goodIn_r _ [9] (by decide +kernel) (by decide +kernel)
set_option maxRecDepth 20000 in
theorem gX1_beginsCommand_X1_numbersAfter : GoodIn wsX1_beginsCommand (va_wsS RX1 54 yX1_numbersAfter wsX1_numbersAfter) := goodIn_app (goodIn_of _ (by decide +kernel)) ggX1_beginsCommand_X1_numbersAfter
theorem dX1_beginsCommand_0 : decode cX1_beginsCommand 0 = .ok (.iload_n 1, 1) := by decide +kernel
theorem dX1_beginsCommand_1 : decode cX1_beginsCommand 1 = .ok (.invokestatic 54, 3) := by decide +kernel
theorem dX1_beginsCommand_4 : decode cX1_beginsCommand 4 = .ok (.ifCond .eq 12, 3) := by decide +kernel
theorem dX1_beginsCommand_7 : decode cX1_beginsCommand 7 = .ok (.aload_n 0, 1) := by decide +kernel
theorem dX1_beginsCommand_8 : decode cX1_beginsCommand 8 = .ok (.getfield 27, 3) := by decide +kernel
theorem dX1_beginsCommand_11 : decode cX1_beginsCommand 11 = .ok (.bipush 34, 2) := by decide +kernel
theorem dX1_beginsCommand_13 : decode cX1_beginsCommand 13 = .ok (.if_icmp .lt 5, 3) := by decide +kernel
theorem dX1_beginsCommand_16 : decode cX1_beginsCommand 16 = .ok (.iconst 0, 1) := by decide +kernel
theorem dX1_beginsCommand_17 : decode cX1_beginsCommand 17 = .ok (.ireturn, 1) := by decide +kernel
theorem dX1_beginsCommand_18 : decode cX1_beginsCommand 18 = .ok (.aload_n 0, 1) := by decide +kernel
theorem dX1_beginsCommand_19 : decode cX1_beginsCommand 19 = .ok (.getfield 19, 3) := by decide +kernel
theorem dX1_beginsCommand_22 : decode cX1_beginsCommand 22 = .ok (.aload_n 0, 1) := by decide +kernel
theorem dX1_beginsCommand_23 : decode cX1_beginsCommand 23 = .ok (.getfield 27, 3) := by decide +kernel
theorem dX1_beginsCommand_26 : decode cX1_beginsCommand 26 = .ok (.iload_n 1, 1) := by decide +kernel
theorem dX1_beginsCommand_27 : decode cX1_beginsCommand 27 = .ok (.iastore, 1) := by decide +kernel
theorem dX1_beginsCommand_28 : decode cX1_beginsCommand 28 = .ok (.aload_n 0, 1) := by decide +kernel
theorem dX1_beginsCommand_29 : decode cX1_beginsCommand 29 = .ok (.iconst 1, 1) := by decide +kernel
theorem dX1_beginsCommand_30 : decode cX1_beginsCommand 30 = .ok (.putfield 30, 3) := by decide +kernel
theorem dX1_beginsCommand_33 : decode cX1_beginsCommand 33 = .ok (.aload_n 0, 1) := by decide +kernel
theorem dX1_beginsCommand_34 : decode cX1_beginsCommand 34 = .ok (.iconst 0, 1) := by decide +kernel
theorem dX1_beginsCommand_35 : decode cX1_beginsCommand 35 = .ok (.putfield 34, 3) := by decide +kernel
theorem dX1_beginsCommand_38 : decode cX1_beginsCommand 38 = .ok (.aload_n 0, 1) := by decide +kernel
theorem dX1_beginsCommand_39 : decode cX1_beginsCommand 39 = .ok (.iconst 0, 1) := by decide +kernel
theorem dX1_beginsCommand_40 : decode cX1_beginsCommand 40 = .ok (.putfield 37, 3) := by decide +kernel
theorem dX1_beginsCommand_43 : decode cX1_beginsCommand 43 = .ok (.iconst 1, 1) := by decide +kernel
theorem dX1_beginsCommand_44 : decode cX1_beginsCommand 44 = .ok (.ireturn, 1) := by decide +kernel
set_option maxRecDepth 20000 in
theorem ggX1_endsCommand_X1_numbersAfter : GoodIn wsX1_endsCommand wsX1_numbersAfter := goodIn_r _ [8] (by decide +kernel) (by decide +kernel)
set_option maxRecDepth 20000 in
theorem gX1_endsCommand_X1_numbersAfter : GoodIn wsX1_endsCommand (va_wsS RX1 54 yX1_numbersAfter wsX1_numbersAfter) := goodIn_app (goodIn_of _ (by decide +kernel)) ggX1_endsCommand_X1_numbersAfter
theorem dX1_endsCommand_0 : decode cX1_endsCommand 0 = .ok (.aload_n 0, 1) := by decide +kernel
theorem dX1_endsCommand_1 : decode cX1_endsCommand 1 = .ok (.getfield 34, 3) := by decide +kernel
theorem dX1_endsCommand_4 : decode cX1_endsCommand 4 = .ok (.aload_n 0, 1) := by decide +kernel
theorem dX1_endsCommand_5 : decode cX1_endsCommand 5 = .ok (.getfield 19, 3) := by decide +kernel
theorem dX1_endsCommand_8 : decode cX1_endsCommand 8 = .ok (.aload_n 0, 1) := by decide +kernel
theorem dX1_endsCommand_9 : decode cX1_endsCommand 9 = .ok (.getfield 27, 3) := by decide +kernel
theorem dX1_endsCommand_12 : decode cX1_endsCommand 12 = .ok (.iaload, 1) := by decide +kernel
theorem dX1_endsCommand_13 : decode cX1_endsCommand 13 = .ok (.invokestatic 54, 3) := by decide +kernel
theorem dX1_endsCommand_16 : decode cX1_endsCommand 16 = .ok (.if_icmp .ge 5, 3) := by decide +kernel
theorem dX1_endsCommand_19 : decode cX1_endsCommand 19 = .ok (.iconst 0, 1) := by decide +kernel
theorem dX1_endsCommand_20 : decode cX1_endsCommand 20 = .ok (.ireturn, 1) := by decide +kernel
theorem dX1_endsCommand_21 : decode cX1_endsCommand 21 = .ok (.aload_n 0, 1) := by decide +kernel
theorem dX1_endsCommand_22 : decode cX1_endsCommand 22 = .ok (.iconst 0, 1) := by decide +kernel
theorem dX1_endsCommand_23 : decode cX1_endsCommand 23 = .ok (.putfield 30, 3) := by decide +kernel
theorem dX1_endsCommand_26 : decode cX1_endsCommand 26 = .ok (.aload_n 0, 1) := by decide +kernel
theorem dX1_endsCommand_27 : decode cX1_endsCommand 27 = .ok (.dup, 1) := by decide +kernel
theorem dX1_endsCommand_28 : decode cX1_endsCommand 28 = .ok (.getfield 27, 3) := by decide +kernel
theorem dX1_endsCommand_31 : decode cX1_endsCommand 31 = .ok (.iconst 1, 1) := by decide +kernel
theorem dX1_endsCommand_32 : decode cX1_endsCommand 32 = .ok (.iadd, 1) := by decide +kernel
theorem dX1_endsCommand_33 : decode cX1_endsCommand 33 = .ok (.putfield 27, 3) := by decide +kernel
theorem dX1_endsCommand_36 : decode cX1_endsCommand 36 = .ok (.iconst 1, 1) := by decide +kernel
theorem dX1_endsCommand_37 : decode cX1_endsCommand 37 = .ok (.ireturn, 1) := by decide +kernel
set_option maxRecDepth 20000 in
theorem ggX1_takesDigit_X1_numbersAfter : GoodIn wsX1_takesDigit wsX1_numbersAfter := goodIn_r _ [9] (by decide +kernel) (by decide +kernel)
set_option maxRecDepth 20000 in
theorem gX1_takesDigit_X1_numbersAfter : GoodIn wsX1_takesDigit (va_wsS RX1 54 yX1_numbersAfter wsX1_numbersAfter) := goodIn_app (goodIn_of _ (by decide +kernel)) ggX1_takesDigit_X1_numbersAfter
theorem dX1_takesDigit_0 : decode cX1_takesDigit 0 = .ok (.aload_n 0, 1) := by decide +kernel
theorem dX1_takesDigit_1 : decode cX1_takesDigit 1 = .ok (.getfield 37, 3) := by decide +kernel
theorem dX1_takesDigit_4 : decode cX1_takesDigit 4 = .ok (.iconst 2, 1) := by decide +kernel
theorem dX1_takesDigit_5 : decode cX1_takesDigit 5 = .ok (.if_icmp .lt 5, 3) := by decide +kernel
theorem dX1_takesDigit_8 : decode cX1_takesDigit 8 = .ok (.iconst 0, 1) := by decide +kernel
theorem dX1_takesDigit_9 : decode cX1_takesDigit 9 = .ok (.ireturn, 1) := by decide +kernel
theorem dX1_takesDigit_10 : decode cX1_takesDigit 10 = .ok (.aload_n 0, 1) := by decide +kernel
theorem dX1_takesDigit_11 : decode cX1_takesDigit 11 = .ok (.getfield 24, 3) := by decide +kernel
theorem dX1_takesDigit_14 : decode cX1_takesDigit 14 = .ok (.aload_n 0, 1) := by decide +kernel
theorem dX1_takesDigit_15 : decode cX1_takesDigit 15 = .ok (.getfield 27, 3) := by decide +kernel
theorem dX1_takesDigit_18 : decode cX1_takesDigit 18 = .ok (.aaload, 1) := by decide +kernel
theorem dX1_takesDigit_19 : decode cX1_takesDigit 19 = .ok (.astore_n 2, 1) := by decide +kernel
theorem dX1_takesDigit_20 : decode cX1_takesDigit 20 = .ok (.aload_n 0, 1) := by decide +kernel
theorem dX1_takesDigit_21 : decode cX1_takesDigit 21 = .ok (.getfield 37, 3) := by decide +kernel
theorem dX1_takesDigit_24 : decode cX1_takesDigit 24 = .ok (.ifCond .ne 41, 3) := by decide +kernel
theorem dX1_takesDigit_27 : decode cX1_takesDigit 27 = .ok (.aload_n 0, 1) := by decide +kernel
theorem dX1_takesDigit_28 : decode cX1_takesDigit 28 = .ok (.getfield 34, 3) := by decide +kernel
theorem dX1_takesDigit_31 : decode cX1_takesDigit 31 = .ok (.aload_n 0, 1) := by decide +kernel
theorem dX1_takesDigit_32 : decode cX1_takesDigit 32 = .ok (.getfield 19, 3) := by decide +kernel
theorem dX1_takesDigit_35 : decode cX1_takesDigit 35 = .ok (.aload_n 0, 1) := by decide +kernel
theorem dX1_takesDigit_36 : decode cX1_takesDigit 36 = .ok (.getfield 27, 3) := by decide +kernel
theorem dX1_takesDigit_39 : decode cX1_takesDigit 39 = .ok (.iaload, 1) := by decide +kernel
theorem dX1_takesDigit_40 : decode cX1_takesDigit 40 = .ok (.invokestatic 54, 3) := by decide +kernel
theorem dX1_takesDigit_43 : decode cX1_takesDigit 43 = .ok (.if_icmp .lt 5, 3) := by decide +kernel
theorem dX1_takesDigit_46 : decode cX1_takesDigit 46 = .ok (.iconst 0, 1) := by decide +kernel
theorem dX1_takesDigit_47 : decode cX1_takesDigit 47 = .ok (.ireturn, 1) := by decide +kernel
theorem dX1_takesDigit_48 : decode cX1_takesDigit 48 = .ok (.aload_n 2, 1) := by decide +kernel
theorem dX1_takesDigit_49 : decode cX1_takesDigit 49 = .ok (.aload_n 0, 1) := by decide +kernel
theorem dX1_takesDigit_50 : decode cX1_takesDigit 50 = .ok (.getfield 34, 3) := by decide +kernel
theorem dX1_takesDigit_53 : decode cX1_takesDigit 53 = .ok (.iconst 0, 1) := by decide +kernel
theorem dX1_takesDigit_54 : decode cX1_takesDigit 54 = .ok (.iastore, 1) := by decide +kernel
theorem dX1_takesDigit_55 : decode cX1_takesDigit 55 = .ok (.aload_n 0, 1) := by decide +kernel
theorem dX1_takesDigit_56 : decode cX1_takesDigit 56 = .ok (.dup, 1) := by decide +kernel
theorem dX1_takesDigit_57 : decode cX1_takesDigit 57 = .ok (.getfield 34, 3) := by decide +kernel
theorem dX1_takesDigit_60 : decode cX1_takesDigit 60 = .ok (.iconst 1, 1) := by decide +kernel
theorem dX1_takesDigit_61 : decode cX1_takesDigit 61 = .ok (.iadd, 1) := by decide +kernel
theorem dX1_takesDigit_62 : decode cX1_takesDigit 62 = .ok (.putfield 34, 3) := by decide +kernel
theorem dX1_takesDigit_65 : decode cX1_takesDigit 65 = .ok (.aload_n 0, 1) := by decide +kernel
theorem dX1_takesDigit_66 : decode cX1_takesDigit 66 = .ok (.dup, 1) := by decide +kernel
theorem dX1_takesDigit_67 : decode cX1_takesDigit 67 = .ok (.getfield 37, 3) := by decide +kernel
theorem dX1_takesDigit_70 : decode cX1_takesDigit 70 = .ok (.iconst 1, 1) := by decide +kernel
theorem dX1_takesDigit_71 : decode cX1_takesDigit 71 = .ok (.iadd, 1) := by decide +kernel
theorem dX1_takesDigit_72 : decode cX1_takesDigit 72 = .ok (.putfield 37, 3) := by decide +kernel
theorem dX1_takesDigit_75 : decode cX1_takesDigit 75 = .ok (.aload_n 2, 1) := by decide +kernel
theorem dX1_takesDigit_76 : decode cX1_takesDigit 76 = .ok (.aload_n 0, 1) := by decide +kernel
theorem dX1_takesDigit_77 : decode cX1_takesDigit 77 = .ok (.getfield 34, 3) := by decide +kernel
theorem dX1_takesDigit_80 : decode cX1_takesDigit 80 = .ok (.iconst 1, 1) := by decide +kernel
theorem dX1_takesDigit_81 : decode cX1_takesDigit 81 = .ok (.isub, 1) := by decide +kernel
theorem dX1_takesDigit_82 : decode cX1_takesDigit 82 = .ok (.bipush 10, 2) := by decide +kernel
theorem dX1_takesDigit_84 : decode cX1_takesDigit 84 = .ok (.aload_n 2, 1) := by decide +kernel
theorem dX1_takesDigit_85 : decode cX1_takesDigit 85 = .ok (.aload_n 0, 1) := by decide +kernel
theorem dX1_takesDigit_86 : decode cX1_takesDigit 86 = .ok (.getfield 34, 3) := by decide +kernel
theorem dX1_takesDigit_89 : decode cX1_takesDigit 89 = .ok (.iconst 1, 1) := by decide +kernel
theorem dX1_takesDigit_90 : decode cX1_takesDigit 90 = .ok (.isub, 1) := by decide +kernel
theorem dX1_takesDigit_91 : decode cX1_takesDigit 91 = .ok (.iaload, 1) := by decide +kernel
theorem dX1_takesDigit_92 : decode cX1_takesDigit 92 = .ok (.imul, 1) := by decide +kernel
theorem dX1_takesDigit_93 : decode cX1_takesDigit 93 = .ok (.iload_n 1, 1) := by decide +kernel
theorem dX1_takesDigit_94 : decode cX1_takesDigit 94 = .ok (.iadd, 1) := by decide +kernel
theorem dX1_takesDigit_95 : decode cX1_takesDigit 95 = .ok (.iastore, 1) := by decide +kernel
theorem dX1_takesDigit_96 : decode cX1_takesDigit 96 = .ok (.iconst 1, 1) := by decide +kernel
theorem dX1_takesDigit_97 : decode cX1_takesDigit 97 = .ok (.ireturn, 1) := by decide +kernel
theorem dX1_numbersAfter_0 : decode cX1_numbersAfter 0 = .ok (.iload_n 0, 1) := by decide +kernel
theorem dX1_numbersAfter_1 : decode cX1_numbersAfter 1 = .ok (.lookupswitch 59 #[(102, 51), (103, 53), (114, 55), (115, 53), (119, 57)], 51) := by decide +kernel
theorem dX1_numbersAfter_52 : decode cX1_numbersAfter 52 = .ok (.iconst 1, 1) := by decide +kernel
theorem dX1_numbersAfter_53 : decode cX1_numbersAfter 53 = .ok (.ireturn, 1) := by decide +kernel
theorem dX1_numbersAfter_54 : decode cX1_numbersAfter 54 = .ok (.iconst 2, 1) := by decide +kernel
theorem dX1_numbersAfter_55 : decode cX1_numbersAfter 55 = .ok (.ireturn, 1) := by decide +kernel
theorem dX1_numbersAfter_56 : decode cX1_numbersAfter 56 = .ok (.iconst 3, 1) := by decide +kernel
theorem dX1_numbersAfter_57 : decode cX1_numbersAfter 57 = .ok (.ireturn, 1) := by decide +kernel
theorem dX1_numbersAfter_58 : decode cX1_numbersAfter 58 = .ok (.iconst 4, 1) := by decide +kernel
theorem dX1_numbersAfter_59 : decode cX1_numbersAfter 59 = .ok (.ireturn, 1) := by decide +kernel
theorem dX1_numbersAfter_60 : decode cX1_numbersAfter 60 = .ok (.iconst 0, 1) := by decide +kernel
theorem dX1_numbersAfter_61 : decode cX1_numbersAfter 61 = .ok (.ireturn, 1) := by decide +kernel
theorem dX2_init_0 : decode cX2_init 0 = .ok (.aload_n 0, 1) := by decide +kernel
theorem dX2_init_1 : decode cX2_init 1 = .ok (.invokespecial 3, 3) := by decide +kernel
theorem dX2_init_4 : decode cX2_init 4 = .ok (.aload_n 0, 1) := by decide +kernel
theorem dX2_init_5 : decode cX2_init 5 = .ok (.iconst 0, 1) := by decide +kernel
theorem dX2_init_6 : decode cX2_init 6 = .ok (.putfield 9, 3) := by decide +kernel
theorem dX2_init_9 : decode cX2_init 9 = .ok (.aload_n 0, 1) := by decide +kernel
theorem dX2_init_10 : decode cX2_init 10 = .ok (.bipush 60, 2) := by decide +kernel
theorem dX2_init_12 : decode cX2_init 12 = .ok (.newarray .int, 2) := by decide +kernel
theorem dX2_init_14 : decode cX2_init 14 = .ok (.putfield 15, 3) := by decide +kernel
theorem dX2_init_17 : decode cX2_init 17 = .ok (.aload_n 0, 1) := by decide +kernel
theorem dX2_init_18 : decode cX2_init 18 = .ok (.bipush 60, 2) := by decide +kernel
theorem dX2_init_20 : decode cX2_init 20 = .ok (.newarray .int, 2) := by decide +kernel
theorem dX2_init_22 : decode cX2_init 22 = .ok (.putfield 19, 3) := by decide +kernel
theorem dX2_init_25 : decode cX2_init 25 = .ok (.aload_n 0, 1) := by decide +kernel
theorem dX2_init_26 : decode cX2_init 26 = .ok (.bipush 60, 2) := by decide +kernel
theorem dX2_init_28 : decode cX2_init 28 = .ok (.newarray .int, 2) := by decide +kernel
theorem dX2_init_30 : decode cX2_init 30 = .ok (.putfield 22, 3) := by decide +kernel
theorem dX2_init_33 : decode cX2_init 33 = .ok (.aload_n 0, 1) := by decide +kernel
theorem dX2_init_34 : decode cX2_init 34 = .ok (.bipush 60, 2) := by decide +kernel
theorem dX2_init_36 : decode cX2_init 36 = .ok (.newarray .int, 2) := by decide +kernel
theorem dX2_init_38 : decode cX2_init 38 = .ok (.putfield 25, 3) := by decide +kernel
theorem dX2_init_41 : decode cX2_init 41 = .ok (.aload_n 0, 1) := by decide +kernel
theorem dX2_init_42 : decode cX2_init 42 = .ok (.bipush 60, 2) := by decide +kernel
theorem dX2_init_44 : decode cX2_init 44 = .ok (.newarray .int, 2) := by decide +kernel
theorem dX2_init_46 : decode cX2_init 46 = .ok (.putfield 28, 3) := by decide +kernel
theorem dX2_init_49 : decode cX2_init 49 = .ok (.aload_n 0, 1) := by decide +kernel
theorem dX2_init_50 : decode cX2_init 50 = .ok (.iconst 3, 1) := by decide +kernel
theorem dX2_init_51 : decode cX2_init 51 = .ok (.iconst 3, 1) := by decide +kernel
theorem dX2_init_52 : decode cX2_init 52 = .ok (.multianewarray 31 2, 4) := by decide +kernel
theorem dX2_init_56 : decode cX2_init 56 = .ok (.putfield 33, 3) := by decide +kernel
theorem dX2_init_59 : decode cX2_init 59 = .ok (.aload_n 0, 1) := by decide +kernel
theorem dX2_init_60 : decode cX2_init 60 = .ok (.iconst 3, 1) := by decide +kernel
theorem dX2_init_61 : decode cX2_init 61 = .ok (.newarray .int, 2) := by decide +kernel
theorem dX2_init_63 : decode cX2_init 63 = .ok (.putfield 36, 3) := by decide +kernel
theorem dX2_init_66 : decode cX2_init 66 = .ok (.aload_n 0, 1) := by decide +kernel
theorem dX2_init_67 : decode cX2_init 67 = .ok (.iconst 4, 1) := by decide +kernel
theorem dX2_init_68 : decode cX2_init 68 = .ok (.newarray .int, 2) := by decide +kernel
theorem dX2_init_70 : decode cX2_init 70 = .ok (.putfield 39, 3) := by decide +kernel
theorem dX2_init_73 : decode cX2_init 73 = .ok (.aload_n 0, 1) := by decide +kernel
theorem dX2_init_74 : decode cX2_init 74 = .ok (.iconst 4, 1) := by decide +kernel
theorem dX2_init_75 : decode cX2_init 75 = .ok (.iconst 3, 1) := by decide +kernel
theorem dX2_init_76 : decode cX2_init 76 = .ok (.multianewarray 31 2, 4) := by decide +kernel
theorem dX2_init_80 : decode cX2_init 80 = .ok (.putfield 42, 3) := by decide +kernel
theorem dX2_init_83 : decode cX2_init 83 = .ok (.aload_n 0, 1) := by decide +kernel
theorem dX2_init_84 : decode cX2_init 84 = .ok (.iconst 4, 1) := by decide +kernel
theorem dX2_init_85 : decode cX2_init 85 = .ok (.iconst 3, 1) := by decide +kernel
theorem dX2_init_86 : decode cX2_init 86 = .ok (.multianewarray 31 2, 4) := by decide +kernel
theorem dX2_init_90 : decode cX2_init 90 = .ok (.putfield 45, 3) := by decide +kernel
theorem dX2_init_93 : decode cX2_init 93 = .ok (.aload_n 0, 1) := by decide +kernel
theorem dX2_init_94 : decode cX2_init 94 = .ok (.iconst 4, 1) := by decide +kernel
theorem dX2_init_95 : decode cX2_init 95 = .ok (.newarray .int, 2) := by decide +kernel
theorem dX2_init_97 : decode cX2_init 97 = .ok (.putfield 48, 3) := by decide +kernel
theorem dX2_init_100 : decode cX2_init 100 = .ok (.return_, 1) := by decide +kernel
set_option maxRecDepth 20000 in
theorem ggX2_copyFrom_X2_copyRow : GoodIn wsX2_copyFrom wsX2_copyRow := goodIn_r _ [16, 17, 18, 19, 20, 21, 22, 23, 24] (by decide +kernel) (by decide +kernel)
set_option maxRecDepth 20000 in
theorem gX2_copyFrom_X2_copyRow : GoodIn wsX2_copyFrom (va_wsS RX2 51 yX2_copyRow wsX2_copyRow) := goodIn_app (goodIn_of _ (by decide +kernel)) ggX2_copyFrom_X2_copyRow
set_option maxRecDepth 20000 in
theorem ggX2_copyFrom_X2_copyRows : GoodIn wsX2_copyFrom wsX2_copyRows := goodIn_r _ [27, 13, 14, 15, 16, 17, 18, 19, 20, 21, 22, 23, 24] (by decide +kernel) (by decide +kernel)
set_option maxRecDepth 20000 in
theorem gX2_copyFrom_X2_copyRows : GoodIn wsX2_copyFrom (va_wsS RX2 55 yX2_copyRows wsX2_copyRows) := goodIn_app (goodIn_of _ (by decide +kernel)) ggX2_copyFrom_X2_copyRows
theorem dX2_copyFrom_0 : decode cX2_copyFrom 0 = .ok (.aload_n 0, 1) := by decide +kernel
theorem dX2_copyFrom_1 : decode cX2_copyFrom 1 = .ok (.aload_n 1, 1) := by decide +kernel
theorem dX2_copyFrom_2 : decode cX2_copyFrom 2 = .ok (.getfield 9, 3) := by decide +kernel
theorem dX2_copyFrom_5 : decode cX2_copyFrom 5 = .ok (.putfield 9, 3) := by decide +kernel
theorem dX2_copyFrom_8 : decode cX2_copyFrom 8 = .ok (.aload_n 1, 1) := by decide +kernel
theorem dX2_copyFrom_9 : decode cX2_copyFrom 9 = .ok (.getfield 15, 3) := by decide +kernel
theorem dX2_copyFrom_12 : decode cX2_copyFrom 12 = .ok (.aload_n 0, 1) := by decide +kernel
theorem dX2_copyFrom_13 : decode cX2_copyFrom 13 = .ok (.getfield 15, 3) := by decide +kernel
theorem dX2_copyFrom_16 : decode cX2_copyFrom 16 = .ok (.invokestatic 51, 3) := by decide +kernel
theorem dX2_copyFrom_19 : decode cX2_copyFrom 19 = .ok (.aload_n 1, 1) := by decide +kernel
theorem dX2_copyFrom_20 : decode cX2_copyFrom 20 = .ok (.getfield 19, 3) := by decide +kernel
theorem dX2_copyFrom_23 : decode cX2_copyFrom 23 = .ok (.aload_n 0, 1) := by decide +kernel
theorem dX2_copyFrom_24 : decode cX2_copyFrom 24 = .ok (.getfield 19, 3) := by decide +kernel
theorem dX2_copyFrom_27 : decode cX2_copyFrom 27 = .ok (.invokestatic 51, 3) := by decide +kernel
theorem dX2_copyFrom_30 : decode cX2_copyFrom 30 = .ok (.aload_n 1, 1) := by decide +kernel
theorem dX2_copyFrom_31 : decode cX2_copyFrom 31 = .ok (.getfield 22, 3) := by decide +kernel
theorem dX2_copyFrom_34 : decode cX2_copyFrom 34 = .ok (.aload_n 0, 1) := by decide +kernel
theorem dX2_copyFrom_35 : decode cX2_copyFrom 35 = .ok (.getfield 22, 3) := by decide +kernel
theorem dX2_copyFrom_38 : decode cX2_copyFrom 38 = .ok (.invokestatic 51, 3) := by decide +kernel
theorem dX2_copyFrom_41 : decode cX2_copyFrom 41 = .ok (.aload_n 1, 1) := by decide +kernel
theorem dX2_copyFrom_42 : decode cX2_copyFrom 42 = .ok (.getfield 25, 3) := by decide +kernel
theorem dX2_copyFrom_45 : decode cX2_copyFrom 45 = .ok (.aload_n 0, 1) := by decide +kernel
theorem dX2_copyFrom_46 : decode cX2_copyFrom 46 = .ok (.getfield 25, 3) := by decide +kernel
theorem dX2_copyFrom_49 : decode cX2_copyFrom 49 = .ok (.invokestatic 51, 3) := by decide +kernel
theorem dX2_copyFrom_52 : decode cX2_copyFrom 52 = .ok (.aload_n 1, 1) := by decide +kernel
theorem dX2_copyFrom_53 : decode cX2_copyFrom 53 = .ok (.getfield 28, 3) := by decide +kernel
theorem dX2_copyFrom_56 : decode cX2_copyFrom 56 = .ok (.aload_n 0, 1) := by decide +kernel
theorem dX2_copyFrom_57 : decode cX2_copyFrom 57 = .ok (.getfield 28, 3) := by decide +kernel
theorem dX2_copyFrom_60 : decode cX2_copyFrom 60 = .ok (.invokestatic 51, 3) := by decide +kernel
theorem dX2_copyFrom_63 : decode cX2_copyFrom 63 = .ok (.aload_n 1, 1) := by decide +kernel
theorem dX2_copyFrom_64 : decode cX2_copyFrom 64 = .ok (.getfield 33, 3) := by decide +kernel
theorem dX2_copyFrom_67 : decode cX2_copyFrom 67 = .ok (.aload_n 0, 1) := by decide +kernel
theorem dX2_copyFrom_68 : decode cX2_copyFrom 68 = .ok (.getfield 33, 3) := by decide +kernel
theorem dX2_copyFrom_71 : decode cX2_copyFrom 71 = .ok (.invokestatic 55, 3) := by decide +kernel
theorem dX2_copyFrom_74 : decode cX2_copyFrom 74 = .ok (.aload_n 1, 1) := by decide +kernel
theorem dX2_copyFrom_75 : decode cX2_copyFrom 75 = .ok (.getfield 36, 3) := by decide +kernel
theorem dX2_copyFrom_78 : decode cX2_copyFrom 78 = .ok (.aload_n 0, 1) := by decide +kernel
theorem dX2_copyFrom_79 : decode cX2_copyFrom 79 = .ok (.getfield 36, 3) := by decide +kernel
theorem dX2_copyFrom_82 : decode cX2_copyFrom 82 = .ok (.invokestatic 51, 3) := by decide +kernel
theorem dX2_copyFrom_85 : decode cX2_copyFrom 85 = .ok (.aload_n 1, 1) := by decide +kernel
theorem dX2_copyFrom_86 : decode cX2_copyFrom 86 = .ok (.getfield 39, 3) := by decide +kernel
theorem dX2_copyFrom_89 : decode cX2_copyFrom 89 = .ok (.aload_n 0, 1) := by decide +kernel
theorem dX2_copyFrom_90 : decode cX2_copyFrom 90 = .ok (.getfield 39, 3) := by decide +kernel
theorem dX2_copyFrom_93 : decode cX2_copyFrom 93 = .ok (.invokestatic 51, 3) := by decide +kernel
theorem dX2_copyFrom_96 : decode cX2_copyFrom 96 = .ok (.aload_n 1, 1) := by decide +kernel
theorem dX2_copyFrom_97 : decode cX2_copyFrom 97 = .ok (.getfield 42, 3) := by decide +kernel
theorem dX2_copyFrom_100 : decode cX2_copyFrom 100 = .ok (.aload_n 0, 1) := by decide +kernel
theorem dX2_copyFrom_101 : decode cX2_copyFrom 101 = .ok (.getfield 42, 3) := by decide +kernel
theorem dX2_copyFrom_104 : decode cX2_copyFrom 104 = .ok (.invokestatic 55, 3) := by decide +kernel
theorem dX2_copyFrom_107 : decode cX2_copyFrom 107 = .ok (.aload_n 1, 1) := by decide +kernel
theorem dX2_copyFrom_108 : decode cX2_copyFrom 108 = .ok (.getfield 45, 3) := by decide +kernel
theorem dX2_copyFrom_111 : decode cX2_copyFrom 111 = .ok (.aload_n 0, 1) := by decide +kernel
theorem dX2_copyFrom_112 : decode cX2_copyFrom 112 = .ok (.getfield 45, 3) := by decide +kernel
theorem dX2_copyFrom_115 : decode cX2_copyFrom 115 = .ok (.invokestatic 55, 3) := by decide +kernel
theorem dX2_copyFrom_118 : decode cX2_copyFrom 118 = .ok (.aload_n 1, 1) := by decide +kernel
theorem dX2_copyFrom_119 : decode cX2_copyFrom 119 = .ok (.getfield 48, 3) := by decide +kernel
theorem dX2_copyFrom_122 : decode cX2_copyFrom 122 = .ok (.aload_n 0, 1) := by decide +kernel
theorem dX2_copyFrom_123 : decode cX2_copyFrom 123 = .ok (.getfield 48, 3) := by decide +kernel
theorem dX2_copyFrom_126 : decode cX2_copyFrom 126 = .ok (.invokestatic 51, 3) := by decide +kernel
theorem dX2_copyFrom_129 : decode cX2_copyFrom 129 = .ok (.return_, 1) := by decide +kernel
set_option maxRecDepth 20000 in
theorem ggX2_changeGuarantees_X3_isClient : GoodIn wsX2_changeGuarantees wsX3_isClient := goodIn_r _ [4, 5, 6, 3, 7] (by decide +kernel) (by decide +kernel)
set_option maxRecDepth 20000 in
theorem gX2_changeGuarantees_X3_isClient_n59 : GoodIn wsX2_changeGuarantees (wsX3_isClient) := ggX2_changeGuarantees_X3_isClient
set_option maxRecDepth 20000 in
theorem ggX2_changeGuarantees_X3_isBelow : GoodIn wsX2_changeGuarantees wsX3_isBelow := goodIn_r _ [7] (by decide +kernel) (by decide +kernel)
set_option maxRecDepth 20000 in
theorem gX2_changeGuarantees_X3_isBelow_n63 : GoodIn wsX2_changeGuarantees (wsX3_isBelow) := ggX2_changeGuarantees_X3_isBelow
theorem dX2_changeGuarantees_0 : decode cX2_changeGuarantees 0 = .ok (.iload_n 1, 1) := by decide +kernel
theorem dX2_changeGuarantees_1 : decode cX2_changeGuarantees 1 = .ok (.invokestatic 59, 3) := by decide +kernel
theorem dX2_changeGuarantees_4 : decode cX2_changeGuarantees 4 = .ok (.ifCond .eq 12, 3) := by decide +kernel
theorem dX2_changeGuarantees_7 : decode cX2_changeGuarantees 7 = .ok (.iload_n 2, 1) := by decide +kernel
theorem dX2_changeGuarantees_8 : decode cX2_changeGuarantees 8 = .ok (.bipush 16, 2) := by decide +kernel
theorem dX2_changeGuarantees_10 : decode cX2_changeGuarantees 10 = .ok (.invokestatic 63, 3) := by decide +kernel
theorem dX2_changeGuarantees_13 : decode cX2_changeGuarantees 13 = .ok (.ifCond .ne 6, 3) := by decide +kernel
theorem dX2_changeGuarantees_16 : decode cX2_changeGuarantees 16 = .ok (.bipush (-2), 2) := by decide +kernel
theorem dX2_changeGuarantees_18 : decode cX2_changeGuarantees 18 = .ok (.ireturn, 1) := by decide +kernel
theorem dX2_changeGuarantees_19 : decode cX2_changeGuarantees 19 = .ok (.aload_n 0, 1) := by decide +kernel
theorem dX2_changeGuarantees_20 : decode cX2_changeGuarantees 20 = .ok (.getfield 39, 3) := by decide +kernel
theorem dX2_changeGuarantees_23 : decode cX2_changeGuarantees 23 = .ok (.iload_n 1, 1) := by decide +kernel
theorem dX2_changeGuarantees_24 : decode cX2_changeGuarantees 24 = .ok (.iaload, 1) := by decide +kernel
theorem dX2_changeGuarantees_25 : decode cX2_changeGuarantees 25 = .ok (.istore_n 3, 1) := by decide +kernel
theorem dX2_changeGuarantees_26 : decode cX2_changeGuarantees 26 = .ok (.aload_n 0, 1) := by decide +kernel
theorem dX2_changeGuarantees_27 : decode cX2_changeGuarantees 27 = .ok (.getfield 39, 3) := by decide +kernel
theorem dX2_changeGuarantees_30 : decode cX2_changeGuarantees 30 = .ok (.iload_n 1, 1) := by decide +kernel
theorem dX2_changeGuarantees_31 : decode cX2_changeGuarantees 31 = .ok (.iload_n 2, 1) := by decide +kernel
theorem dX2_changeGuarantees_32 : decode cX2_changeGuarantees 32 = .ok (.iastore, 1) := by decide +kernel
theorem dX2_changeGuarantees_33 : decode cX2_changeGuarantees 33 = .ok (.iload_n 3, 1) := by decide +kernel
theorem dX2_changeGuarantees_34 : decode cX2_changeGuarantees 34 = .ok (.ireturn, 1) := by decide +kernel
set_option maxRecDepth 20000 in
theorem ggX2_clearVectors_X3_isClient : GoodIn wsX2_clearVectors wsX3_isClient := goodIn_r _ [5, 6, 7, 4, 8] (by decide +kernel) (by decide +kernel)
set_option maxRecDepth 20000 in
theorem gX2_clearVectors_X3_isClient_n59 : GoodIn wsX2_clearVectors (wsX3_isClient) := ggX2_clearVectors_X3_isClient
theorem dX2_clearVectors_0 : decode cX2_clearVectors 0 = .ok (.iload_n 1, 1) := by decide +kernel
theorem dX2_clearVectors_1 : decode cX2_clearVectors 1 = .ok (.invokestatic 59, 3) := by decide +kernel
theorem dX2_clearVectors_4 : decode cX2_clearVectors 4 = .ok (.ifCond .ne 6, 3) := by decide +kernel
theorem dX2_clearVectors_7 : decode cX2_clearVectors 7 = .ok (.bipush (-2), 2) := by decide +kernel
theorem dX2_clearVectors_9 : decode cX2_clearVectors 9 = .ok (.ireturn, 1) := by decide +kernel
theorem dX2_clearVectors_10 : decode cX2_clearVectors 10 = .ok (.iconst 0, 1) := by decide +kernel
theorem dX2_clearVectors_11 : decode cX2_clearVectors 11 = .ok (.istore_n 2, 1) := by decide +kernel
theorem dX2_clearVectors_12 : decode cX2_clearVectors 12 = .ok (.iconst 0, 1) := by decide +kernel
theorem dX2_clearVectors_13 : decode cX2_clearVectors 13 = .ok (.istore_n 3, 1) := by decide +kernel
theorem dX2_clearVectors_14 : decode cX2_clearVectors 14 = .ok (.iload_n 3, 1) := by decide +kernel
theorem dX2_clearVectors_15 : decode cX2_clearVectors 15 = .ok (.iconst 3, 1) := by decide +kernel
theorem dX2_clearVectors_16 : decode cX2_clearVectors 16 = .ok (.if_icmp .ge 47, 3) := by decide +kernel
theorem dX2_clearVectors_19 : decode cX2_clearVectors 19 = .ok (.iload_n 2, 1) := by decide +kernel
theorem dX2_clearVectors_20 : decode cX2_clearVectors 20 = .ok (.aload_n 0, 1) := by decide +kernel
theorem dX2_clearVectors_21 : decode cX2_clearVectors 21 = .ok (.getfield 42, 3) := by decide +kernel
theorem dX2_clearVectors_24 : decode cX2_clearVectors 24 = .ok (.iload_n 1, 1) := by decide +kernel
theorem dX2_clearVectors_25 : decode cX2_clearVectors 25 = .ok (.aaload, 1) := by decide +kernel
theorem dX2_clearVectors_26 : decode cX2_clearVectors 26 = .ok (.iload_n 3, 1) := by decide +kernel
theorem dX2_clearVectors_27 : decode cX2_clearVectors 27 = .ok (.iaload, 1) := by decide +kernel
theorem dX2_clearVectors_28 : decode cX2_clearVectors 28 = .ok (.aload_n 0, 1) := by decide +kernel
theorem dX2_clearVectors_29 : decode cX2_clearVectors 29 = .ok (.getfield 45, 3) := by decide +kernel
theorem dX2_clearVectors_32 : decode cX2_clearVectors 32 = .ok (.iload_n 1, 1) := by decide +kernel
theorem dX2_clearVectors_33 : decode cX2_clearVectors 33 = .ok (.aaload, 1) := by decide +kernel
theorem dX2_clearVectors_34 : decode cX2_clearVectors 34 = .ok (.iload_n 3, 1) := by decide +kernel
theorem dX2_clearVectors_35 : decode cX2_clearVectors 35 = .ok (.iaload, 1) := by decide +kernel
theorem dX2_clearVectors_36 : decode cX2_clearVectors 36 = .ok (.iadd, 1) := by decide +kernel
theorem dX2_clearVectors_37 : decode cX2_clearVectors 37 = .ok (.iadd, 1) := by decide +kernel
theorem dX2_clearVectors_38 : decode cX2_clearVectors 38 = .ok (.istore_n 2, 1) := by decide +kernel
theorem dX2_clearVectors_39 : decode cX2_clearVectors 39 = .ok (.aload_n 0, 1) := by decide +kernel
theorem dX2_clearVectors_40 : decode cX2_clearVectors 40 = .ok (.getfield 42, 3) := by decide +kernel
theorem dX2_clearVectors_43 : decode cX2_clearVectors 43 = .ok (.iload_n 1, 1) := by decide +kernel
theorem dX2_clearVectors_44 : decode cX2_clearVectors 44 = .ok (.aaload, 1) := by decide +kernel
theorem dX2_clearVectors_45 : decode cX2_clearVectors 45 = .ok (.iload_n 3, 1) := by decide +kernel
theorem dX2_clearVectors_46 : decode cX2_clearVectors 46 = .ok (.iconst 0, 1) := by decide +kernel
theorem dX2_clearVectors_47 : decode cX2_clearVectors 47 = .ok (.iastore, 1) := by decide +kernel
theorem dX2_clearVectors_48 : decode cX2_clearVectors 48 = .ok (.aload_n 0, 1) := by decide +kernel
theorem dX2_clearVectors_49 : decode cX2_clearVectors 49 = .ok (.getfield 45, 3) := by decide +kernel
theorem dX2_clearVectors_52 : decode cX2_clearVectors 52 = .ok (.iload_n 1, 1) := by decide +kernel
theorem dX2_clearVectors_53 : decode cX2_clearVectors 53 = .ok (.aaload, 1) := by decide +kernel
theorem dX2_clearVectors_54 : decode cX2_clearVectors 54 = .ok (.iload_n 3, 1) := by decide +kernel
theorem dX2_clearVectors_55 : decode cX2_clearVectors 55 = .ok (.iconst 0, 1) := by decide +kernel
theorem dX2_clearVectors_56 : decode cX2_clearVectors 56 = .ok (.iastore, 1) := by decide +kernel
theorem dX2_clearVectors_57 : decode cX2_clearVectors 57 = .ok (.iinc 3 1, 3) := by decide +kernel
theorem dX2_clearVectors_60 : decode cX2_clearVectors 60 = .ok (.goto (-46), 3) := by decide +kernel
theorem dX2_clearVectors_63 : decode cX2_clearVectors 63 = .ok (.iload_n 2, 1) := by decide +kernel
theorem dX2_clearVectors_64 : decode cX2_clearVectors 64 = .ok (.ireturn, 1) := by decide +kernel
set_option maxRecDepth 20000 in
theorem ggX2_readKey_X3_isClient : GoodIn wsX2_readKey wsX3_isClient := goodIn_r _ [6, 7, 8, 5, 9] (by decide +kernel) (by decide +kernel)
set_option maxRecDepth 20000 in
theorem gX2_readKey_X3_isClient_n59 : GoodIn wsX2_readKey (wsX3_isClient) := ggX2_readKey_X3_isClient
set_option maxRecDepth 20000 in
theorem ggX2_readKey_X3_isReplica : GoodIn wsX2_readKey wsX3_isReplica := goodIn_r _ [11, 7, 8, 5, 9] (by decide +kernel) (by decide +kernel)
set_option maxRecDepth 20000 in
theorem gX2_readKey_X3_isReplica_n67 : GoodIn wsX2_readKey (wsX3_isReplica) := ggX2_readKey_X3_isReplica
set_option maxRecDepth 20000 in
theorem ggX2_readKey_X3_isKey : GoodIn wsX2_readKey wsX3_isKey := goodIn_r _ [13, 7, 8, 5, 9] (by decide +kernel) (by decide +kernel)
set_option maxRecDepth 20000 in
theorem gX2_readKey_X3_isKey_n70 : GoodIn wsX2_readKey (wsX3_isKey) := ggX2_readKey_X3_isKey
set_option maxRecDepth 20000 in
theorem ggX2_readKey_X3_only : GoodIn wsX2_readKey wsX3_only := goodIn_r _ [15] (by decide +kernel) (by decide +kernel)
set_option maxRecDepth 20000 in
theorem gX2_readKey_X3_only_n73 : GoodIn wsX2_readKey (wsX3_only) := ggX2_readKey_X3_only
set_option maxRecDepth 20000 in
theorem ggX2_readKey_X2_unmetByRead : GoodIn wsX2_readKey wsX2_unmetByRead := goodIn_r _ [20, 21, 3, 22, 23, 24, 19, 25, 26, 27, 28, 29, 2, 30, 31, 32, 33, 34, 5, 35, 62, 63, 64, 65, 66, 67, 68, 69, 70, 71, 72, 73] (by decide +kernel) (by decide +kernel)
set_option maxRecDepth 20000 in
theorem gX2_readKey_X2_unmetByRead : GoodIn wsX2_readKey (wsV RX2 77 RX2 yX2_unmetByRead wsX2_unmetByRead) := goodIn_app (goodIn_of _ (by decide +kernel)) ggX2_readKey_X2_unmetByRead
set_option maxRecDepth 20000 in
theorem ggX2_readKey_X2_countBreaches : GoodIn wsX2_readKey wsX2_countBreaches := goodIn_r _ [39, 40, 34, 5, 35, 62, 63, 64, 65, 66, 67, 68, 69, 70, 71, 72, 73] (by decide +kernel) (by decide +kernel)
set_option maxRecDepth 20000 in
theorem gX2_readKey_X2_countBreaches : GoodIn wsX2_readKey (wsV RX2 81 RX2 yX2_countBreaches wsX2_countBreaches) := goodIn_app (goodIn_of _ (by decide +kernel)) ggX2_readKey_X2_countBreaches
set_option maxRecDepth 20000 in
theorem ggX2_readKey_X2_merge : GoodIn wsX2_readKey wsX2_merge := goodIn_r _ [43, 30, 31, 32, 33] (by decide +kernel) (by decide +kernel)
set_option maxRecDepth 20000 in
theorem gX2_readKey_X2_merge : GoodIn wsX2_readKey (va_wsS RX2 85 yX2_merge wsX2_merge) := goodIn_app (goodIn_of _ (by decide +kernel)) ggX2_readKey_X2_merge
set_option maxRecDepth 20000 in
theorem ggX2_readKey_X2_valueAt : GoodIn wsX2_readKey wsX2_valueAt := goodIn_r _ [47, 48, 49, 50, 51, 52, 53, 19, 54, 55, 2, 56, 57, 58, 59, 60, 61, 62, 63, 64, 65, 66, 67, 68, 69, 70, 71, 72, 73] (by decide +kernel) (by decide +kernel)
set_option maxRecDepth 20000 in
theorem gX2_readKey_X2_valueAt : GoodIn wsX2_readKey (wsV RX2 88 RX2 yX2_valueAt wsX2_valueAt) := goodIn_app (goodIn_of _ (by decide +kernel)) ggX2_readKey_X2_valueAt
theorem dX2_readKey_0 : decode cX2_readKey 0 = .ok (.iload_n 1, 1) := by decide +kernel
theorem dX2_readKey_1 : decode cX2_readKey 1 = .ok (.invokestatic 59, 3) := by decide +kernel
theorem dX2_readKey_4 : decode cX2_readKey 4 = .ok (.ifCond .eq 17, 3) := by decide +kernel
theorem dX2_readKey_7 : decode cX2_readKey 7 = .ok (.iload_n 2, 1) := by decide +kernel
theorem dX2_readKey_8 : decode cX2_readKey 8 = .ok (.invokestatic 67, 3) := by decide +kernel
theorem dX2_readKey_11 : decode cX2_readKey 11 = .ok (.ifCond .eq 10, 3) := by decide +kernel
theorem dX2_readKey_14 : decode cX2_readKey 14 = .ok (.iload_n 3, 1) := by decide +kernel
theorem dX2_readKey_15 : decode cX2_readKey 15 = .ok (.invokestatic 70, 3) := by decide +kernel
theorem dX2_readKey_18 : decode cX2_readKey 18 = .ok (.ifCond .ne 6, 3) := by decide +kernel
theorem dX2_readKey_21 : decode cX2_readKey 21 = .ok (.bipush (-2), 2) := by decide +kernel
theorem dX2_readKey_23 : decode cX2_readKey 23 = .ok (.ireturn, 1) := by decide +kernel
theorem dX2_readKey_24 : decode cX2_readKey 24 = .ok (.aload_n 0, 1) := by decide +kernel
theorem dX2_readKey_25 : decode cX2_readKey 25 = .ok (.iload_n 1, 1) := by decide +kernel
theorem dX2_readKey_26 : decode cX2_readKey 26 = .ok (.iload_n 2, 1) := by decide +kernel
theorem dX2_readKey_27 : decode cX2_readKey 27 = .ok (.invokestatic 73, 3) := by decide +kernel
theorem dX2_readKey_30 : decode cX2_readKey 30 = .ok (.invokevirtual 77, 3) := by decide +kernel
theorem dX2_readKey_33 : decode cX2_readKey 33 = .ok (.istore 4, 2) := by decide +kernel
theorem dX2_readKey_35 : decode cX2_readKey 35 = .ok (.iload 4, 2) := by decide +kernel
theorem dX2_readKey_37 : decode cX2_readKey 37 = .ok (.aload_n 0, 1) := by decide +kernel
theorem dX2_readKey_38 : decode cX2_readKey 38 = .ok (.getfield 39, 3) := by decide +kernel
theorem dX2_readKey_41 : decode cX2_readKey 41 = .ok (.iload_n 1, 1) := by decide +kernel
theorem dX2_readKey_42 : decode cX2_readKey 42 = .ok (.iaload, 1) := by decide +kernel
theorem dX2_readKey_43 : decode cX2_readKey 43 = .ok (.iand, 1) := by decide +kernel
theorem dX2_readKey_44 : decode cX2_readKey 44 = .ok (.ifCond .eq 6, 3) := by decide +kernel
theorem dX2_readKey_47 : decode cX2_readKey 47 = .ok (.bipush (-3), 2) := by decide +kernel
theorem dX2_readKey_49 : decode cX2_readKey 49 = .ok (.ireturn, 1) := by decide +kernel
theorem dX2_readKey_50 : decode cX2_readKey 50 = .ok (.aload_n 0, 1) := by decide +kernel
theorem dX2_readKey_51 : decode cX2_readKey 51 = .ok (.iload 4, 2) := by decide +kernel
theorem dX2_readKey_53 : decode cX2_readKey 53 = .ok (.invokevirtual 81, 3) := by decide +kernel
theorem dX2_readKey_56 : decode cX2_readKey 56 = .ok (.aload_n 0, 1) := by decide +kernel
theorem dX2_readKey_57 : decode cX2_readKey 57 = .ok (.getfield 33, 3) := by decide +kernel
theorem dX2_readKey_60 : decode cX2_readKey 60 = .ok (.iload_n 2, 1) := by decide +kernel
theorem dX2_readKey_61 : decode cX2_readKey 61 = .ok (.aaload, 1) := by decide +kernel
theorem dX2_readKey_62 : decode cX2_readKey 62 = .ok (.aload_n 0, 1) := by decide +kernel
theorem dX2_readKey_63 : decode cX2_readKey 63 = .ok (.getfield 42, 3) := by decide +kernel
theorem dX2_readKey_66 : decode cX2_readKey 66 = .ok (.iload_n 1, 1) := by decide +kernel
theorem dX2_readKey_67 : decode cX2_readKey 67 = .ok (.aaload, 1) := by decide +kernel
theorem dX2_readKey_68 : decode cX2_readKey 68 = .ok (.invokestatic 85, 3) := by decide +kernel
theorem dX2_readKey_71 : decode cX2_readKey 71 = .ok (.aload_n 0, 1) := by decide +kernel
theorem dX2_readKey_72 : decode cX2_readKey 72 = .ok (.iload_n 2, 1) := by decide +kernel
theorem dX2_readKey_73 : decode cX2_readKey 73 = .ok (.iload_n 3, 1) := by decide +kernel
theorem dX2_readKey_74 : decode cX2_readKey 74 = .ok (.invokevirtual 88, 3) := by decide +kernel
theorem dX2_readKey_77 : decode cX2_readKey 77 = .ok (.ireturn, 1) := by decide +kernel
set_option maxRecDepth 20000 in
theorem ggX2_writeKey_X3_isClient : GoodIn wsX2_writeKey wsX3_isClient := goodIn_r _ [13, 14, 15, 12, 16] (by decide +kernel) (by decide +kernel)
set_option maxRecDepth 20000 in
theorem gX2_writeKey_X3_isClient_n59 : GoodIn wsX2_writeKey (wsX3_isClient) := ggX2_writeKey_X3_isClient
set_option maxRecDepth 20000 in
theorem ggX2_writeKey_X3_isReplica : GoodIn wsX2_writeKey wsX3_isReplica := goodIn_r _ [18, 14, 15, 12, 16] (by decide +kernel) (by decide +kernel)
set_option maxRecDepth 20000 in
theorem gX2_writeKey_X3_isReplica_n67 : GoodIn wsX2_writeKey (wsX3_isReplica) := ggX2_writeKey_X3_isReplica
set_option maxRecDepth 20000 in
theorem ggX2_writeKey_X3_isKey : GoodIn wsX2_writeKey wsX3_isKey := goodIn_r _ [20, 14, 15, 12, 16] (by decide +kernel) (by decide +kernel)
set_option maxRecDepth 20000 in
theorem gX2_writeKey_X3_isKey_n70 : GoodIn wsX2_writeKey (wsX3_isKey) := ggX2_writeKey_X3_isKey
set_option maxRecDepth 20000 in
theorem ggX2_writeKey_X3_isBelow : GoodIn wsX2_writeKey wsX3_isBelow := goodIn_r _ [16] (by decide +kernel) (by decide +kernel)
set_option maxRecDepth 20000 in
theorem gX2_writeKey_X3_isBelow_n63 : GoodIn wsX2_writeKey (wsX3_isBelow) := ggX2_writeKey_X3_isBelow
set_option maxRecDepth 20000 in
theorem ggX2_writeKey_X2_unmetByWrite : GoodIn wsX2_writeKey wsX2_unmetByWrite := goodIn_r _ [25, 26, 5, 27, 12, 28, 29, 30, 31, 24, 32, 33, 34, 35, 36, 4, 37, 38, 39, 40, 41, 42, 48, 49, 50, 51, 52, 53, 54, 55, 56, 57, 58, 59] (by decide +kernel) (by decide +kernel)
set_option maxRecDepth 20000 in
theorem gX2_writeKey_X2_unmetByWrite : GoodIn wsX2_writeKey (wsV RX2 91 RX2 yX2_unmetByWrite wsX2_unmetByWrite) := goodIn_app (goodIn_of _ (by decide +kernel)) ggX2_writeKey_X2_unmetByWrite
set_option maxRecDepth 20000 in
theorem ggX2_writeKey_X2_countBreaches : GoodIn wsX2_writeKey wsX2_countBreaches := goodIn_r _ [46, 47, 41, 12, 42, 48, 49, 50, 51, 52, 53, 54, 55, 56, 57, 58, 59] (by decide +kernel) (by decide +kernel)
set_option maxRecDepth 20000 in
theorem gX2_writeKey_X2_countBreaches : GoodIn wsX2_writeKey (wsV RX2 81 RX2 yX2_countBreaches wsX2_countBreaches) := goodIn_app (goodIn_of _ (by decide +kernel)) ggX2_writeKey_X2_countBreaches
theorem dX2_writeKey_0 : decode cX2_writeKey 0 = .ok (.iload_n 1, 1) := by decide +kernel
theorem dX2_writeKey_1 : decode cX2_writeKey 1 = .ok (.invokestatic 59, 3) := by decide +kernel
theorem dX2_writeKey_4 : decode cX2_writeKey 4 = .ok (.ifCond .eq 27, 3) := by decide +kernel
theorem dX2_writeKey_7 : decode cX2_writeKey 7 = .ok (.iload_n 2, 1) := by decide +kernel
theorem dX2_writeKey_8 : decode cX2_writeKey 8 = .ok (.invokestatic 67, 3) := by decide +kernel
theorem dX2_writeKey_11 : decode cX2_writeKey 11 = .ok (.ifCond .eq 20, 3) := by decide +kernel
theorem dX2_writeKey_14 : decode cX2_writeKey 14 = .ok (.iload_n 3, 1) := by decide +kernel
theorem dX2_writeKey_15 : decode cX2_writeKey 15 = .ok (.invokestatic 70, 3) := by decide +kernel
theorem dX2_writeKey_18 : decode cX2_writeKey 18 = .ok (.ifCond .eq 13, 3) := by decide +kernel
theorem dX2_writeKey_21 : decode cX2_writeKey 21 = .ok (.iload 4, 2) := by decide +kernel
theorem dX2_writeKey_23 : decode cX2_writeKey 23 = .ok (.bipush 100, 2) := by decide +kernel
theorem dX2_writeKey_25 : decode cX2_writeKey 25 = .ok (.invokestatic 63, 3) := by decide +kernel
theorem dX2_writeKey_28 : decode cX2_writeKey 28 = .ok (.ifCond .ne 6, 3) := by decide +kernel
theorem dX2_writeKey_31 : decode cX2_writeKey 31 = .ok (.bipush (-2), 2) := by decide +kernel
theorem dX2_writeKey_33 : decode cX2_writeKey 33 = .ok (.ireturn, 1) := by decide +kernel
theorem dX2_writeKey_34 : decode cX2_writeKey 34 = .ok (.aload_n 0, 1) := by decide +kernel
theorem dX2_writeKey_35 : decode cX2_writeKey 35 = .ok (.iload_n 1, 1) := by decide +kernel
theorem dX2_writeKey_36 : decode cX2_writeKey 36 = .ok (.iload_n 2, 1) := by decide +kernel
theorem dX2_writeKey_37 : decode cX2_writeKey 37 = .ok (.invokevirtual 91, 3) := by decide +kernel
theorem dX2_writeKey_40 : decode cX2_writeKey 40 = .ok (.istore 5, 2) := by decide +kernel
theorem dX2_writeKey_42 : decode cX2_writeKey 42 = .ok (.iload 5, 2) := by decide +kernel
theorem dX2_writeKey_44 : decode cX2_writeKey 44 = .ok (.aload_n 0, 1) := by decide +kernel
theorem dX2_writeKey_45 : decode cX2_writeKey 45 = .ok (.getfield 39, 3) := by decide +kernel
theorem dX2_writeKey_48 : decode cX2_writeKey 48 = .ok (.iload_n 1, 1) := by decide +kernel
theorem dX2_writeKey_49 : decode cX2_writeKey 49 = .ok (.iaload, 1) := by decide +kernel
theorem dX2_writeKey_50 : decode cX2_writeKey 50 = .ok (.iand, 1) := by decide +kernel
theorem dX2_writeKey_51 : decode cX2_writeKey 51 = .ok (.ifCond .eq 6, 3) := by decide +kernel
theorem dX2_writeKey_54 : decode cX2_writeKey 54 = .ok (.bipush (-3), 2) := by decide +kernel
theorem dX2_writeKey_56 : decode cX2_writeKey 56 = .ok (.ireturn, 1) := by decide +kernel
theorem dX2_writeKey_57 : decode cX2_writeKey 57 = .ok (.aload_n 0, 1) := by decide +kernel
theorem dX2_writeKey_58 : decode cX2_writeKey 58 = .ok (.getfield 9, 3) := by decide +kernel
theorem dX2_writeKey_61 : decode cX2_writeKey 61 = .ok (.bipush 60, 2) := by decide +kernel
theorem dX2_writeKey_63 : decode cX2_writeKey 63 = .ok (.if_icmp .lt 6, 3) := by decide +kernel
theorem dX2_writeKey_66 : decode cX2_writeKey 66 = .ok (.bipush (-4), 2) := by decide +kernel
theorem dX2_writeKey_68 : decode cX2_writeKey 68 = .ok (.ireturn, 1) := by decide +kernel
theorem dX2_writeKey_69 : decode cX2_writeKey 69 = .ok (.aload_n 0, 1) := by decide +kernel
theorem dX2_writeKey_70 : decode cX2_writeKey 70 = .ok (.iload 5, 2) := by decide +kernel
theorem dX2_writeKey_72 : decode cX2_writeKey 72 = .ok (.invokevirtual 81, 3) := by decide +kernel
theorem dX2_writeKey_75 : decode cX2_writeKey 75 = .ok (.aload_n 0, 1) := by decide +kernel
theorem dX2_writeKey_76 : decode cX2_writeKey 76 = .ok (.getfield 36, 3) := by decide +kernel
theorem dX2_writeKey_79 : decode cX2_writeKey 79 = .ok (.iload_n 2, 1) := by decide +kernel
theorem dX2_writeKey_80 : decode cX2_writeKey 80 = .ok (.dup2, 1) := by decide +kernel
theorem dX2_writeKey_81 : decode cX2_writeKey 81 = .ok (.iaload, 1) := by decide +kernel
theorem dX2_writeKey_82 : decode cX2_writeKey 82 = .ok (.iconst 1, 1) := by decide +kernel
theorem dX2_writeKey_83 : decode cX2_writeKey 83 = .ok (.iadd, 1) := by decide +kernel
theorem dX2_writeKey_84 : decode cX2_writeKey 84 = .ok (.iastore, 1) := by decide +kernel
theorem dX2_writeKey_85 : decode cX2_writeKey 85 = .ok (.aload_n 0, 1) := by decide +kernel
theorem dX2_writeKey_86 : decode cX2_writeKey 86 = .ok (.getfield 33, 3) := by decide +kernel
theorem dX2_writeKey_89 : decode cX2_writeKey 89 = .ok (.iload_n 2, 1) := by decide +kernel
theorem dX2_writeKey_90 : decode cX2_writeKey 90 = .ok (.aaload, 1) := by decide +kernel
theorem dX2_writeKey_91 : decode cX2_writeKey 91 = .ok (.iload_n 2, 1) := by decide +kernel
theorem dX2_writeKey_92 : decode cX2_writeKey 92 = .ok (.dup2, 1) := by decide +kernel
theorem dX2_writeKey_93 : decode cX2_writeKey 93 = .ok (.iaload, 1) := by decide +kernel
theorem dX2_writeKey_94 : decode cX2_writeKey 94 = .ok (.iconst 1, 1) := by decide +kernel
theorem dX2_writeKey_95 : decode cX2_writeKey 95 = .ok (.iadd, 1) := by decide +kernel
theorem dX2_writeKey_96 : decode cX2_writeKey 96 = .ok (.iastore, 1) := by decide +kernel
theorem dX2_writeKey_97 : decode cX2_writeKey 97 = .ok (.aload_n 0, 1) := by decide +kernel
theorem dX2_writeKey_98 : decode cX2_writeKey 98 = .ok (.getfield 45, 3) := by decide +kernel
theorem dX2_writeKey_101 : decode cX2_writeKey 101 = .ok (.iload_n 1, 1) := by decide +kernel
theorem dX2_writeKey_102 : decode cX2_writeKey 102 = .ok (.aaload, 1) := by decide +kernel
theorem dX2_writeKey_103 : decode cX2_writeKey 103 = .ok (.iload_n 2, 1) := by decide +kernel
theorem dX2_writeKey_104 : decode cX2_writeKey 104 = .ok (.aload_n 0, 1) := by decide +kernel
theorem dX2_writeKey_105 : decode cX2_writeKey 105 = .ok (.getfield 33, 3) := by decide +kernel
theorem dX2_writeKey_108 : decode cX2_writeKey 108 = .ok (.iload_n 2, 1) := by decide +kernel
theorem dX2_writeKey_109 : decode cX2_writeKey 109 = .ok (.aaload, 1) := by decide +kernel
theorem dX2_writeKey_110 : decode cX2_writeKey 110 = .ok (.iload_n 2, 1) := by decide +kernel
theorem dX2_writeKey_111 : decode cX2_writeKey 111 = .ok (.iaload, 1) := by decide +kernel
theorem dX2_writeKey_112 : decode cX2_writeKey 112 = .ok (.iastore, 1) := by decide +kernel
theorem dX2_writeKey_113 : decode cX2_writeKey 113 = .ok (.aload_n 0, 1) := by decide +kernel
theorem dX2_writeKey_114 : decode cX2_writeKey 114 = .ok (.getfield 15, 3) := by decide +kernel
theorem dX2_writeKey_117 : decode cX2_writeKey 117 = .ok (.aload_n 0, 1) := by decide +kernel
theorem dX2_writeKey_118 : decode cX2_writeKey 118 = .ok (.getfield 9, 3) := by decide +kernel
theorem dX2_writeKey_121 : decode cX2_writeKey 121 = .ok (.iload_n 2, 1) := by decide +kernel
theorem dX2_writeKey_122 : decode cX2_writeKey 122 = .ok (.iastore, 1) := by decide +kernel
theorem dX2_writeKey_123 : decode cX2_writeKey 123 = .ok (.aload_n 0, 1) := by decide +kernel
theorem dX2_writeKey_124 : decode cX2_writeKey 124 = .ok (.getfield 19, 3) := by decide +kernel
theorem dX2_writeKey_127 : decode cX2_writeKey 127 = .ok (.aload_n 0, 1) := by decide +kernel
theorem dX2_writeKey_128 : decode cX2_writeKey 128 = .ok (.getfield 9, 3) := by decide +kernel
theorem dX2_writeKey_131 : decode cX2_writeKey 131 = .ok (.aload_n 0, 1) := by decide +kernel
theorem dX2_writeKey_132 : decode cX2_writeKey 132 = .ok (.getfield 33, 3) := by decide +kernel
theorem dX2_writeKey_135 : decode cX2_writeKey 135 = .ok (.iload_n 2, 1) := by decide +kernel
theorem dX2_writeKey_136 : decode cX2_writeKey 136 = .ok (.aaload, 1) := by decide +kernel
theorem dX2_writeKey_137 : decode cX2_writeKey 137 = .ok (.iload_n 2, 1) := by decide +kernel
theorem dX2_writeKey_138 : decode cX2_writeKey 138 = .ok (.iaload, 1) := by decide +kernel
theorem dX2_writeKey_139 : decode cX2_writeKey 139 = .ok (.iastore, 1) := by decide +kernel
theorem dX2_writeKey_140 : decode cX2_writeKey 140 = .ok (.aload_n 0, 1) := by decide +kernel
theorem dX2_writeKey_141 : decode cX2_writeKey 141 = .ok (.getfield 22, 3) := by decide +kernel
theorem dX2_writeKey_144 : decode cX2_writeKey 144 = .ok (.aload_n 0, 1) := by decide +kernel
theorem dX2_writeKey_145 : decode cX2_writeKey 145 = .ok (.getfield 9, 3) := by decide +kernel
theorem dX2_writeKey_148 : decode cX2_writeKey 148 = .ok (.iload_n 3, 1) := by decide +kernel
theorem dX2_writeKey_149 : decode cX2_writeKey 149 = .ok (.iastore, 1) := by decide +kernel
theorem dX2_writeKey_150 : decode cX2_writeKey 150 = .ok (.aload_n 0, 1) := by decide +kernel
theorem dX2_writeKey_151 : decode cX2_writeKey 151 = .ok (.getfield 25, 3) := by decide +kernel
theorem dX2_writeKey_154 : decode cX2_writeKey 154 = .ok (.aload_n 0, 1) := by decide +kernel
theorem dX2_writeKey_155 : decode cX2_writeKey 155 = .ok (.getfield 9, 3) := by decide +kernel
theorem dX2_writeKey_158 : decode cX2_writeKey 158 = .ok (.iload 4, 2) := by decide +kernel
theorem dX2_writeKey_160 : decode cX2_writeKey 160 = .ok (.iastore, 1) := by decide +kernel
theorem dX2_writeKey_161 : decode cX2_writeKey 161 = .ok (.aload_n 0, 1) := by decide +kernel
theorem dX2_writeKey_162 : decode cX2_writeKey 162 = .ok (.getfield 28, 3) := by decide +kernel
theorem dX2_writeKey_165 : decode cX2_writeKey 165 = .ok (.aload_n 0, 1) := by decide +kernel
theorem dX2_writeKey_166 : decode cX2_writeKey 166 = .ok (.getfield 9, 3) := by decide +kernel
theorem dX2_writeKey_169 : decode cX2_writeKey 169 = .ok (.aload_n 0, 1) := by decide +kernel
theorem dX2_writeKey_170 : decode cX2_writeKey 170 = .ok (.getfield 36, 3) := by decide +kernel
theorem dX2_writeKey_173 : decode cX2_writeKey 173 = .ok (.iload_n 2, 1) := by decide +kernel
theorem dX2_writeKey_174 : decode cX2_writeKey 174 = .ok (.iaload, 1) := by decide +kernel
theorem dX2_writeKey_175 : decode cX2_writeKey 175 = .ok (.iastore, 1) := by decide +kernel
theorem dX2_writeKey_176 : decode cX2_writeKey 176 = .ok (.aload_n 0, 1) := by decide +kernel
theorem dX2_writeKey_177 : decode cX2_writeKey 177 = .ok (.dup, 1) := by decide +kernel
theorem dX2_writeKey_178 : decode cX2_writeKey 178 = .ok (.getfield 9, 3) := by decide +kernel
theorem dX2_writeKey_181 : decode cX2_writeKey 181 = .ok (.iconst 1, 1) := by decide +kernel
theorem dX2_writeKey_182 : decode cX2_writeKey 182 = .ok (.iadd, 1) := by decide +kernel
theorem dX2_writeKey_183 : decode cX2_writeKey 183 = .ok (.putfield 9, 3) := by decide +kernel
theorem dX2_writeKey_186 : decode cX2_writeKey 186 = .ok (.aload_n 0, 1) := by decide +kernel
theorem dX2_writeKey_187 : decode cX2_writeKey 187 = .ok (.getfield 33, 3) := by decide +kernel
theorem dX2_writeKey_190 : decode cX2_writeKey 190 = .ok (.iload_n 2, 1) := by decide +kernel
theorem dX2_writeKey_191 : decode cX2_writeKey 191 = .ok (.aaload, 1) := by decide +kernel
theorem dX2_writeKey_192 : decode cX2_writeKey 192 = .ok (.iload_n 2, 1) := by decide +kernel
theorem dX2_writeKey_193 : decode cX2_writeKey 193 = .ok (.iaload, 1) := by decide +kernel
theorem dX2_writeKey_194 : decode cX2_writeKey 194 = .ok (.ireturn, 1) := by decide +kernel
set_option maxRecDepth 20000 in
theorem ggX2_synchronize_X3_isReplica : GoodIn wsX2_synchronize wsX3_isReplica := goodIn_r _ [11, 12, 13, 10, 14] (by decide +kernel) (by decide +kernel)
set_option maxRecDepth 20000 in
theorem gX2_synchronize_X3_isReplica_n67 : GoodIn wsX2_synchronize (wsX3_isReplica) := ggX2_synchronize_X3_isReplica
set_option maxRecDepth 20000 in
theorem ggX2_synchronize_X2_knows : GoodIn wsX2_synchronize wsX2_knows := goodIn_r _ [19, 20, 8, 21, 25, 26, 27, 28, 29, 30, 31, 32, 33, 34, 35, 36] (by decide +kernel) (by decide +kernel)
set_option maxRecDepth 20000 in
theorem gX2_synchronize_X2_knows : GoodIn wsX2_synchronize (wsV RX2 94 RX2 yX2_knows wsX2_knows) := goodIn_app (goodIn_of _ (by decide +kernel)) ggX2_synchronize_X2_knows
set_option maxRecDepth 20000 in
theorem ggX2_synchronize_X2_merge : GoodIn wsX2_synchronize wsX2_merge := goodIn_r _ [24, 4, 5, 6, 7] (by decide +kernel) (by decide +kernel)
set_option maxRecDepth 20000 in
theorem gX2_synchronize_X2_merge : GoodIn wsX2_synchronize (va_wsS RX2 85 yX2_merge wsX2_merge) := goodIn_app (goodIn_of _ (by decide +kernel)) ggX2_synchronize_X2_merge
theorem dX2_synchronize_0 : decode cX2_synchronize 0 = .ok (.iload_n 1, 1) := by decide +kernel
theorem dX2_synchronize_1 : decode cX2_synchronize 1 = .ok (.invokestatic 67, 3) := by decide +kernel
theorem dX2_synchronize_4 : decode cX2_synchronize 4 = .ok (.ifCond .eq 15, 3) := by decide +kernel
theorem dX2_synchronize_7 : decode cX2_synchronize 7 = .ok (.iload_n 2, 1) := by decide +kernel
theorem dX2_synchronize_8 : decode cX2_synchronize 8 = .ok (.invokestatic 67, 3) := by decide +kernel
theorem dX2_synchronize_11 : decode cX2_synchronize 11 = .ok (.ifCond .eq 8, 3) := by decide +kernel
theorem dX2_synchronize_14 : decode cX2_synchronize 14 = .ok (.iload_n 1, 1) := by decide +kernel
theorem dX2_synchronize_15 : decode cX2_synchronize 15 = .ok (.iload_n 2, 1) := by decide +kernel
theorem dX2_synchronize_16 : decode cX2_synchronize 16 = .ok (.if_icmp .ne 6, 3) := by decide +kernel
theorem dX2_synchronize_19 : decode cX2_synchronize 19 = .ok (.bipush (-2), 2) := by decide +kernel
theorem dX2_synchronize_21 : decode cX2_synchronize 21 = .ok (.ireturn, 1) := by decide +kernel
theorem dX2_synchronize_22 : decode cX2_synchronize 22 = .ok (.iconst 0, 1) := by decide +kernel
theorem dX2_synchronize_23 : decode cX2_synchronize 23 = .ok (.istore_n 3, 1) := by decide +kernel
theorem dX2_synchronize_24 : decode cX2_synchronize 24 = .ok (.iconst 0, 1) := by decide +kernel
theorem dX2_synchronize_25 : decode cX2_synchronize 25 = .ok (.istore 4, 2) := by decide +kernel
theorem dX2_synchronize_27 : decode cX2_synchronize 27 = .ok (.iload 4, 2) := by decide +kernel
theorem dX2_synchronize_29 : decode cX2_synchronize 29 = .ok (.aload_n 0, 1) := by decide +kernel
theorem dX2_synchronize_30 : decode cX2_synchronize 30 = .ok (.getfield 9, 3) := by decide +kernel
theorem dX2_synchronize_33 : decode cX2_synchronize 33 = .ok (.if_icmp .ge 54, 3) := by decide +kernel
theorem dX2_synchronize_36 : decode cX2_synchronize 36 = .ok (.aload_n 0, 1) := by decide +kernel
theorem dX2_synchronize_37 : decode cX2_synchronize 37 = .ok (.iload_n 1, 1) := by decide +kernel
theorem dX2_synchronize_38 : decode cX2_synchronize 38 = .ok (.iload 4, 2) := by decide +kernel
theorem dX2_synchronize_40 : decode cX2_synchronize 40 = .ok (.invokevirtual 94, 3) := by decide +kernel
theorem dX2_synchronize_43 : decode cX2_synchronize 43 = .ok (.ifCond .eq 38, 3) := by decide +kernel
theorem dX2_synchronize_46 : decode cX2_synchronize 46 = .ok (.aload_n 0, 1) := by decide +kernel
theorem dX2_synchronize_47 : decode cX2_synchronize 47 = .ok (.iload_n 2, 1) := by decide +kernel
theorem dX2_synchronize_48 : decode cX2_synchronize 48 = .ok (.iload 4, 2) := by decide +kernel
theorem dX2_synchronize_50 : decode cX2_synchronize 50 = .ok (.invokevirtual 94, 3) := by decide +kernel
theorem dX2_synchronize_53 : decode cX2_synchronize 53 = .ok (.ifCond .ne 28, 3) := by decide +kernel
theorem dX2_synchronize_56 : decode cX2_synchronize 56 = .ok (.iinc 3 1, 3) := by decide +kernel
theorem dX2_synchronize_59 : decode cX2_synchronize 59 = .ok (.aload_n 0, 1) := by decide +kernel
theorem dX2_synchronize_60 : decode cX2_synchronize 60 = .ok (.getfield 36, 3) := by decide +kernel
theorem dX2_synchronize_63 : decode cX2_synchronize 63 = .ok (.iload_n 2, 1) := by decide +kernel
theorem dX2_synchronize_64 : decode cX2_synchronize 64 = .ok (.aload_n 0, 1) := by decide +kernel
theorem dX2_synchronize_65 : decode cX2_synchronize 65 = .ok (.getfield 36, 3) := by decide +kernel
theorem dX2_synchronize_68 : decode cX2_synchronize 68 = .ok (.iload_n 2, 1) := by decide +kernel
theorem dX2_synchronize_69 : decode cX2_synchronize 69 = .ok (.iaload, 1) := by decide +kernel
theorem dX2_synchronize_70 : decode cX2_synchronize 70 = .ok (.aload_n 0, 1) := by decide +kernel
theorem dX2_synchronize_71 : decode cX2_synchronize 71 = .ok (.getfield 28, 3) := by decide +kernel
theorem dX2_synchronize_74 : decode cX2_synchronize 74 = .ok (.iload 4, 2) := by decide +kernel
theorem dX2_synchronize_76 : decode cX2_synchronize 76 = .ok (.iaload, 1) := by decide +kernel
theorem dX2_synchronize_77 : decode cX2_synchronize 77 = .ok (.invokestatic 97, 3) := by decide +kernel
theorem dX2_synchronize_80 : decode cX2_synchronize 80 = .ok (.iastore, 1) := by decide +kernel
theorem dX2_synchronize_81 : decode cX2_synchronize 81 = .ok (.iinc 4 1, 3) := by decide +kernel
theorem dX2_synchronize_84 : decode cX2_synchronize 84 = .ok (.goto (-57), 3) := by decide +kernel
theorem dX2_synchronize_87 : decode cX2_synchronize 87 = .ok (.aload_n 0, 1) := by decide +kernel
theorem dX2_synchronize_88 : decode cX2_synchronize 88 = .ok (.getfield 33, 3) := by decide +kernel
theorem dX2_synchronize_91 : decode cX2_synchronize 91 = .ok (.iload_n 1, 1) := by decide +kernel
theorem dX2_synchronize_92 : decode cX2_synchronize 92 = .ok (.aaload, 1) := by decide +kernel
theorem dX2_synchronize_93 : decode cX2_synchronize 93 = .ok (.aload_n 0, 1) := by decide +kernel
theorem dX2_synchronize_94 : decode cX2_synchronize 94 = .ok (.getfield 33, 3) := by decide +kernel
theorem dX2_synchronize_97 : decode cX2_synchronize 97 = .ok (.iload_n 2, 1) := by decide +kernel
theorem dX2_synchronize_98 : decode cX2_synchronize 98 = .ok (.aaload, 1) := by decide +kernel
theorem dX2_synchronize_99 : decode cX2_synchronize 99 = .ok (.invokestatic 85, 3) := by decide +kernel
theorem dX2_synchronize_102 : decode cX2_synchronize 102 = .ok (.iload_n 3, 1) := by decide +kernel
theorem dX2_synchronize_103 : decode cX2_synchronize 103 = .ok (.ireturn, 1) := by decide +kernel
set_option maxRecDepth 20000 in
theorem ggX2_isReadAllowed_X2_unmetByRead : GoodIn wsX2_isReadAllowed wsX2_unmetByRead := goodIn_r _ [6, 7, 8, 9, 10, 11, 5, 12, 13, 14, 15, 16, 17, 18, 19, 20, 21, 22, 23, 24, 25, 26, 27, 28, 29, 30, 31, 32, 33, 34, 35, 36] (by decide +kernel) (by decide +kernel)
set_option maxRecDepth 20000 in
theorem gX2_isReadAllowed_X2_unmetByRead : GoodIn wsX2_isReadAllowed (wsV RX2 77 RX2 yX2_unmetByRead wsX2_unmetByRead) := goodIn_app (goodIn_of _ (by decide +kernel)) ggX2_isReadAllowed_X2_unmetByRead
theorem dX2_isReadAllowed_0 : decode cX2_isReadAllowed 0 = .ok (.aload_n 0, 1) := by decide +kernel
theorem dX2_isReadAllowed_1 : decode cX2_isReadAllowed 1 = .ok (.iload_n 1, 1) := by decide +kernel
theorem dX2_isReadAllowed_2 : decode cX2_isReadAllowed 2 = .ok (.iload_n 2, 1) := by decide +kernel
theorem dX2_isReadAllowed_3 : decode cX2_isReadAllowed 3 = .ok (.invokevirtual 77, 3) := by decide +kernel
theorem dX2_isReadAllowed_6 : decode cX2_isReadAllowed 6 = .ok (.aload_n 0, 1) := by decide +kernel
theorem dX2_isReadAllowed_7 : decode cX2_isReadAllowed 7 = .ok (.getfield 39, 3) := by decide +kernel
theorem dX2_isReadAllowed_10 : decode cX2_isReadAllowed 10 = .ok (.iload_n 1, 1) := by decide +kernel
theorem dX2_isReadAllowed_11 : decode cX2_isReadAllowed 11 = .ok (.iaload, 1) := by decide +kernel
theorem dX2_isReadAllowed_12 : decode cX2_isReadAllowed 12 = .ok (.iand, 1) := by decide +kernel
theorem dX2_isReadAllowed_13 : decode cX2_isReadAllowed 13 = .ok (.ifCond .ne 7, 3) := by decide +kernel
theorem dX2_isReadAllowed_16 : decode cX2_isReadAllowed 16 = .ok (.iconst 1, 1) := by decide +kernel
theorem dX2_isReadAllowed_17 : decode cX2_isReadAllowed 17 = .ok (.goto 4, 3) := by decide +kernel
