set_option maxRecDepth 20000 in
theorem ggX3_peek_X3_isKey : GoodIn wsX3_peek wsX3_isKey := goodIn_r _ [11, 6, 7, 4, 8] (by decide +kernel) (by decide +kernel)
set_option maxRecDepth 20000 in
theorem gX3_peek_X3_isKey : GoodIn wsX3_peek (va_wsS RX3 102 yX3_isKey wsX3_isKey) := goodIn_app (goodIn_of _ (by decide +kernel)) ggX3_peek_X3_isKey
set_option maxRecDepth 20000 in
theorem ggX3_peek_X3_counted : GoodIn wsX3_peek wsX3_counted := goodIn_r _ [15, 16, 17, 18, 4, 19, 40, 41, 42, 43] (by decide +kernel) (by decide +kernel)
set_option maxRecDepth 20000 in
theorem gX3_peek_X3_counted : GoodIn wsX3_peek (wsV RX3 56 RX3 yX3_counted wsX3_counted) := goodIn_app (goodIn_of _ (by decide +kernel)) ggX3_peek_X3_counted
set_option maxRecDepth 20000 in
theorem ggX3_peek_X2_valueAt : GoodIn wsX3_peek wsX2_valueAt := goodIn_r _ [24, 25, 26, 27, 28, 29, 30, 23, 31, 32, 33, 34, 35, 36, 37, 38, 39, 44, 45, 46, 47, 48, 49, 50, 51, 52, 53, 54, 55] (by decide +kernel) (by decide +kernel)
set_option maxRecDepth 20000 in
theorem gX3_peek_X2_valueAt : GoodIn wsX3_peek (wsV RX3 105 RX2 yX2_valueAt wsX2_valueAt) := goodIn_app (goodIn_of _ (by decide +kernel)) ggX3_peek_X2_valueAt
theorem dX3_peek_0 : decode cX3_peek 0 = .ok (.iload_n 1, 1) := by decide +kernel
theorem dX3_peek_1 : decode cX3_peek 1 = .ok (.invokestatic 53, 3) := by decide +kernel
theorem dX3_peek_4 : decode cX3_peek 4 = .ok (.ifCond .eq 10, 3) := by decide +kernel
theorem dX3_peek_7 : decode cX3_peek 7 = .ok (.iload_n 2, 1) := by decide +kernel
theorem dX3_peek_8 : decode cX3_peek 8 = .ok (.invokestatic 102, 3) := by decide +kernel
theorem dX3_peek_11 : decode cX3_peek 11 = .ok (.ifCond .ne 10, 3) := by decide +kernel
theorem dX3_peek_14 : decode cX3_peek 14 = .ok (.aload_n 0, 1) := by decide +kernel
theorem dX3_peek_15 : decode cX3_peek 15 = .ok (.bipush (-2), 2) := by decide +kernel
theorem dX3_peek_17 : decode cX3_peek 17 = .ok (.invokevirtual 56, 3) := by decide +kernel
theorem dX3_peek_20 : decode cX3_peek 20 = .ok (.ireturn, 1) := by decide +kernel
theorem dX3_peek_21 : decode cX3_peek 21 = .ok (.aload_n 0, 1) := by decide +kernel
theorem dX3_peek_22 : decode cX3_peek 22 = .ok (.getfield 12, 3) := by decide +kernel
theorem dX3_peek_25 : decode cX3_peek 25 = .ok (.iload_n 1, 1) := by decide +kernel
theorem dX3_peek_26 : decode cX3_peek 26 = .ok (.iload_n 2, 1) := by decide +kernel
theorem dX3_peek_27 : decode cX3_peek 27 = .ok (.invokevirtual 105, 3) := by decide +kernel
theorem dX3_peek_30 : decode cX3_peek 30 = .ok (.istore_n 3, 1) := by decide +kernel
theorem dX3_peek_31 : decode cX3_peek 31 = .ok (.iload_n 3, 1) := by decide +kernel
theorem dX3_peek_32 : decode cX3_peek 32 = .ok (.bipush 100, 2) := by decide +kernel
theorem dX3_peek_34 : decode cX3_peek 34 = .ok (.if_icmp .ne 12, 3) := by decide +kernel
theorem dX3_peek_37 : decode cX3_peek 37 = .ok (.aload_n 0, 1) := by decide +kernel
theorem dX3_peek_38 : decode cX3_peek 38 = .ok (.bipush (-5), 2) := by decide +kernel
theorem dX3_peek_40 : decode cX3_peek 40 = .ok (.invokevirtual 56, 3) := by decide +kernel
theorem dX3_peek_43 : decode cX3_peek 43 = .ok (.goto 4, 3) := by decide +kernel
theorem dX3_peek_46 : decode cX3_peek 46 = .ok (.iload_n 3, 1) := by decide +kernel
theorem dX3_peek_47 : decode cX3_peek 47 = .ok (.ireturn, 1) := by decide +kernel
set_option maxRecDepth 20000 in
theorem ggX3_compare_X3_isReplica : GoodIn wsX3_compare wsX3_isReplica := goodIn_r _ [6, 7, 8, 5, 9] (by decide +kernel) (by decide +kernel)
set_option maxRecDepth 20000 in
theorem gX3_compare_X3_isReplica : GoodIn wsX3_compare (va_wsS RX3 53 yX3_isReplica wsX3_isReplica) := goodIn_app (goodIn_of _ (by decide +kernel)) ggX3_compare_X3_isReplica
set_option maxRecDepth 20000 in
theorem ggX3_compare_X3_counted : GoodIn wsX3_compare wsX3_counted := goodIn_r _ [13, 14, 15, 16, 5, 17, 37, 38, 39, 40] (by decide +kernel) (by decide +kernel)
set_option maxRecDepth 20000 in
theorem gX3_compare_X3_counted : GoodIn wsX3_compare (wsV RX3 56 RX3 yX3_counted wsX3_counted) := goodIn_app (goodIn_of _ (by decide +kernel)) ggX3_compare_X3_counted
set_option maxRecDepth 20000 in
theorem ggX3_compare_X3_only : GoodIn wsX3_compare wsX3_only := goodIn_r _ [20] (by decide +kernel) (by decide +kernel)
set_option maxRecDepth 20000 in
theorem gX3_compare_X3_only : GoodIn wsX3_compare (va_wsS RX3 77 yX3_only wsX3_only) := goodIn_app (goodIn_of _ (by decide +kernel)) ggX3_compare_X3_only
set_option maxRecDepth 20000 in
theorem ggX3_compare_X2_covers : GoodIn wsX3_compare wsX2_covers := goodIn_r _ [25, 26, 27, 28, 24, 29, 30, 31, 32, 33, 34, 35, 5, 36, 41, 42, 43, 44, 45, 46, 47, 48, 49, 50, 51, 52] (by decide +kernel) (by decide +kernel)
set_option maxRecDepth 20000 in
theorem gX3_compare_X2_covers : GoodIn wsX3_compare (wsV RX3 108 RX2 yX2_covers wsX2_covers) := goodIn_app (goodIn_of _ (by decide +kernel)) ggX3_compare_X2_covers
theorem dX3_compare_0 : decode cX3_compare 0 = .ok (.iload_n 1, 1) := by decide +kernel
theorem dX3_compare_1 : decode cX3_compare 1 = .ok (.invokestatic 53, 3) := by decide +kernel
theorem dX3_compare_4 : decode cX3_compare 4 = .ok (.ifCond .eq 10, 3) := by decide +kernel
theorem dX3_compare_7 : decode cX3_compare 7 = .ok (.iload_n 2, 1) := by decide +kernel
theorem dX3_compare_8 : decode cX3_compare 8 = .ok (.invokestatic 53, 3) := by decide +kernel
theorem dX3_compare_11 : decode cX3_compare 11 = .ok (.ifCond .ne 10, 3) := by decide +kernel
theorem dX3_compare_14 : decode cX3_compare 14 = .ok (.aload_n 0, 1) := by decide +kernel
theorem dX3_compare_15 : decode cX3_compare 15 = .ok (.bipush (-2), 2) := by decide +kernel
theorem dX3_compare_17 : decode cX3_compare 17 = .ok (.invokevirtual 56, 3) := by decide +kernel
theorem dX3_compare_20 : decode cX3_compare 20 = .ok (.ireturn, 1) := by decide +kernel
theorem dX3_compare_21 : decode cX3_compare 21 = .ok (.aload_n 0, 1) := by decide +kernel
theorem dX3_compare_22 : decode cX3_compare 22 = .ok (.getfield 12, 3) := by decide +kernel
theorem dX3_compare_25 : decode cX3_compare 25 = .ok (.iload_n 1, 1) := by decide +kernel
theorem dX3_compare_26 : decode cX3_compare 26 = .ok (.invokestatic 77, 3) := by decide +kernel
theorem dX3_compare_29 : decode cX3_compare 29 = .ok (.aload_n 0, 1) := by decide +kernel
theorem dX3_compare_30 : decode cX3_compare 30 = .ok (.getfield 12, 3) := by decide +kernel
theorem dX3_compare_33 : decode cX3_compare 33 = .ok (.getfield 96, 3) := by decide +kernel
theorem dX3_compare_36 : decode cX3_compare 36 = .ok (.iload_n 2, 1) := by decide +kernel
theorem dX3_compare_37 : decode cX3_compare 37 = .ok (.aaload, 1) := by decide +kernel
theorem dX3_compare_38 : decode cX3_compare 38 = .ok (.invokevirtual 108, 3) := by decide +kernel
theorem dX3_compare_41 : decode cX3_compare 41 = .ok (.istore_n 3, 1) := by decide +kernel
theorem dX3_compare_42 : decode cX3_compare 42 = .ok (.aload_n 0, 1) := by decide +kernel
theorem dX3_compare_43 : decode cX3_compare 43 = .ok (.getfield 12, 3) := by decide +kernel
theorem dX3_compare_46 : decode cX3_compare 46 = .ok (.iload_n 2, 1) := by decide +kernel
theorem dX3_compare_47 : decode cX3_compare 47 = .ok (.invokestatic 77, 3) := by decide +kernel
theorem dX3_compare_50 : decode cX3_compare 50 = .ok (.aload_n 0, 1) := by decide +kernel
theorem dX3_compare_51 : decode cX3_compare 51 = .ok (.getfield 12, 3) := by decide +kernel
theorem dX3_compare_54 : decode cX3_compare 54 = .ok (.getfield 96, 3) := by decide +kernel
theorem dX3_compare_57 : decode cX3_compare 57 = .ok (.iload_n 1, 1) := by decide +kernel
theorem dX3_compare_58 : decode cX3_compare 58 = .ok (.aaload, 1) := by decide +kernel
theorem dX3_compare_59 : decode cX3_compare 59 = .ok (.invokevirtual 108, 3) := by decide +kernel
theorem dX3_compare_62 : decode cX3_compare 62 = .ok (.istore 4, 2) := by decide +kernel
theorem dX3_compare_64 : decode cX3_compare 64 = .ok (.iload_n 3, 1) := by decide +kernel
theorem dX3_compare_65 : decode cX3_compare 65 = .ok (.ifCond .eq 14, 3) := by decide +kernel
theorem dX3_compare_68 : decode cX3_compare 68 = .ok (.iload 4, 2) := by decide +kernel
theorem dX3_compare_70 : decode cX3_compare 70 = .ok (.ifCond .eq 7, 3) := by decide +kernel
theorem dX3_compare_73 : decode cX3_compare 73 = .ok (.iconst 0, 1) := by decide +kernel
theorem dX3_compare_74 : decode cX3_compare 74 = .ok (.goto 4, 3) := by decide +kernel
theorem dX3_compare_77 : decode cX3_compare 77 = .ok (.iconst 1, 1) := by decide +kernel
theorem dX3_compare_78 : decode cX3_compare 78 = .ok (.ireturn, 1) := by decide +kernel
theorem dX3_compare_79 : decode cX3_compare 79 = .ok (.iload 4, 2) := by decide +kernel
theorem dX3_compare_81 : decode cX3_compare 81 = .ok (.ifCond .eq 7, 3) := by decide +kernel
theorem dX3_compare_84 : decode cX3_compare 84 = .ok (.iconst 2, 1) := by decide +kernel
theorem dX3_compare_85 : decode cX3_compare 85 = .ok (.goto 4, 3) := by decide +kernel
theorem dX3_compare_88 : decode cX3_compare 88 = .ok (.iconst 3, 1) := by decide +kernel
theorem dX3_compare_89 : decode cX3_compare 89 = .ok (.ireturn, 1) := by decide +kernel
set_option maxRecDepth 20000 in
theorem ggX3_breaches_X3_isBelow : GoodIn wsX3_breaches wsX3_isBelow := goodIn_r _ [6] (by decide +kernel) (by decide +kernel)
set_option maxRecDepth 20000 in
theorem gX3_breaches_X3_isBelow : GoodIn wsX3_breaches (va_wsS RX3 112 yX3_isBelow wsX3_isBelow) := goodIn_app (goodIn_of _ (by decide +kernel)) ggX3_breaches_X3_isBelow
set_option maxRecDepth 20000 in
theorem ggX3_breaches_X3_counted : GoodIn wsX3_breaches wsX3_counted := goodIn_r _ [10, 11, 12, 13, 5, 14, 15, 16, 17, 18] (by decide +kernel) (by decide +kernel)
set_option maxRecDepth 20000 in
theorem gX3_breaches_X3_counted : GoodIn wsX3_breaches (wsV RX3 56 RX3 yX3_counted wsX3_counted) := goodIn_app (goodIn_of _ (by decide +kernel)) ggX3_breaches_X3_counted
theorem dX3_breaches_0 : decode cX3_breaches 0 = .ok (.iload_n 1, 1) := by decide +kernel
theorem dX3_breaches_1 : decode cX3_breaches 1 = .ok (.iconst 4, 1) := by decide +kernel
theorem dX3_breaches_2 : decode cX3_breaches 2 = .ok (.invokestatic 112, 3) := by decide +kernel
theorem dX3_breaches_5 : decode cX3_breaches 5 = .ok (.ifCond .ne 10, 3) := by decide +kernel
theorem dX3_breaches_8 : decode cX3_breaches 8 = .ok (.aload_n 0, 1) := by decide +kernel
theorem dX3_breaches_9 : decode cX3_breaches 9 = .ok (.bipush (-2), 2) := by decide +kernel
theorem dX3_breaches_11 : decode cX3_breaches 11 = .ok (.invokevirtual 56, 3) := by decide +kernel
theorem dX3_breaches_14 : decode cX3_breaches 14 = .ok (.ireturn, 1) := by decide +kernel
theorem dX3_breaches_15 : decode cX3_breaches 15 = .ok (.aload_n 0, 1) := by decide +kernel
theorem dX3_breaches_16 : decode cX3_breaches 16 = .ok (.getfield 12, 3) := by decide +kernel
theorem dX3_breaches_19 : decode cX3_breaches 19 = .ok (.getfield 115, 3) := by decide +kernel
theorem dX3_breaches_22 : decode cX3_breaches 22 = .ok (.iload_n 1, 1) := by decide +kernel
theorem dX3_breaches_23 : decode cX3_breaches 23 = .ok (.iaload, 1) := by decide +kernel
theorem dX3_breaches_24 : decode cX3_breaches 24 = .ok (.ireturn, 1) := by decide +kernel
set_option maxRecDepth 20000 in
theorem ggX3_append_X3_isBelow : GoodIn wsX3_append wsX3_isBelow := goodIn_r _ [5] (by decide +kernel) (by decide +kernel)
set_option maxRecDepth 20000 in
theorem gX3_append_X3_isBelow : GoodIn wsX3_append (va_wsS RX3 112 yX3_isBelow wsX3_isBelow) := goodIn_app (goodIn_of _ (by decide +kernel)) ggX3_append_X3_isBelow
set_option maxRecDepth 20000 in
theorem ggX3_append_X3_counted : GoodIn wsX3_append wsX3_counted := goodIn_r _ [9, 10, 11, 12, 4, 13, 21, 22, 23, 24] (by decide +kernel) (by decide +kernel)
set_option maxRecDepth 20000 in
theorem gX3_append_X3_counted : GoodIn wsX3_append (wsV RX3 56 RX3 yX3_counted wsX3_counted) := goodIn_app (goodIn_of _ (by decide +kernel)) ggX3_append_X3_counted
set_option maxRecDepth 20000 in
theorem ggX3_append_X1_add : GoodIn wsX3_append wsX1_add := goodIn_r _ [18, 19, 20, 25, 26, 27, 28, 29, 30, 31, 32] (by decide +kernel) (by decide +kernel)
set_option maxRecDepth 20000 in
theorem gX3_append_X1_add : GoodIn wsX3_append (wsV RX3 118 RX1 yX1_add wsX1_add) := goodIn_app (goodIn_of _ (by decide +kernel)) ggX3_append_X1_add
theorem dX3_append_0 : decode cX3_append 0 = .ok (.iload_n 1, 1) := by decide +kernel
theorem dX3_append_1 : decode cX3_append 1 = .ok (.sipush 128, 3) := by decide +kernel
theorem dX3_append_4 : decode cX3_append 4 = .ok (.invokestatic 112, 3) := by decide +kernel
theorem dX3_append_7 : decode cX3_append 7 = .ok (.ifCond .ne 10, 3) := by decide +kernel
theorem dX3_append_10 : decode cX3_append 10 = .ok (.aload_n 0, 1) := by decide +kernel
theorem dX3_append_11 : decode cX3_append 11 = .ok (.bipush (-2), 2) := by decide +kernel
theorem dX3_append_13 : decode cX3_append 13 = .ok (.invokevirtual 56, 3) := by decide +kernel
theorem dX3_append_16 : decode cX3_append 16 = .ok (.ireturn, 1) := by decide +kernel
theorem dX3_append_17 : decode cX3_append 17 = .ok (.aload_n 0, 1) := by decide +kernel
theorem dX3_append_18 : decode cX3_append 18 = .ok (.aload_n 0, 1) := by decide +kernel
theorem dX3_append_19 : decode cX3_append 19 = .ok (.getfield 26, 3) := by decide +kernel
theorem dX3_append_22 : decode cX3_append 22 = .ok (.iload_n 1, 1) := by decide +kernel
theorem dX3_append_23 : decode cX3_append 23 = .ok (.invokevirtual 118, 3) := by decide +kernel
theorem dX3_append_26 : decode cX3_append 26 = .ok (.invokevirtual 56, 3) := by decide +kernel
theorem dX3_append_29 : decode cX3_append 29 = .ok (.ireturn, 1) := by decide +kernel
theorem dX3_clearText_0 : decode cX3_clearText 0 = .ok (.aload_n 0, 1) := by decide +kernel
theorem dX3_clearText_1 : decode cX3_clearText 1 = .ok (.getfield 26, 3) := by decide +kernel
theorem dX3_clearText_4 : decode cX3_clearText 4 = .ok (.getfield 121, 3) := by decide +kernel
theorem dX3_clearText_7 : decode cX3_clearText 7 = .ok (.istore_n 1, 1) := by decide +kernel
theorem dX3_clearText_8 : decode cX3_clearText 8 = .ok (.aload_n 0, 1) := by decide +kernel
theorem dX3_clearText_9 : decode cX3_clearText 9 = .ok (.getfield 26, 3) := by decide +kernel
theorem dX3_clearText_12 : decode cX3_clearText 12 = .ok (.iconst 0, 1) := by decide +kernel
theorem dX3_clearText_13 : decode cX3_clearText 13 = .ok (.putfield 121, 3) := by decide +kernel
theorem dX3_clearText_16 : decode cX3_clearText 16 = .ok (.iload_n 1, 1) := by decide +kernel
theorem dX3_clearText_17 : decode cX3_clearText 17 = .ok (.ireturn, 1) := by decide +kernel
set_option maxRecDepth 20000 in
theorem ggX3_execute_X1_parse : GoodIn wsX3_execute wsX1_parse := goodIn_r _ [9, 10, 11, 12, 13, 14, 15, 16, 8, 17, 18, 19, 20, 21, 22, 23, 24, 25, 26, 27, 28, 29, 30, 31, 32, 33, 34, 35, 36, 167, 168, 169, 170, 171, 172, 173, 174] (by decide +kernel) (by decide +kernel)
set_option maxRecDepth 20000 in
theorem gX3_execute_X1_parse : GoodIn wsX3_execute (wsV RX3 125 RX1 yX1_parse wsX1_parse) := goodIn_app (goodIn_of _ (by decide +kernel)) ggX3_execute_X1_parse
set_option maxRecDepth 20000 in
theorem ggX3_execute_X0_prepare : GoodIn wsX3_execute wsX0_prepare := goodIn_r _ [41, 42, 43, 44, 45, 46, 47, 48, 49, 50, 51, 52, 53, 54, 55, 56, 57, 58, 59, 60, 61, 62, 63, 64, 65, 66, 67, 68, 69, 70, 71, 72, 73, 74, 175, 176, 177, 178, 179, 180, 181, 182, 183, 184, 185, 186, 187, 188, 189] (by decide +kernel) (by decide +kernel)
set_option maxRecDepth 20000 in
theorem gX3_execute_X0_prepare : GoodIn wsX3_execute (wsV RX3 34 RX0 yX0_prepare wsX0_prepare) := goodIn_app (goodIn_of _ (by decide +kernel)) ggX3_execute_X0_prepare
set_option maxRecDepth 20000 in
theorem ggX3_execute_X3_runCommand : GoodIn wsX3_execute wsX3_runCommand := goodIn_r _ [79, 1, 80, 81, 3, 82, 83, 84, 47, 85, 57, 86, 78, 87, 88, 89, 90, 91, 92, 93, 94, 55, 58, 95, 96, 97, 98, 99, 100, 101, 102, 103, 104, 59, 105, 106, 107, 108, 109, 110, 111, 112, 113, 114, 66, 115, 116, 117, 118, 119, 120, 121, 60, 122, 123, 124, 125, 126, 127, 128, 49, 52, 53, 129, 130, 131, 132, 51, 50, 133, 134, 135, 136, 54, 137, 138, 139, 140, 56, 141, 142, 143, 144, 145, 146, 147, 148, 149, 150, 151, 152, 163, 164, 165, 166, 167, 168, 169, 170, 171, 172, 173, 174, 178, 179, 180, 181, 182, 183, 184, 185, 186, 187, 188, 189] (by decide +kernel) (by decide +kernel)
set_option maxRecDepth 20000 in
theorem gX3_execute_X3_runCommand : GoodIn wsX3_execute (wsV RX3 132 RX3 yX3_runCommand wsX3_runCommand) := goodIn_app (goodIn_of _ (by decide +kernel)) ggX3_execute_X3_runCommand
set_option maxRecDepth 20000 in
theorem ggX3_execute_X0_restorePrepared : GoodIn wsX3_execute wsX0_restorePrepared := goodIn_r _ [156, 42, 43, 44, 45, 46, 47, 48, 49, 50, 51, 52, 53, 54, 55, 56, 57, 58, 59, 60, 61, 62, 63, 64, 65, 66, 67, 68, 69, 70, 71, 72, 73, 74, 175, 176, 177, 178, 179, 180, 181, 182, 183, 184, 185, 186, 187, 188, 189] (by decide +kernel) (by decide +kernel)
set_option maxRecDepth 20000 in
theorem gX3_execute_X0_restorePrepared : GoodIn wsX3_execute (wsV RX3 135 RX0 yX0_restorePrepared wsX0_restorePrepared) := goodIn_app (goodIn_of _ (by decide +kernel)) ggX3_execute_X0_restorePrepared
set_option maxRecDepth 20000 in
theorem ggX3_execute_X0_keepPrepared : GoodIn wsX3_execute wsX0_keepPrepared := goodIn_r _ [160, 43, 161, 162, 65, 66, 67, 175, 176, 177] (by decide +kernel) (by decide +kernel)
set_option maxRecDepth 20000 in
theorem gX3_execute_X0_keepPrepared : GoodIn wsX3_execute (wsV RX3 138 RX0 yX0_keepPrepared wsX0_keepPrepared) := goodIn_app (goodIn_of _ (by decide +kernel)) ggX3_execute_X0_keepPrepared
theorem dX3_execute_0 : decode cX3_execute 0 = .ok (.aload_n 0, 1) := by decide +kernel
theorem dX3_execute_1 : decode cX3_execute 1 = .ok (.getfield 26, 3) := by decide +kernel
theorem dX3_execute_4 : decode cX3_execute 4 = .ok (.invokevirtual 125, 3) := by decide +kernel
theorem dX3_execute_7 : decode cX3_execute 7 = .ok (.istore_n 1, 1) := by decide +kernel
theorem dX3_execute_8 : decode cX3_execute 8 = .ok (.iload_n 1, 1) := by decide +kernel
theorem dX3_execute_9 : decode cX3_execute 9 = .ok (.iconst (-1), 1) := by decide +kernel
theorem dX3_execute_10 : decode cX3_execute 10 = .ok (.if_icmp .eq 8, 3) := by decide +kernel
theorem dX3_execute_13 : decode cX3_execute 13 = .ok (.bipush (-10), 2) := by decide +kernel
theorem dX3_execute_15 : decode cX3_execute 15 = .ok (.iload_n 1, 1) := by decide +kernel
theorem dX3_execute_16 : decode cX3_execute 16 = .ok (.isub, 1) := by decide +kernel
theorem dX3_execute_17 : decode cX3_execute 17 = .ok (.ireturn, 1) := by decide +kernel
theorem dX3_execute_18 : decode cX3_execute 18 = .ok (.aload_n 0, 1) := by decide +kernel
theorem dX3_execute_19 : decode cX3_execute 19 = .ok (.getfield 19, 3) := by decide +kernel
theorem dX3_execute_22 : decode cX3_execute 22 = .ok (.aload_n 0, 1) := by decide +kernel
theorem dX3_execute_23 : decode cX3_execute 23 = .ok (.getfield 12, 3) := by decide +kernel
theorem dX3_execute_26 : decode cX3_execute 26 = .ok (.invokevirtual 34, 3) := by decide +kernel
theorem dX3_execute_29 : decode cX3_execute 29 = .ok (.iconst 0, 1) := by decide +kernel
theorem dX3_execute_30 : decode cX3_execute 30 = .ok (.istore_n 2, 1) := by decide +kernel
theorem dX3_execute_31 : decode cX3_execute 31 = .ok (.iconst 0, 1) := by decide +kernel
theorem dX3_execute_32 : decode cX3_execute 32 = .ok (.istore_n 3, 1) := by decide +kernel
theorem dX3_execute_33 : decode cX3_execute 33 = .ok (.iload_n 3, 1) := by decide +kernel
theorem dX3_execute_34 : decode cX3_execute 34 = .ok (.aload_n 0, 1) := by decide +kernel
theorem dX3_execute_35 : decode cX3_execute 35 = .ok (.getfield 26, 3) := by decide +kernel
theorem dX3_execute_38 : decode cX3_execute 38 = .ok (.getfield 129, 3) := by decide +kernel
theorem dX3_execute_41 : decode cX3_execute 41 = .ok (.if_icmp .ge 57, 3) := by decide +kernel
theorem dX3_execute_44 : decode cX3_execute 44 = .ok (.aload_n 0, 1) := by decide +kernel
theorem dX3_execute_45 : decode cX3_execute 45 = .ok (.iload_n 3, 1) := by decide +kernel
theorem dX3_execute_46 : decode cX3_execute 46 = .ok (.invokevirtual 132, 3) := by decide +kernel
theorem dX3_execute_49 : decode cX3_execute 49 = .ok (.istore 4, 2) := by decide +kernel
theorem dX3_execute_51 : decode cX3_execute 51 = .ok (.iload 4, 2) := by decide +kernel
theorem dX3_execute_53 : decode cX3_execute 53 = .ok (.bipush (-2), 2) := by decide +kernel
theorem dX3_execute_55 : decode cX3_execute 55 = .ok (.if_icmp .eq 10, 3) := by decide +kernel
theorem dX3_execute_58 : decode cX3_execute 58 = .ok (.iload 4, 2) := by decide +kernel
theorem dX3_execute_60 : decode cX3_execute 60 = .ok (.bipush (-4), 2) := by decide +kernel
theorem dX3_execute_62 : decode cX3_execute 62 = .ok (.if_icmp .ne 20, 3) := by decide +kernel
theorem dX3_execute_65 : decode cX3_execute 65 = .ok (.aload_n 0, 1) := by decide +kernel
theorem dX3_execute_66 : decode cX3_execute 66 = .ok (.getfield 19, 3) := by decide +kernel
theorem dX3_execute_69 : decode cX3_execute 69 = .ok (.aload_n 0, 1) := by decide +kernel
theorem dX3_execute_70 : decode cX3_execute 70 = .ok (.getfield 12, 3) := by decide +kernel
theorem dX3_execute_73 : decode cX3_execute 73 = .ok (.invokevirtual 135, 3) := by decide +kernel
theorem dX3_execute_76 : decode cX3_execute 76 = .ok (.sipush (-1000), 3) := by decide +kernel
theorem dX3_execute_79 : decode cX3_execute 79 = .ok (.iload_n 3, 1) := by decide +kernel
theorem dX3_execute_80 : decode cX3_execute 80 = .ok (.isub, 1) := by decide +kernel
theorem dX3_execute_81 : decode cX3_execute 81 = .ok (.ireturn, 1) := by decide +kernel
theorem dX3_execute_82 : decode cX3_execute 82 = .ok (.iload 4, 2) := by decide +kernel
theorem dX3_execute_84 : decode cX3_execute 84 = .ok (.bipush (-3), 2) := by decide +kernel
theorem dX3_execute_86 : decode cX3_execute 86 = .ok (.if_icmp .eq 6, 3) := by decide +kernel
theorem dX3_execute_89 : decode cX3_execute 89 = .ok (.iinc 2 1, 3) := by decide +kernel
theorem dX3_execute_92 : decode cX3_execute 92 = .ok (.iinc 3 1, 3) := by decide +kernel
theorem dX3_execute_95 : decode cX3_execute 95 = .ok (.goto (-62), 3) := by decide +kernel
theorem dX3_execute_98 : decode cX3_execute 98 = .ok (.aload_n 0, 1) := by decide +kernel
theorem dX3_execute_99 : decode cX3_execute 99 = .ok (.getfield 19, 3) := by decide +kernel
theorem dX3_execute_102 : decode cX3_execute 102 = .ok (.invokevirtual 138, 3) := by decide +kernel
theorem dX3_execute_105 : decode cX3_execute 105 = .ok (.iload_n 2, 1) := by decide +kernel
theorem dX3_execute_106 : decode cX3_execute 106 = .ok (.ireturn, 1) := by decide +kernel
set_option maxRecDepth 20000 in
theorem ggX3_undo_X0_restoreNewest : GoodIn wsX3_undo wsX0_restoreNewest := goodIn_r _ [8, 9, 10, 11, 12, 13, 14, 15, 16, 17, 18, 19, 20, 21, 22, 23, 24, 25, 26, 27, 28, 29, 30, 31, 32, 33, 34, 35, 36, 37, 38, 39, 40, 41, 42, 56, 57, 58, 59, 60, 61, 62, 63, 64, 65, 66, 67, 68, 69, 70] (by decide +kernel) (by decide +kernel)
set_option maxRecDepth 20000 in
theorem gX3_undo_X0_restoreNewest : GoodIn wsX3_undo (wsV RX3 141 RX0 yX0_restoreNewest wsX0_restoreNewest) := goodIn_app (goodIn_of _ (by decide +kernel)) ggX3_undo_X0_restoreNewest
set_option maxRecDepth 20000 in
theorem ggX3_undo_X3_counted : GoodIn wsX3_undo wsX3_counted := goodIn_r _ [47, 48, 49, 50, 46, 51, 52, 53, 54, 55] (by decide +kernel) (by decide +kernel)
set_option maxRecDepth 20000 in
theorem gX3_undo_X3_counted : GoodIn wsX3_undo (wsV RX3 56 RX3 yX3_counted wsX3_counted) := goodIn_app (goodIn_of _ (by decide +kernel)) ggX3_undo_X3_counted
theorem dX3_undo_0 : decode cX3_undo 0 = .ok (.aload_n 0, 1) := by decide +kernel
theorem dX3_undo_1 : decode cX3_undo 1 = .ok (.getfield 19, 3) := by decide +kernel
theorem dX3_undo_4 : decode cX3_undo 4 = .ok (.aload_n 0, 1) := by decide +kernel
theorem dX3_undo_5 : decode cX3_undo 5 = .ok (.getfield 12, 3) := by decide +kernel
theorem dX3_undo_8 : decode cX3_undo 8 = .ok (.invokevirtual 141, 3) := by decide +kernel
theorem dX3_undo_11 : decode cX3_undo 11 = .ok (.ifCond .eq 13, 3) := by decide +kernel
theorem dX3_undo_14 : decode cX3_undo 14 = .ok (.aload_n 0, 1) := by decide +kernel
theorem dX3_undo_15 : decode cX3_undo 15 = .ok (.getfield 19, 3) := by decide +kernel
theorem dX3_undo_18 : decode cX3_undo 18 = .ok (.getfield 145, 3) := by decide +kernel
theorem dX3_undo_21 : decode cX3_undo 21 = .ok (.goto 9, 3) := by decide +kernel
theorem dX3_undo_24 : decode cX3_undo 24 = .ok (.aload_n 0, 1) := by decide +kernel
theorem dX3_undo_25 : decode cX3_undo 25 = .ok (.bipush (-6), 2) := by decide +kernel
theorem dX3_undo_27 : decode cX3_undo 27 = .ok (.invokevirtual 56, 3) := by decide +kernel
theorem dX3_undo_30 : decode cX3_undo 30 = .ok (.ireturn, 1) := by decide +kernel
set_option maxRecDepth 20000 in
theorem ggX3_errorCount_X3_isErrorCode : GoodIn wsX3_errorCount wsX3_isErrorCode := goodIn_r _ [5] (by decide +kernel) (by decide +kernel)
set_option maxRecDepth 20000 in
theorem gX3_errorCount_X3_isErrorCode : GoodIn wsX3_errorCount (va_wsS RX3 148 yX3_isErrorCode wsX3_isErrorCode) := goodIn_app (goodIn_of _ (by decide +kernel)) ggX3_errorCount_X3_isErrorCode
set_option maxRecDepth 20000 in
theorem ggX3_errorCount_X3_counted : GoodIn wsX3_errorCount wsX3_counted := goodIn_r _ [9, 1, 2, 3, 4, 5, 10, 11, 12, 13] (by decide +kernel) (by decide +kernel)
set_option maxRecDepth 20000 in
theorem gX3_errorCount_X3_counted : GoodIn wsX3_errorCount (wsV RX3 56 RX3 yX3_counted wsX3_counted) := goodIn_app (goodIn_of _ (by decide +kernel)) ggX3_errorCount_X3_counted
theorem dX3_errorCount_0 : decode cX3_errorCount 0 = .ok (.iload_n 1, 1) := by decide +kernel
theorem dX3_errorCount_1 : decode cX3_errorCount 1 = .ok (.invokestatic 148, 3) := by decide +kernel
theorem dX3_errorCount_4 : decode cX3_errorCount 4 = .ok (.ifCond .ne 10, 3) := by decide +kernel
theorem dX3_errorCount_7 : decode cX3_errorCount 7 = .ok (.aload_n 0, 1) := by decide +kernel
theorem dX3_errorCount_8 : decode cX3_errorCount 8 = .ok (.bipush (-2), 2) := by decide +kernel
theorem dX3_errorCount_10 : decode cX3_errorCount 10 = .ok (.invokevirtual 56, 3) := by decide +kernel
theorem dX3_errorCount_13 : decode cX3_errorCount 13 = .ok (.ireturn, 1) := by decide +kernel
theorem dX3_errorCount_14 : decode cX3_errorCount 14 = .ok (.aload_n 0, 1) := by decide +kernel
theorem dX3_errorCount_15 : decode cX3_errorCount 15 = .ok (.getfield 30, 3) := by decide +kernel
theorem dX3_errorCount_18 : decode cX3_errorCount 18 = .ok (.bipush (-2), 2) := by decide +kernel
theorem dX3_errorCount_20 : decode cX3_errorCount 20 = .ok (.iload_n 1, 1) := by decide +kernel
theorem dX3_errorCount_21 : decode cX3_errorCount 21 = .ok (.isub, 1) := by decide +kernel
theorem dX3_errorCount_22 : decode cX3_errorCount 22 = .ok (.iaload, 1) := by decide +kernel
theorem dX3_errorCount_23 : decode cX3_errorCount 23 = .ok (.ireturn, 1) := by decide +kernel
theorem dX3_writes_0 : decode cX3_writes 0 = .ok (.aload_n 0, 1) := by decide +kernel
theorem dX3_writes_1 : decode cX3_writes 1 = .ok (.getfield 12, 3) := by decide +kernel
theorem dX3_writes_4 : decode cX3_writes 4 = .ok (.getfield 151, 3) := by decide +kernel
theorem dX3_writes_7 : decode cX3_writes 7 = .ok (.ireturn, 1) := by decide +kernel
set_option maxRecDepth 20000 in
theorem ggX3_digest_X3_mixAll : GoodIn wsX3_digest wsX3_mixAll := goodIn_r _ [11, 12, 13, 10, 14, 15] (by decide +kernel) (by decide +kernel)
set_option maxRecDepth 20000 in
theorem gX3_digest_X3_mixAll : GoodIn wsX3_digest (va_wsS RX3 156 yX3_mixAll wsX3_mixAll) := goodIn_app (goodIn_of _ (by decide +kernel)) ggX3_digest_X3_mixAll
set_option maxRecDepth 20000 in
theorem ggX3_digest_X2_mixInto : GoodIn wsX3_digest wsX2_mixInto := goodIn_r _ [20, 21, 22, 23, 24, 25, 26, 27, 13, 10, 14, 15, 9, 11, 12, 28, 29, 30, 19, 31, 32, 33, 34, 35, 36, 37, 38, 39, 40, 41, 42, 43, 44, 60, 61, 62, 63, 64, 65, 66, 67, 68, 69, 70, 71] (by decide +kernel) (by decide +kernel)
set_option maxRecDepth 20000 in
theorem gX3_digest_X2_mixInto : GoodIn wsX3_digest (wsV RX3 160 RX2 yX2_mixInto wsX2_mixInto) := goodIn_app (goodIn_of _ (by decide +kernel)) ggX3_digest_X2_mixInto
set_option maxRecDepth 20000 in
theorem ggX3_digest_X3_mix : GoodIn wsX3_digest wsX3_mix := goodIn_r _ [14, 15] (by decide +kernel) (by decide +kernel)
set_option maxRecDepth 20000 in
theorem gX3_digest_X3_mix : GoodIn wsX3_digest (va_wsS RX3 164 yX3_mix wsX3_mix) := goodIn_app (goodIn_of _ (by decide +kernel)) ggX3_digest_X3_mix
theorem dX3_digest_0 : decode cX3_digest 0 = .ok (.ldc2_w 154, 3) := by decide +kernel
theorem dX3_digest_3 : decode cX3_digest 3 = .ok (.aload_n 0, 1) := by decide +kernel
theorem dX3_digest_4 : decode cX3_digest 4 = .ok (.getfield 30, 3) := by decide +kernel
theorem dX3_digest_7 : decode cX3_digest 7 = .ok (.invokestatic 156, 3) := by decide +kernel
theorem dX3_digest_10 : decode cX3_digest 10 = .ok (.lstore_n 1, 1) := by decide +kernel
theorem dX3_digest_11 : decode cX3_digest 11 = .ok (.aload_n 0, 1) := by decide +kernel
theorem dX3_digest_12 : decode cX3_digest 12 = .ok (.getfield 12, 3) := by decide +kernel
theorem dX3_digest_15 : decode cX3_digest 15 = .ok (.lload_n 1, 1) := by decide +kernel
theorem dX3_digest_16 : decode cX3_digest 16 = .ok (.invokevirtual 160, 3) := by decide +kernel
theorem dX3_digest_19 : decode cX3_digest 19 = .ok (.lstore_n 1, 1) := by decide +kernel
theorem dX3_digest_20 : decode cX3_digest 20 = .ok (.lload_n 1, 1) := by decide +kernel
theorem dX3_digest_21 : decode cX3_digest 21 = .ok (.aload_n 0, 1) := by decide +kernel
theorem dX3_digest_22 : decode cX3_digest 22 = .ok (.getfield 26, 3) := by decide +kernel
theorem dX3_digest_25 : decode cX3_digest 25 = .ok (.getfield 121, 3) := by decide +kernel
theorem dX3_digest_28 : decode cX3_digest 28 = .ok (.invokestatic 164, 3) := by decide +kernel
theorem dX3_digest_31 : decode cX3_digest 31 = .ok (.lstore_n 1, 1) := by decide +kernel
theorem dX3_digest_32 : decode cX3_digest 32 = .ok (.lload_n 1, 1) := by decide +kernel
theorem dX3_digest_33 : decode cX3_digest 33 = .ok (.aload_n 0, 1) := by decide +kernel
theorem dX3_digest_34 : decode cX3_digest 34 = .ok (.getfield 19, 3) := by decide +kernel
theorem dX3_digest_37 : decode cX3_digest 37 = .ok (.getfield 145, 3) := by decide +kernel
theorem dX3_digest_40 : decode cX3_digest 40 = .ok (.invokestatic 164, 3) := by decide +kernel
theorem dX3_digest_43 : decode cX3_digest 43 = .ok (.lreturn, 1) := by decide +kernel
set_option maxRecDepth 20000 in
theorem ggX3_runCommand_X2_changeGuarantees : GoodIn wsX3_runCommand wsX2_changeGuarantees := goodIn_r _ [9, 10, 11, 12, 13, 14, 15, 16, 103, 104, 105, 106, 107, 108, 109, 110, 111, 112, 113, 114] (by decide +kernel) (by decide +kernel)
set_option maxRecDepth 20000 in
theorem gX3_runCommand_X2_changeGuarantees : GoodIn wsX3_runCommand (wsV RX3 38 RX2 yX2_changeGuarantees wsX2_changeGuarantees) := goodIn_app (goodIn_of _ (by decide +kernel)) ggX3_runCommand_X2_changeGuarantees
set_option maxRecDepth 20000 in
theorem ggX3_runCommand_X2_readKey : GoodIn wsX3_runCommand wsX2_readKey := goodIn_r _ [20, 10, 21, 22, 11, 12, 13, 14, 15, 16, 23, 24, 25, 26, 27, 28, 29, 30, 31, 8, 32, 33, 34, 35, 36, 37, 38, 39, 40, 41, 42, 43, 44, 45, 46, 47, 48, 49, 50, 51, 52, 53, 54, 55, 56, 57, 58, 59, 60, 61, 62, 63, 64, 65, 66, 67, 68, 69, 70, 71, 72, 73, 103, 104, 105, 106, 107, 108, 109, 110, 111, 112, 113, 114] (by decide +kernel) (by decide +kernel)
set_option maxRecDepth 20000 in
theorem gX3_runCommand_X2_readKey : GoodIn wsX3_runCommand (wsV RX3 66 RX2 yX2_readKey wsX2_readKey) := goodIn_app (goodIn_of _ (by decide +kernel)) ggX3_runCommand_X2_readKey
set_option maxRecDepth 20000 in
theorem ggX3_runCommand_X2_writeKey : GoodIn wsX3_runCommand wsX2_writeKey := goodIn_r _ [77, 10, 60, 78, 21, 33, 68, 67, 61, 62, 73, 11, 12, 13, 14, 15, 16, 23, 24, 25, 26, 79, 80, 81, 8, 82, 22, 27, 28, 34, 35, 36, 37, 38, 39, 40, 41, 42, 43, 44, 45, 46, 47, 48, 49, 50, 51, 52, 103, 104, 105, 106, 107, 108, 109, 110, 111, 112, 113, 114] (by decide +kernel) (by decide +kernel)
set_option maxRecDepth 20000 in
theorem gX3_runCommand_X2_writeKey : GoodIn wsX3_runCommand (wsV RX3 70 RX2 yX2_writeKey wsX2_writeKey) := goodIn_app (goodIn_of _ (by decide +kernel)) ggX3_runCommand_X2_writeKey
set_option maxRecDepth 20000 in
theorem ggX3_runCommand_X2_synchronize : GoodIn wsX3_runCommand wsX2_synchronize := goodIn_r _ [86, 60, 78, 73, 42, 43, 44, 45, 21, 23, 12, 24, 14, 15, 16, 63, 64, 65, 8, 66, 67, 68, 53, 54, 55, 103, 104, 105, 106, 107, 108, 109, 110, 111, 112, 113, 114] (by decide +kernel) (by decide +kernel)
set_option maxRecDepth 20000 in
theorem gX3_runCommand_X2_synchronize : GoodIn wsX3_runCommand (wsV RX3 74 RX2 yX2_synchronize wsX2_synchronize) := goodIn_app (goodIn_of _ (by decide +kernel)) ggX3_runCommand_X2_synchronize
set_option maxRecDepth 20000 in
theorem ggX3_runCommand_X2_clearVectors : GoodIn wsX3_runCommand wsX2_clearVectors := goodIn_r _ [90, 22, 33, 11, 12, 13, 14, 15, 16, 103, 104, 105, 106, 107, 108, 109, 110, 111, 112, 113, 114] (by decide +kernel) (by decide +kernel)
set_option maxRecDepth 20000 in
theorem gX3_runCommand_X2_clearVectors : GoodIn wsX3_runCommand (wsV RX3 46 RX2 yX2_clearVectors wsX2_clearVectors) := goodIn_app (goodIn_of _ (by decide +kernel)) ggX3_runCommand_X2_clearVectors
theorem dX3_runCommand_0 : decode cX3_runCommand 0 = .ok (.aload_n 0, 1) := by decide +kernel
theorem dX3_runCommand_1 : decode cX3_runCommand 1 = .ok (.getfield 26, 3) := by decide +kernel
theorem dX3_runCommand_4 : decode cX3_runCommand 4 = .ok (.getfield 168, 3) := by decide +kernel
theorem dX3_runCommand_7 : decode cX3_runCommand 7 = .ok (.iload_n 1, 1) := by decide +kernel
theorem dX3_runCommand_8 : decode cX3_runCommand 8 = .ok (.aaload, 1) := by decide +kernel
theorem dX3_runCommand_9 : decode cX3_runCommand 9 = .ok (.astore_n 2, 1) := by decide +kernel
theorem dX3_runCommand_10 : decode cX3_runCommand 10 = .ok (.aload_n 0, 1) := by decide +kernel
theorem dX3_runCommand_11 : decode cX3_runCommand 11 = .ok (.getfield 26, 3) := by decide +kernel
theorem dX3_runCommand_14 : decode cX3_runCommand 14 = .ok (.getfield 171, 3) := by decide +kernel
theorem dX3_runCommand_17 : decode cX3_runCommand 17 = .ok (.iload_n 1, 1) := by decide +kernel
theorem dX3_runCommand_18 : decode cX3_runCommand 18 = .ok (.iaload, 1) := by decide +kernel
theorem dX3_runCommand_19 : decode cX3_runCommand 19 = .ok (.lookupswitch 106 #[(103, 41), (114, 55), (115, 92), (119, 72)], 41) := by decide +kernel
theorem dX3_runCommand_60 : decode cX3_runCommand 60 = .ok (.aload_n 0, 1) := by decide +kernel
theorem dX3_runCommand_61 : decode cX3_runCommand 61 = .ok (.getfield 12, 3) := by decide +kernel
theorem dX3_runCommand_64 : decode cX3_runCommand 64 = .ok (.aload_n 2, 1) := by decide +kernel
theorem dX3_runCommand_65 : decode cX3_runCommand 65 = .ok (.iconst 0, 1) := by decide +kernel
theorem dX3_runCommand_66 : decode cX3_runCommand 66 = .ok (.iaload, 1) := by decide +kernel
theorem dX3_runCommand_67 : decode cX3_runCommand 67 = .ok (.aload_n 2, 1) := by decide +kernel
theorem dX3_runCommand_68 : decode cX3_runCommand 68 = .ok (.iconst 1, 1) := by decide +kernel
theorem dX3_runCommand_69 : decode cX3_runCommand 69 = .ok (.iaload, 1) := by decide +kernel
theorem dX3_runCommand_70 : decode cX3_runCommand 70 = .ok (.invokevirtual 38, 3) := by decide +kernel
theorem dX3_runCommand_73 : decode cX3_runCommand 73 = .ok (.ireturn, 1) := by decide +kernel
theorem dX3_runCommand_74 : decode cX3_runCommand 74 = .ok (.aload_n 0, 1) := by decide +kernel
theorem dX3_runCommand_75 : decode cX3_runCommand 75 = .ok (.getfield 12, 3) := by decide +kernel
theorem dX3_runCommand_78 : decode cX3_runCommand 78 = .ok (.aload_n 2, 1) := by decide +kernel
theorem dX3_runCommand_79 : decode cX3_runCommand 79 = .ok (.iconst 0, 1) := by decide +kernel
theorem dX3_runCommand_80 : decode cX3_runCommand 80 = .ok (.iaload, 1) := by decide +kernel
theorem dX3_runCommand_81 : decode cX3_runCommand 81 = .ok (.aload_n 2, 1) := by decide +kernel
theorem dX3_runCommand_82 : decode cX3_runCommand 82 = .ok (.iconst 1, 1) := by decide +kernel
theorem dX3_runCommand_83 : decode cX3_runCommand 83 = .ok (.iaload, 1) := by decide +kernel
theorem dX3_runCommand_84 : decode cX3_runCommand 84 = .ok (.aload_n 2, 1) := by decide +kernel
theorem dX3_runCommand_85 : decode cX3_runCommand 85 = .ok (.iconst 2, 1) := by decide +kernel
theorem dX3_runCommand_86 : decode cX3_runCommand 86 = .ok (.iaload, 1) := by decide +kernel
theorem dX3_runCommand_87 : decode cX3_runCommand 87 = .ok (.invokevirtual 66, 3) := by decide +kernel
theorem dX3_runCommand_90 : decode cX3_runCommand 90 = .ok (.ireturn, 1) := by decide +kernel
theorem dX3_runCommand_91 : decode cX3_runCommand 91 = .ok (.aload_n 0, 1) := by decide +kernel
theorem dX3_runCommand_92 : decode cX3_runCommand 92 = .ok (.getfield 12, 3) := by decide +kernel
theorem dX3_runCommand_95 : decode cX3_runCommand 95 = .ok (.aload_n 2, 1) := by decide +kernel
theorem dX3_runCommand_96 : decode cX3_runCommand 96 = .ok (.iconst 0, 1) := by decide +kernel
theorem dX3_runCommand_97 : decode cX3_runCommand 97 = .ok (.iaload, 1) := by decide +kernel
theorem dX3_runCommand_98 : decode cX3_runCommand 98 = .ok (.aload_n 2, 1) := by decide +kernel
theorem dX3_runCommand_99 : decode cX3_runCommand 99 = .ok (.iconst 1, 1) := by decide +kernel
theorem dX3_runCommand_100 : decode cX3_runCommand 100 = .ok (.iaload, 1) := by decide +kernel
theorem dX3_runCommand_101 : decode cX3_runCommand 101 = .ok (.aload_n 2, 1) := by decide +kernel
theorem dX3_runCommand_102 : decode cX3_runCommand 102 = .ok (.iconst 2, 1) := by decide +kernel
theorem dX3_runCommand_103 : decode cX3_runCommand 103 = .ok (.iaload, 1) := by decide +kernel
theorem dX3_runCommand_104 : decode cX3_runCommand 104 = .ok (.aload_n 2, 1) := by decide +kernel
theorem dX3_runCommand_105 : decode cX3_runCommand 105 = .ok (.iconst 3, 1) := by decide +kernel
theorem dX3_runCommand_106 : decode cX3_runCommand 106 = .ok (.iaload, 1) := by decide +kernel
theorem dX3_runCommand_107 : decode cX3_runCommand 107 = .ok (.invokevirtual 70, 3) := by decide +kernel
theorem dX3_runCommand_110 : decode cX3_runCommand 110 = .ok (.ireturn, 1) := by decide +kernel
theorem dX3_runCommand_111 : decode cX3_runCommand 111 = .ok (.aload_n 0, 1) := by decide +kernel
theorem dX3_runCommand_112 : decode cX3_runCommand 112 = .ok (.getfield 12, 3) := by decide +kernel
theorem dX3_runCommand_115 : decode cX3_runCommand 115 = .ok (.aload_n 2, 1) := by decide +kernel
theorem dX3_runCommand_116 : decode cX3_runCommand 116 = .ok (.iconst 0, 1) := by decide +kernel
theorem dX3_runCommand_117 : decode cX3_runCommand 117 = .ok (.iaload, 1) := by decide +kernel
theorem dX3_runCommand_118 : decode cX3_runCommand 118 = .ok (.aload_n 2, 1) := by decide +kernel
theorem dX3_runCommand_119 : decode cX3_runCommand 119 = .ok (.iconst 1, 1) := by decide +kernel
theorem dX3_runCommand_120 : decode cX3_runCommand 120 = .ok (.iaload, 1) := by decide +kernel
theorem dX3_runCommand_121 : decode cX3_runCommand 121 = .ok (.invokevirtual 74, 3) := by decide +kernel
theorem dX3_runCommand_124 : decode cX3_runCommand 124 = .ok (.ireturn, 1) := by decide +kernel
theorem dX3_runCommand_125 : decode cX3_runCommand 125 = .ok (.aload_n 0, 1) := by decide +kernel
theorem dX3_runCommand_126 : decode cX3_runCommand 126 = .ok (.getfield 12, 3) := by decide +kernel
theorem dX3_runCommand_129 : decode cX3_runCommand 129 = .ok (.aload_n 2, 1) := by decide +kernel
theorem dX3_runCommand_130 : decode cX3_runCommand 130 = .ok (.iconst 0, 1) := by decide +kernel
theorem dX3_runCommand_131 : decode cX3_runCommand 131 = .ok (.iaload, 1) := by decide +kernel
theorem dX3_runCommand_132 : decode cX3_runCommand 132 = .ok (.invokevirtual 46, 3) := by decide +kernel
theorem dX3_runCommand_135 : decode cX3_runCommand 135 = .ok (.ireturn, 1) := by decide +kernel
set_option maxRecDepth 20000 in
theorem ggX3_endUndoable_X0_keepPrepared : GoodIn wsX3_endUndoable wsX0_keepPrepared := goodIn_r _ [6, 7, 8, 9, 10, 11, 12, 26, 27, 28] (by decide +kernel) (by decide +kernel)
set_option maxRecDepth 20000 in
theorem gX3_endUndoable_X0_keepPrepared : GoodIn wsX3_endUndoable (wsV RX3 138 RX0 yX0_keepPrepared wsX0_keepPrepared) := goodIn_app (goodIn_of _ (by decide +kernel)) ggX3_endUndoable_X0_keepPrepared
set_option maxRecDepth 20000 in
theorem ggX3_endUndoable_X3_counted : GoodIn wsX3_endUndoable wsX3_counted := goodIn_r _ [17, 18, 19, 20, 16, 21, 22, 23, 24, 25] (by decide +kernel) (by decide +kernel)
set_option maxRecDepth 20000 in
theorem gX3_endUndoable_X3_counted : GoodIn wsX3_endUndoable (wsV RX3 56 RX3 yX3_counted wsX3_counted) := goodIn_app (goodIn_of _ (by decide +kernel)) ggX3_endUndoable_X3_counted
theorem dX3_endUndoable_0 : decode cX3_endUndoable 0 = .ok (.iload_n 1, 1) := by decide +kernel
theorem dX3_endUndoable_1 : decode cX3_endUndoable 1 = .ok (.ifCond .lt 10, 3) := by decide +kernel
theorem dX3_endUndoable_4 : decode cX3_endUndoable 4 = .ok (.aload_n 0, 1) := by decide +kernel
theorem dX3_endUndoable_5 : decode cX3_endUndoable 5 = .ok (.getfield 19, 3) := by decide +kernel
theorem dX3_endUndoable_8 : decode cX3_endUndoable 8 = .ok (.invokevirtual 138, 3) := by decide +kernel
theorem dX3_endUndoable_11 : decode cX3_endUndoable 11 = .ok (.aload_n 0, 1) := by decide +kernel
theorem dX3_endUndoable_12 : decode cX3_endUndoable 12 = .ok (.iload_n 1, 1) := by decide +kernel
theorem dX3_endUndoable_13 : decode cX3_endUndoable 13 = .ok (.invokevirtual 56, 3) := by decide +kernel
theorem dX3_endUndoable_16 : decode cX3_endUndoable 16 = .ok (.ireturn, 1) := by decide +kernel
set_option maxRecDepth 20000 in
theorem ggX3_counted_X3_isErrorCode : GoodIn wsX3_counted wsX3_isErrorCode := goodIn_r _ [5] (by decide +kernel) (by decide +kernel)
set_option maxRecDepth 20000 in
theorem gX3_counted_X3_isErrorCode : GoodIn wsX3_counted (va_wsS RX3 148 yX3_isErrorCode wsX3_isErrorCode) := goodIn_app (goodIn_of _ (by decide +kernel)) ggX3_counted_X3_isErrorCode
theorem dX3_counted_0 : decode cX3_counted 0 = .ok (.iload_n 1, 1) := by decide +kernel
theorem dX3_counted_1 : decode cX3_counted 1 = .ok (.invokestatic 148, 3) := by decide +kernel
theorem dX3_counted_4 : decode cX3_counted 4 = .ok (.ifCond .eq 16, 3) := by decide +kernel
theorem dX3_counted_7 : decode cX3_counted 7 = .ok (.aload_n 0, 1) := by decide +kernel
theorem dX3_counted_8 : decode cX3_counted 8 = .ok (.getfield 30, 3) := by decide +kernel
theorem dX3_counted_11 : decode cX3_counted 11 = .ok (.bipush (-2), 2) := by decide +kernel
theorem dX3_counted_13 : decode cX3_counted 13 = .ok (.iload_n 1, 1) := by decide +kernel
theorem dX3_counted_14 : decode cX3_counted 14 = .ok (.isub, 1) := by decide +kernel
theorem dX3_counted_15 : decode cX3_counted 15 = .ok (.dup2, 1) := by decide +kernel
theorem dX3_counted_16 : decode cX3_counted 16 = .ok (.iaload, 1) := by decide +kernel
theorem dX3_counted_17 : decode cX3_counted 17 = .ok (.iconst 1, 1) := by decide +kernel
theorem dX3_counted_18 : decode cX3_counted 18 = .ok (.iadd, 1) := by decide +kernel
theorem dX3_counted_19 : decode cX3_counted 19 = .ok (.iastore, 1) := by decide +kernel
theorem dX3_counted_20 : decode cX3_counted 20 = .ok (.iload_n 1, 1) := by decide +kernel
theorem dX3_counted_21 : decode cX3_counted 21 = .ok (.ireturn, 1) := by decide +kernel
theorem dX3_isErrorCode_0 : decode cX3_isErrorCode 0 = .ok (.iload_n 0, 1) := by decide +kernel
theorem dX3_isErrorCode_1 : decode cX3_isErrorCode 1 = .ok (.bipush (-6), 2) := by decide +kernel
theorem dX3_isErrorCode_3 : decode cX3_isErrorCode 3 = .ok (.if_icmp .lt 13, 3) := by decide +kernel
theorem dX3_isErrorCode_6 : decode cX3_isErrorCode 6 = .ok (.iload_n 0, 1) := by decide +kernel
theorem dX3_isErrorCode_7 : decode cX3_isErrorCode 7 = .ok (.bipush (-2), 2) := by decide +kernel
theorem dX3_isErrorCode_9 : decode cX3_isErrorCode 9 = .ok (.if_icmp .gt 7, 3) := by decide +kernel
theorem dX3_isErrorCode_12 : decode cX3_isErrorCode 12 = .ok (.iconst 1, 1) := by decide +kernel
theorem dX3_isErrorCode_13 : decode cX3_isErrorCode 13 = .ok (.goto 4, 3) := by decide +kernel
theorem dX3_isErrorCode_16 : decode cX3_isErrorCode 16 = .ok (.iconst 0, 1) := by decide +kernel
theorem dX3_isErrorCode_17 : decode cX3_isErrorCode 17 = .ok (.ireturn, 1) := by decide +kernel
theorem dX3_isBelow_0 : decode cX3_isBelow 0 = .ok (.iload_n 0, 1) := by decide +kernel
theorem dX3_isBelow_1 : decode cX3_isBelow 1 = .ok (.ifCond .lt 12, 3) := by decide +kernel
theorem dX3_isBelow_4 : decode cX3_isBelow 4 = .ok (.iload_n 0, 1) := by decide +kernel
theorem dX3_isBelow_5 : decode cX3_isBelow 5 = .ok (.iload_n 1, 1) := by decide +kernel
theorem dX3_isBelow_6 : decode cX3_isBelow 6 = .ok (.if_icmp .ge 7, 3) := by decide +kernel
theorem dX3_isBelow_9 : decode cX3_isBelow 9 = .ok (.iconst 1, 1) := by decide +kernel
theorem dX3_isBelow_10 : decode cX3_isBelow 10 = .ok (.goto 4, 3) := by decide +kernel
theorem dX3_isBelow_13 : decode cX3_isBelow 13 = .ok (.iconst 0, 1) := by decide +kernel
theorem dX3_isBelow_14 : decode cX3_isBelow 14 = .ok (.ireturn, 1) := by decide +kernel
set_option maxRecDepth 20000 in
theorem ggX3_isClient_X3_isBelow : GoodIn wsX3_isClient wsX3_isBelow := goodIn_r _ [4] (by decide +kernel) (by decide +kernel)
set_option maxRecDepth 20000 in
theorem gX3_isClient_X3_isBelow : GoodIn wsX3_isClient (va_wsS RX3 112 yX3_isBelow wsX3_isBelow) := goodIn_app (goodIn_of _ (by decide +kernel)) ggX3_isClient_X3_isBelow
theorem dX3_isClient_0 : decode cX3_isClient 0 = .ok (.iload_n 0, 1) := by decide +kernel
theorem dX3_isClient_1 : decode cX3_isClient 1 = .ok (.iconst 4, 1) := by decide +kernel
theorem dX3_isClient_2 : decode cX3_isClient 2 = .ok (.invokestatic 112, 3) := by decide +kernel
theorem dX3_isClient_5 : decode cX3_isClient 5 = .ok (.ireturn, 1) := by decide +kernel
set_option maxRecDepth 20000 in
theorem ggX3_isReplica_X3_isBelow : GoodIn wsX3_isReplica wsX3_isBelow := goodIn_r _ [4] (by decide +kernel) (by decide +kernel)
set_option maxRecDepth 20000 in
theorem gX3_isReplica_X3_isBelow : GoodIn wsX3_isReplica (va_wsS RX3 112 yX3_isBelow wsX3_isBelow) := goodIn_app (goodIn_of _ (by decide +kernel)) ggX3_isReplica_X3_isBelow
theorem dX3_isReplica_0 : decode cX3_isReplica 0 = .ok (.iload_n 0, 1) := by decide +kernel
theorem dX3_isReplica_1 : decode cX3_isReplica 1 = .ok (.iconst 3, 1) := by decide +kernel
theorem dX3_isReplica_2 : decode cX3_isReplica 2 = .ok (.invokestatic 112, 3) := by decide +kernel
theorem dX3_isReplica_5 : decode cX3_isReplica 5 = .ok (.ireturn, 1) := by decide +kernel
set_option maxRecDepth 20000 in
theorem ggX3_isKey_X3_isBelow : GoodIn wsX3_isKey wsX3_isBelow := goodIn_r _ [4] (by decide +kernel) (by decide +kernel)
set_option maxRecDepth 20000 in
theorem gX3_isKey_X3_isBelow : GoodIn wsX3_isKey (va_wsS RX3 112 yX3_isBelow wsX3_isBelow) := goodIn_app (goodIn_of _ (by decide +kernel)) ggX3_isKey_X3_isBelow
theorem dX3_isKey_0 : decode cX3_isKey 0 = .ok (.iload_n 0, 1) := by decide +kernel
theorem dX3_isKey_1 : decode cX3_isKey 1 = .ok (.iconst 4, 1) := by decide +kernel
theorem dX3_isKey_2 : decode cX3_isKey 2 = .ok (.invokestatic 112, 3) := by decide +kernel
theorem dX3_isKey_5 : decode cX3_isKey 5 = .ok (.ireturn, 1) := by decide +kernel
theorem dX3_only_0 : decode cX3_only 0 = .ok (.iconst 1, 1) := by decide +kernel
theorem dX3_only_1 : decode cX3_only 1 = .ok (.iload_n 0, 1) := by decide +kernel
theorem dX3_only_2 : decode cX3_only 2 = .ok (.ishl, 1) := by decide +kernel
theorem dX3_only_3 : decode cX3_only 3 = .ok (.ireturn, 1) := by decide +kernel
theorem dX3_contains_0 : decode cX3_contains 0 = .ok (.iload_n 0, 1) := by decide +kernel
theorem dX3_contains_1 : decode cX3_contains 1 = .ok (.iload_n 1, 1) := by decide +kernel
theorem dX3_contains_2 : decode cX3_contains 2 = .ok (.ishr, 1) := by decide +kernel
theorem dX3_contains_3 : decode cX3_contains 3 = .ok (.iconst 1, 1) := by decide +kernel
theorem dX3_contains_4 : decode cX3_contains 4 = .ok (.iand, 1) := by decide +kernel
theorem dX3_contains_5 : decode cX3_contains 5 = .ok (.ifCond .eq 7, 3) := by decide +kernel
theorem dX3_contains_8 : decode cX3_contains 8 = .ok (.iconst 1, 1) := by decide +kernel
theorem dX3_contains_9 : decode cX3_contains 9 = .ok (.goto 4, 3) := by decide +kernel
theorem dX3_contains_12 : decode cX3_contains 12 = .ok (.iconst 0, 1) := by decide +kernel
theorem dX3_contains_13 : decode cX3_contains 13 = .ok (.ireturn, 1) := by decide +kernel
theorem dX3_mix_0 : decode cX3_mix 0 = .ok (.ldc2_w 174, 3) := by decide +kernel
theorem dX3_mix_3 : decode cX3_mix 3 = .ok (.lload_n 0, 1) := by decide +kernel
theorem dX3_mix_4 : decode cX3_mix 4 = .ok (.lmul, 1) := by decide +kernel
theorem dX3_mix_5 : decode cX3_mix 5 = .ok (.iload_n 2, 1) := by decide +kernel
theorem dX3_mix_6 : decode cX3_mix 6 = .ok (.i2l, 1) := by decide +kernel
theorem dX3_mix_7 : decode cX3_mix 7 = .ok (.ladd, 1) := by decide +kernel
theorem dX3_mix_8 : decode cX3_mix 8 = .ok (.lreturn, 1) := by decide +kernel
set_option maxRecDepth 20000 in
theorem ggX3_mixAll_X3_mix : GoodIn wsX3_mixAll wsX3_mix := goodIn_r _ [4, 5] (by decide +kernel) (by decide +kernel)
set_option maxRecDepth 20000 in
theorem gX3_mixAll_X3_mix : GoodIn wsX3_mixAll (va_wsS RX3 164 yX3_mix wsX3_mix) := goodIn_app (goodIn_of _ (by decide +kernel)) ggX3_mixAll_X3_mix
theorem dX3_mixAll_0 : decode cX3_mixAll 0 = .ok (.aload_n 2, 1) := by decide +kernel
theorem dX3_mixAll_1 : decode cX3_mixAll 1 = .ok (.astore_n 3, 1) := by decide +kernel
theorem dX3_mixAll_2 : decode cX3_mixAll 2 = .ok (.aload_n 3, 1) := by decide +kernel
theorem dX3_mixAll_3 : decode cX3_mixAll 3 = .ok (.arraylength, 1) := by decide +kernel
theorem dX3_mixAll_4 : decode cX3_mixAll 4 = .ok (.istore 4, 2) := by decide +kernel
theorem dX3_mixAll_6 : decode cX3_mixAll 6 = .ok (.iconst 0, 1) := by decide +kernel
theorem dX3_mixAll_7 : decode cX3_mixAll 7 = .ok (.istore 5, 2) := by decide +kernel
theorem dX3_mixAll_9 : decode cX3_mixAll 9 = .ok (.iload 5, 2) := by decide +kernel
theorem dX3_mixAll_11 : decode cX3_mixAll 11 = .ok (.iload 4, 2) := by decide +kernel
theorem dX3_mixAll_13 : decode cX3_mixAll 13 = .ok (.if_icmp .ge 22, 3) := by decide +kernel
theorem dX3_mixAll_16 : decode cX3_mixAll 16 = .ok (.aload_n 3, 1) := by decide +kernel
theorem dX3_mixAll_17 : decode cX3_mixAll 17 = .ok (.iload 5, 2) := by decide +kernel
theorem dX3_mixAll_19 : decode cX3_mixAll 19 = .ok (.iaload, 1) := by decide +kernel
theorem dX3_mixAll_20 : decode cX3_mixAll 20 = .ok (.istore 6, 2) := by decide +kernel
theorem dX3_mixAll_22 : decode cX3_mixAll 22 = .ok (.lload_n 0, 1) := by decide +kernel
theorem dX3_mixAll_23 : decode cX3_mixAll 23 = .ok (.iload 6, 2) := by decide +kernel
theorem dX3_mixAll_25 : decode cX3_mixAll 25 = .ok (.invokestatic 164, 3) := by decide +kernel
theorem dX3_mixAll_28 : decode cX3_mixAll 28 = .ok (.lstore_n 0, 1) := by decide +kernel
theorem dX3_mixAll_29 : decode cX3_mixAll 29 = .ok (.iinc 5 1, 3) := by decide +kernel
theorem dX3_mixAll_32 : decode cX3_mixAll 32 = .ok (.goto (-23), 3) := by decide +kernel
theorem dX3_mixAll_35 : decode cX3_mixAll 35 = .ok (.lload_n 0, 1) := by decide +kernel
theorem dX3_mixAll_36 : decode cX3_mixAll 36 = .ok (.lreturn, 1) := by decide +kernel
theorem dX4_init_0 : decode cX4_init 0 = .ok (.aload_n 0, 1) := by decide +kernel
theorem dX4_init_1 : decode cX4_init 1 = .ok (.invokespecial 1, 3) := by decide +kernel
theorem dX4_init_4 : decode cX4_init 4 = .ok (.aload_n 0, 1) := by decide +kernel
theorem dX4_init_5 : decode cX4_init 5 = .ok (.sipush 345, 3) := by decide +kernel
theorem dX4_init_8 : decode cX4_init 8 = .ok (.newarray .int, 2) := by decide +kernel
theorem dX4_init_10 : decode cX4_init 10 = .ok (.putfield 7, 3) := by decide +kernel
theorem dX4_init_13 : decode cX4_init 13 = .ok (.aload_n 0, 1) := by decide +kernel
theorem dX4_init_14 : decode cX4_init 14 = .ok (.sipush 1380, 3) := by decide +kernel
theorem dX4_init_17 : decode cX4_init 17 = .ok (.newarray .int, 2) := by decide +kernel
theorem dX4_init_19 : decode cX4_init 19 = .ok (.putfield 13, 3) := by decide +kernel
theorem dX4_init_22 : decode cX4_init 22 = .ok (.aload_n 0, 1) := by decide +kernel
theorem dX4_init_23 : decode cX4_init 23 = .ok (.sipush 345, 3) := by decide +kernel
theorem dX4_init_26 : decode cX4_init 26 = .ok (.newarray .int, 2) := by decide +kernel
theorem dX4_init_28 : decode cX4_init 28 = .ok (.putfield 16, 3) := by decide +kernel
theorem dX4_init_31 : decode cX4_init 31 = .ok (.aload_n 0, 1) := by decide +kernel
theorem dX4_init_32 : decode cX4_init 32 = .ok (.iconst 5, 1) := by decide +kernel
theorem dX4_init_33 : decode cX4_init 33 = .ok (.newarray .int, 2) := by decide +kernel
theorem dX4_init_35 : decode cX4_init 35 = .ok (.putfield 19, 3) := by decide +kernel
theorem dX4_init_38 : decode cX4_init 38 = .ok (.aload_n 0, 1) := by decide +kernel
theorem dX4_init_39 : decode cX4_init 39 = .ok (.bipush 100, 2) := by decide +kernel
theorem dX4_init_41 : decode cX4_init 41 = .ok (.newarray .int, 2) := by decide +kernel
theorem dX4_init_43 : decode cX4_init 43 = .ok (.putfield 22, 3) := by decide +kernel
theorem dX4_init_46 : decode cX4_init 46 = .ok (.aload_n 0, 1) := by decide +kernel
theorem dX4_init_47 : decode cX4_init 47 = .ok (.iconst 4, 1) := by decide +kernel
theorem dX4_init_48 : decode cX4_init 48 = .ok (.newarray .int, 2) := by decide +kernel
theorem dX4_init_50 : decode cX4_init 50 = .ok (.putfield 25, 3) := by decide +kernel
theorem dX4_init_53 : decode cX4_init 53 = .ok (.aload_n 0, 1) := by decide +kernel
theorem dX4_init_54 : decode cX4_init 54 = .ok (.getfield 7, 3) := by decide +kernel
theorem dX4_init_57 : decode cX4_init 57 = .ok (.bipush 12, 2) := by decide +kernel
theorem dX4_init_59 : decode cX4_init 59 = .ok (.iconst 0, 1) := by decide +kernel
theorem dX4_init_60 : decode cX4_init 60 = .ok (.iastore, 1) := by decide +kernel
theorem dX4_init_61 : decode cX4_init 61 = .ok (.return_, 1) := by decide +kernel
theorem dX4_in_0 : decode cX4_in 0 = .ok (.lload_n 0, 1) := by decide +kernel
theorem dX4_in_1 : decode cX4_in 1 = .ok (.lload_n 2, 1) := by decide +kernel
theorem dX4_in_2 : decode cX4_in 2 = .ok (.lcmp, 1) := by decide +kernel
theorem dX4_in_3 : decode cX4_in 3 = .ok (.ifCond .lt 14, 3) := by decide +kernel
theorem dX4_in_6 : decode cX4_in 6 = .ok (.lload_n 0, 1) := by decide +kernel
theorem dX4_in_7 : decode cX4_in 7 = .ok (.lload 4, 2) := by decide +kernel
theorem dX4_in_9 : decode cX4_in 9 = .ok (.lcmp, 1) := by decide +kernel
theorem dX4_in_10 : decode cX4_in 10 = .ok (.ifCond .gt 7, 3) := by decide +kernel
theorem dX4_in_13 : decode cX4_in 13 = .ok (.iconst 1, 1) := by decide +kernel
theorem dX4_in_14 : decode cX4_in 14 = .ok (.goto 4, 3) := by decide +kernel
theorem dX4_in_17 : decode cX4_in 17 = .ok (.iconst 0, 1) := by decide +kernel
theorem dX4_in_18 : decode cX4_in 18 = .ok (.ireturn, 1) := by decide +kernel
theorem dX4_error_0 : decode cX4_error 0 = .ok (.aload_n 0, 1) := by decide +kernel
theorem dX4_error_1 : decode cX4_error 1 = .ok (.getfield 19, 3) := by decide +kernel
theorem dX4_error_4 : decode cX4_error 4 = .ok (.bipush (-2), 2) := by decide +kernel
theorem dX4_error_6 : decode cX4_error 6 = .ok (.iload_n 1, 1) := by decide +kernel
theorem dX4_error_7 : decode cX4_error 7 = .ok (.isub, 1) := by decide +kernel
theorem dX4_error_8 : decode cX4_error 8 = .ok (.dup2, 1) := by decide +kernel
theorem dX4_error_9 : decode cX4_error 9 = .ok (.iaload, 1) := by decide +kernel
theorem dX4_error_10 : decode cX4_error 10 = .ok (.iconst 1, 1) := by decide +kernel
theorem dX4_error_11 : decode cX4_error 11 = .ok (.iadd, 1) := by decide +kernel
theorem dX4_error_12 : decode cX4_error 12 = .ok (.iastore, 1) := by decide +kernel
theorem dX4_error_13 : decode cX4_error 13 = .ok (.iload_n 1, 1) := by decide +kernel
theorem dX4_error_14 : decode cX4_error 14 = .ok (.ireturn, 1) := by decide +kernel
set_option maxRecDepth 20000 in
theorem ggX4_answered_X4_error : GoodIn wsX4_answered wsX4_error := goodIn_r _ [5, 6, 14, 15, 16, 17, 18, 19, 20, 21, 22, 23] (by decide +kernel) (by decide +kernel)
set_option maxRecDepth 20000 in
theorem gX4_answered_X4_error : GoodIn wsX4_answered (wsV RX4 28 RX4 yX4_error wsX4_error) := goodIn_app (goodIn_of _ (by decide +kernel)) ggX4_answered_X4_error
set_option maxRecDepth 20000 in
theorem ggX4_answered_X4_savesAside : GoodIn wsX4_answered wsX4_savesAside := goodIn_r _ [10, 11, 12, 13, 14, 15, 16, 17, 18, 19, 20, 21, 22, 23] (by decide +kernel) (by decide +kernel)
set_option maxRecDepth 20000 in
theorem gX4_answered_X4_savesAside : GoodIn wsX4_answered (wsV RX4 32 RX4 yX4_savesAside wsX4_savesAside) := goodIn_app (goodIn_of _ (by decide +kernel)) ggX4_answered_X4_savesAside
theorem dX4_answered_0 : decode cX4_answered 0 = .ok (.iload_n 1, 1) := by decide +kernel
theorem dX4_answered_1 : decode cX4_answered 1 = .ok (.ifCond .ge 9, 3) := by decide +kernel
theorem dX4_answered_4 : decode cX4_answered 4 = .ok (.aload_n 0, 1) := by decide +kernel
theorem dX4_answered_5 : decode cX4_answered 5 = .ok (.iload_n 1, 1) := by decide +kernel
theorem dX4_answered_6 : decode cX4_answered 6 = .ok (.invokevirtual 28, 3) := by decide +kernel
theorem dX4_answered_9 : decode cX4_answered 9 = .ok (.ireturn, 1) := by decide +kernel
theorem dX4_answered_10 : decode cX4_answered 10 = .ok (.aload_n 0, 1) := by decide +kernel
theorem dX4_answered_11 : decode cX4_answered 11 = .ok (.invokevirtual 32, 3) := by decide +kernel
theorem dX4_answered_14 : decode cX4_answered 14 = .ok (.iload_n 1, 1) := by decide +kernel
theorem dX4_answered_15 : decode cX4_answered 15 = .ok (.ireturn, 1) := by decide +kernel
theorem dX4_putsAside_0 : decode cX4_putsAside 0 = .ok (.iconst 0, 1) := by decide +kernel
theorem dX4_putsAside_1 : decode cX4_putsAside 1 = .ok (.istore_n 1, 1) := by decide +kernel
theorem dX4_putsAside_2 : decode cX4_putsAside 2 = .ok (.iload_n 1, 1) := by decide +kernel
theorem dX4_putsAside_3 : decode cX4_putsAside 3 = .ok (.sipush 345, 3) := by decide +kernel
theorem dX4_putsAside_6 : decode cX4_putsAside 6 = .ok (.if_icmp .ge 21, 3) := by decide +kernel
theorem dX4_putsAside_9 : decode cX4_putsAside 9 = .ok (.aload_n 0, 1) := by decide +kernel
theorem dX4_putsAside_10 : decode cX4_putsAside 10 = .ok (.getfield 16, 3) := by decide +kernel
theorem dX4_putsAside_13 : decode cX4_putsAside 13 = .ok (.iload_n 1, 1) := by decide +kernel
theorem dX4_putsAside_14 : decode cX4_putsAside 14 = .ok (.aload_n 0, 1) := by decide +kernel
theorem dX4_putsAside_15 : decode cX4_putsAside 15 = .ok (.getfield 7, 3) := by decide +kernel
theorem dX4_putsAside_18 : decode cX4_putsAside 18 = .ok (.iload_n 1, 1) := by decide +kernel
theorem dX4_putsAside_19 : decode cX4_putsAside 19 = .ok (.iaload, 1) := by decide +kernel
theorem dX4_putsAside_20 : decode cX4_putsAside 20 = .ok (.iastore, 1) := by decide +kernel
theorem dX4_putsAside_21 : decode cX4_putsAside 21 = .ok (.iinc 1 1, 3) := by decide +kernel
theorem dX4_putsAside_24 : decode cX4_putsAside 24 = .ok (.goto (-22), 3) := by decide +kernel
theorem dX4_putsAside_27 : decode cX4_putsAside 27 = .ok (.return_, 1) := by decide +kernel
theorem dX4_savesAside_0 : decode cX4_savesAside 0 = .ok (.aload_n 0, 1) := by decide +kernel
theorem dX4_savesAside_1 : decode cX4_savesAside 1 = .ok (.getfield 35, 3) := by decide +kernel
theorem dX4_savesAside_4 : decode cX4_savesAside 4 = .ok (.iconst 4, 1) := by decide +kernel
theorem dX4_savesAside_5 : decode cX4_savesAside 5 = .ok (.if_icmp .ne 44, 3) := by decide +kernel
theorem dX4_savesAside_8 : decode cX4_savesAside 8 = .ok (.iconst 0, 1) := by decide +kernel
theorem dX4_savesAside_9 : decode cX4_savesAside 9 = .ok (.istore_n 1, 1) := by decide +kernel
theorem dX4_savesAside_10 : decode cX4_savesAside 10 = .ok (.iload_n 1, 1) := by decide +kernel
theorem dX4_savesAside_11 : decode cX4_savesAside 11 = .ok (.sipush 1035, 3) := by decide +kernel
theorem dX4_savesAside_14 : decode cX4_savesAside 14 = .ok (.if_icmp .ge 25, 3) := by decide +kernel
theorem dX4_savesAside_17 : decode cX4_savesAside 17 = .ok (.aload_n 0, 1) := by decide +kernel
theorem dX4_savesAside_18 : decode cX4_savesAside 18 = .ok (.getfield 13, 3) := by decide +kernel
theorem dX4_savesAside_21 : decode cX4_savesAside 21 = .ok (.iload_n 1, 1) := by decide +kernel
theorem dX4_savesAside_22 : decode cX4_savesAside 22 = .ok (.aload_n 0, 1) := by decide +kernel
theorem dX4_savesAside_23 : decode cX4_savesAside 23 = .ok (.getfield 13, 3) := by decide +kernel
theorem dX4_savesAside_26 : decode cX4_savesAside 26 = .ok (.iload_n 1, 1) := by decide +kernel
theorem dX4_savesAside_27 : decode cX4_savesAside 27 = .ok (.sipush 345, 3) := by decide +kernel
theorem dX4_savesAside_30 : decode cX4_savesAside 30 = .ok (.iadd, 1) := by decide +kernel
theorem dX4_savesAside_31 : decode cX4_savesAside 31 = .ok (.iaload, 1) := by decide +kernel
theorem dX4_savesAside_32 : decode cX4_savesAside 32 = .ok (.iastore, 1) := by decide +kernel
theorem dX4_savesAside_33 : decode cX4_savesAside 33 = .ok (.iinc 1 1, 3) := by decide +kernel
theorem dX4_savesAside_36 : decode cX4_savesAside 36 = .ok (.goto (-26), 3) := by decide +kernel
theorem dX4_savesAside_39 : decode cX4_savesAside 39 = .ok (.aload_n 0, 1) := by decide +kernel
theorem dX4_savesAside_40 : decode cX4_savesAside 40 = .ok (.dup, 1) := by decide +kernel
theorem dX4_savesAside_41 : decode cX4_savesAside 41 = .ok (.getfield 35, 3) := by decide +kernel
theorem dX4_savesAside_44 : decode cX4_savesAside 44 = .ok (.iconst 1, 1) := by decide +kernel
theorem dX4_savesAside_45 : decode cX4_savesAside 45 = .ok (.isub, 1) := by decide +kernel
theorem dX4_savesAside_46 : decode cX4_savesAside 46 = .ok (.putfield 35, 3) := by decide +kernel
theorem dX4_savesAside_49 : decode cX4_savesAside 49 = .ok (.iconst 0, 1) := by decide +kernel
theorem dX4_savesAside_50 : decode cX4_savesAside 50 = .ok (.istore_n 1, 1) := by decide +kernel
theorem dX4_savesAside_51 : decode cX4_savesAside 51 = .ok (.iload_n 1, 1) := by decide +kernel
theorem dX4_savesAside_52 : decode cX4_savesAside 52 = .ok (.sipush 345, 3) := by decide +kernel
theorem dX4_savesAside_55 : decode cX4_savesAside 55 = .ok (.if_icmp .ge 30, 3) := by decide +kernel
theorem dX4_savesAside_58 : decode cX4_savesAside 58 = .ok (.aload_n 0, 1) := by decide +kernel
theorem dX4_savesAside_59 : decode cX4_savesAside 59 = .ok (.getfield 13, 3) := by decide +kernel
theorem dX4_savesAside_62 : decode cX4_savesAside 62 = .ok (.sipush 345, 3) := by decide +kernel
theorem dX4_savesAside_65 : decode cX4_savesAside 65 = .ok (.aload_n 0, 1) := by decide +kernel
theorem dX4_savesAside_66 : decode cX4_savesAside 66 = .ok (.getfield 35, 3) := by decide +kernel
theorem dX4_savesAside_69 : decode cX4_savesAside 69 = .ok (.imul, 1) := by decide +kernel
theorem dX4_savesAside_70 : decode cX4_savesAside 70 = .ok (.iload_n 1, 1) := by decide +kernel
theorem dX4_savesAside_71 : decode cX4_savesAside 71 = .ok (.iadd, 1) := by decide +kernel
theorem dX4_savesAside_72 : decode cX4_savesAside 72 = .ok (.aload_n 0, 1) := by decide +kernel
theorem dX4_savesAside_73 : decode cX4_savesAside 73 = .ok (.getfield 16, 3) := by decide +kernel
theorem dX4_savesAside_76 : decode cX4_savesAside 76 = .ok (.iload_n 1, 1) := by decide +kernel
theorem dX4_savesAside_77 : decode cX4_savesAside 77 = .ok (.iaload, 1) := by decide +kernel
theorem dX4_savesAside_78 : decode cX4_savesAside 78 = .ok (.iastore, 1) := by decide +kernel
theorem dX4_savesAside_79 : decode cX4_savesAside 79 = .ok (.iinc 1 1, 3) := by decide +kernel
theorem dX4_savesAside_82 : decode cX4_savesAside 82 = .ok (.goto (-31), 3) := by decide +kernel
theorem dX4_savesAside_85 : decode cX4_savesAside 85 = .ok (.aload_n 0, 1) := by decide +kernel
theorem dX4_savesAside_86 : decode cX4_savesAside 86 = .ok (.dup, 1) := by decide +kernel
theorem dX4_savesAside_87 : decode cX4_savesAside 87 = .ok (.getfield 35, 3) := by decide +kernel
theorem dX4_savesAside_90 : decode cX4_savesAside 90 = .ok (.iconst 1, 1) := by decide +kernel
theorem dX4_savesAside_91 : decode cX4_savesAside 91 = .ok (.iadd, 1) := by decide +kernel
theorem dX4_savesAside_92 : decode cX4_savesAside 92 = .ok (.putfield 35, 3) := by decide +kernel
theorem dX4_savesAside_95 : decode cX4_savesAside 95 = .ok (.return_, 1) := by decide +kernel
set_option maxRecDepth 20000 in
theorem ggX4_isClient_X4_in : GoodIn wsX4_isClient wsX4_in := goodIn_r _ [5] (by decide +kernel) (by decide +kernel)
set_option maxRecDepth 20000 in
theorem gX4_isClient_X4_in : GoodIn wsX4_isClient (va_wsS RX4 41 yX4_in wsX4_in) := goodIn_app (goodIn_of _ (by decide +kernel)) ggX4_isClient_X4_in
theorem dX4_isClient_0 : decode cX4_isClient 0 = .ok (.iload_n 0, 1) := by decide +kernel
theorem dX4_isClient_1 : decode cX4_isClient 1 = .ok (.i2l, 1) := by decide +kernel
theorem dX4_isClient_2 : decode cX4_isClient 2 = .ok (.lconst 0, 1) := by decide +kernel
theorem dX4_isClient_3 : decode cX4_isClient 3 = .ok (.ldc2_w 39, 3) := by decide +kernel
theorem dX4_isClient_6 : decode cX4_isClient 6 = .ok (.invokestatic 41, 3) := by decide +kernel
theorem dX4_isClient_9 : decode cX4_isClient 9 = .ok (.ireturn, 1) := by decide +kernel
set_option maxRecDepth 20000 in
theorem ggX4_isReplica_X4_in : GoodIn wsX4_isReplica wsX4_in := goodIn_r _ [5] (by decide +kernel) (by decide +kernel)
set_option maxRecDepth 20000 in
theorem gX4_isReplica_X4_in : GoodIn wsX4_isReplica (va_wsS RX4 41 yX4_in wsX4_in) := goodIn_app (goodIn_of _ (by decide +kernel)) ggX4_isReplica_X4_in
theorem dX4_isReplica_0 : decode cX4_isReplica 0 = .ok (.iload_n 0, 1) := by decide +kernel
theorem dX4_isReplica_1 : decode cX4_isReplica 1 = .ok (.i2l, 1) := by decide +kernel
theorem dX4_isReplica_2 : decode cX4_isReplica 2 = .ok (.lconst 0, 1) := by decide +kernel
theorem dX4_isReplica_3 : decode cX4_isReplica 3 = .ok (.ldc2_w 45, 3) := by decide +kernel
theorem dX4_isReplica_6 : decode cX4_isReplica 6 = .ok (.invokestatic 41, 3) := by decide +kernel
theorem dX4_isReplica_9 : decode cX4_isReplica 9 = .ok (.ireturn, 1) := by decide +kernel
set_option maxRecDepth 20000 in
theorem ggX4_isKey_X4_in : GoodIn wsX4_isKey wsX4_in := goodIn_r _ [5] (by decide +kernel) (by decide +kernel)
set_option maxRecDepth 20000 in
theorem gX4_isKey_X4_in : GoodIn wsX4_isKey (va_wsS RX4 41 yX4_in wsX4_in) := goodIn_app (goodIn_of _ (by decide +kernel)) ggX4_isKey_X4_in
theorem dX4_isKey_0 : decode cX4_isKey 0 = .ok (.iload_n 0, 1) := by decide +kernel
theorem dX4_isKey_1 : decode cX4_isKey 1 = .ok (.i2l, 1) := by decide +kernel
theorem dX4_isKey_2 : decode cX4_isKey 2 = .ok (.lconst 0, 1) := by decide +kernel
theorem dX4_isKey_3 : decode cX4_isKey 3 = .ok (.ldc2_w 39, 3) := by decide +kernel
theorem dX4_isKey_6 : decode cX4_isKey 6 = .ok (.invokestatic 41, 3) := by decide +kernel
theorem dX4_isKey_9 : decode cX4_isKey 9 = .ok (.ireturn, 1) := by decide +kernel
theorem dX4_guarantees_0 : decode cX4_guarantees 0 = .ok (.aload_n 0, 1) := by decide +kernel
theorem dX4_guarantees_1 : decode cX4_guarantees 1 = .ok (.getfield 7, 3) := by decide +kernel
theorem dX4_guarantees_4 : decode cX4_guarantees 4 = .ok (.sipush 313, 3) := by decide +kernel
theorem dX4_guarantees_7 : decode cX4_guarantees 7 = .ok (.bipush 7, 2) := by decide +kernel
theorem dX4_guarantees_9 : decode cX4_guarantees 9 = .ok (.iload_n 1, 1) := by decide +kernel
theorem dX4_guarantees_10 : decode cX4_guarantees 10 = .ok (.imul, 1) := by decide +kernel
theorem dX4_guarantees_11 : decode cX4_guarantees 11 = .ok (.iadd, 1) := by decide +kernel
theorem dX4_guarantees_12 : decode cX4_guarantees 12 = .ok (.iaload, 1) := by decide +kernel
theorem dX4_guarantees_13 : decode cX4_guarantees 13 = .ok (.ireturn, 1) := by decide +kernel
set_option maxRecDepth 20000 in
theorem ggX4_doesSet_X4_isClient : GoodIn wsX4_doesSet wsX4_isClient := goodIn_r _ [6, 7, 8, 9, 5, 10] (by decide +kernel) (by decide +kernel)
set_option maxRecDepth 20000 in
theorem gX4_doesSet_X4_isClient : GoodIn wsX4_doesSet (va_wsS RX4 47 yX4_isClient wsX4_isClient) := goodIn_app (goodIn_of _ (by decide +kernel)) ggX4_doesSet_X4_isClient
set_option maxRecDepth 20000 in
theorem ggX4_doesSet_X4_in : GoodIn wsX4_doesSet wsX4_in := goodIn_r _ [10] (by decide +kernel) (by decide +kernel)
set_option maxRecDepth 20000 in
theorem gX4_doesSet_X4_in : GoodIn wsX4_doesSet (va_wsS RX4 41 yX4_in wsX4_in) := goodIn_app (goodIn_of _ (by decide +kernel)) ggX4_doesSet_X4_in
set_option maxRecDepth 20000 in
theorem ggX4_doesSet_X4_guarantees : GoodIn wsX4_doesSet wsX4_guarantees := goodIn_r _ [14, 2, 15, 16, 17, 18, 19, 20, 21, 22, 23, 24] (by decide +kernel) (by decide +kernel)
set_option maxRecDepth 20000 in
theorem gX4_doesSet_X4_guarantees : GoodIn wsX4_doesSet (wsV RX4 53 RX4 yX4_guarantees wsX4_guarantees) := goodIn_app (goodIn_of _ (by decide +kernel)) ggX4_doesSet_X4_guarantees
theorem dX4_doesSet_0 : decode cX4_doesSet 0 = .ok (.iload_n 1, 1) := by decide +kernel
theorem dX4_doesSet_1 : decode cX4_doesSet 1 = .ok (.invokestatic 47, 3) := by decide +kernel
theorem dX4_doesSet_4 : decode cX4_doesSet 4 = .ok (.ifCond .eq 15, 3) := by decide +kernel
theorem dX4_doesSet_7 : decode cX4_doesSet 7 = .ok (.iload_n 2, 1) := by decide +kernel
theorem dX4_doesSet_8 : decode cX4_doesSet 8 = .ok (.i2l, 1) := by decide +kernel
theorem dX4_doesSet_9 : decode cX4_doesSet 9 = .ok (.lconst 0, 1) := by decide +kernel
theorem dX4_doesSet_10 : decode cX4_doesSet 10 = .ok (.ldc2_w 51, 3) := by decide +kernel
theorem dX4_doesSet_13 : decode cX4_doesSet 13 = .ok (.invokestatic 41, 3) := by decide +kernel
theorem dX4_doesSet_16 : decode cX4_doesSet 16 = .ok (.ifCond .ne 6, 3) := by decide +kernel
theorem dX4_doesSet_19 : decode cX4_doesSet 19 = .ok (.bipush (-2), 2) := by decide +kernel
theorem dX4_doesSet_21 : decode cX4_doesSet 21 = .ok (.ireturn, 1) := by decide +kernel
theorem dX4_doesSet_22 : decode cX4_doesSet 22 = .ok (.aload_n 0, 1) := by decide +kernel
theorem dX4_doesSet_23 : decode cX4_doesSet 23 = .ok (.iload_n 1, 1) := by decide +kernel
theorem dX4_doesSet_24 : decode cX4_doesSet 24 = .ok (.invokevirtual 53, 3) := by decide +kernel
theorem dX4_doesSet_27 : decode cX4_doesSet 27 = .ok (.istore_n 3, 1) := by decide +kernel
theorem dX4_doesSet_28 : decode cX4_doesSet 28 = .ok (.aload_n 0, 1) := by decide +kernel
theorem dX4_doesSet_29 : decode cX4_doesSet 29 = .ok (.getfield 7, 3) := by decide +kernel
theorem dX4_doesSet_32 : decode cX4_doesSet 32 = .ok (.sipush 313, 3) := by decide +kernel
theorem dX4_doesSet_35 : decode cX4_doesSet 35 = .ok (.bipush 7, 2) := by decide +kernel
theorem dX4_doesSet_37 : decode cX4_doesSet 37 = .ok (.iload_n 1, 1) := by decide +kernel
theorem dX4_doesSet_38 : decode cX4_doesSet 38 = .ok (.imul, 1) := by decide +kernel
theorem dX4_doesSet_39 : decode cX4_doesSet 39 = .ok (.iadd, 1) := by decide +kernel
theorem dX4_doesSet_40 : decode cX4_doesSet 40 = .ok (.iload_n 2, 1) := by decide +kernel
theorem dX4_doesSet_41 : decode cX4_doesSet 41 = .ok (.iastore, 1) := by decide +kernel
theorem dX4_doesSet_42 : decode cX4_doesSet 42 = .ok (.iload_n 3, 1) := by decide +kernel
theorem dX4_doesSet_43 : decode cX4_doesSet 43 = .ok (.ireturn, 1) := by decide +kernel
set_option maxRecDepth 20000 in
theorem ggX4_setGuarantees_X4_putsAside : GoodIn wsX4_setGuarantees wsX4_putsAside := goodIn_r _ [5, 6, 7, 39, 40, 41, 42, 43, 44, 45, 46, 47, 48] (by decide +kernel) (by decide +kernel)
set_option maxRecDepth 20000 in
theorem gX4_setGuarantees_X4_putsAside : GoodIn wsX4_setGuarantees (wsV RX4 56 RX4 yX4_putsAside wsX4_putsAside) := goodIn_app (goodIn_of _ (by decide +kernel)) ggX4_setGuarantees_X4_putsAside
set_option maxRecDepth 20000 in
theorem ggX4_setGuarantees_X4_doesSet : GoodIn wsX4_setGuarantees wsX4_doesSet := goodIn_r _ [11, 12, 7, 13, 14, 4, 15, 16, 17, 18, 19, 20, 21, 22, 23, 39, 40, 41, 42, 43, 44, 45, 46, 47, 48] (by decide +kernel) (by decide +kernel)
set_option maxRecDepth 20000 in
theorem gX4_setGuarantees_X4_doesSet : GoodIn wsX4_setGuarantees (wsV RX4 59 RX4 yX4_doesSet wsX4_doesSet) := goodIn_app (goodIn_of _ (by decide +kernel)) ggX4_setGuarantees_X4_doesSet
set_option maxRecDepth 20000 in
theorem ggX4_setGuarantees_X4_answered : GoodIn wsX4_setGuarantees wsX4_answered := goodIn_r _ [27, 28, 29, 30, 4, 31, 32, 33, 34, 35, 36, 37, 38, 6, 39, 40, 41, 42, 43, 44, 45, 46, 47, 48] (by decide +kernel) (by decide +kernel)
set_option maxRecDepth 20000 in
theorem gX4_setGuarantees_X4_answered : GoodIn wsX4_setGuarantees (wsV RX4 63 RX4 yX4_answered wsX4_answered) := goodIn_app (goodIn_of _ (by decide +kernel)) ggX4_setGuarantees_X4_answered
theorem dX4_setGuarantees_0 : decode cX4_setGuarantees 0 = .ok (.aload_n 0, 1) := by decide +kernel
theorem dX4_setGuarantees_1 : decode cX4_setGuarantees 1 = .ok (.invokevirtual 56, 3) := by decide +kernel
theorem dX4_setGuarantees_4 : decode cX4_setGuarantees 4 = .ok (.aload_n 0, 1) := by decide +kernel
theorem dX4_setGuarantees_5 : decode cX4_setGuarantees 5 = .ok (.aload_n 0, 1) := by decide +kernel
theorem dX4_setGuarantees_6 : decode cX4_setGuarantees 6 = .ok (.iload_n 1, 1) := by decide +kernel
theorem dX4_setGuarantees_7 : decode cX4_setGuarantees 7 = .ok (.iload_n 2, 1) := by decide +kernel
theorem dX4_setGuarantees_8 : decode cX4_setGuarantees 8 = .ok (.invokevirtual 59, 3) := by decide +kernel
theorem dX4_setGuarantees_11 : decode cX4_setGuarantees 11 = .ok (.invokevirtual 63, 3) := by decide +kernel
theorem dX4_setGuarantees_14 : decode cX4_setGuarantees 14 = .ok (.ireturn, 1) := by decide +kernel
set_option maxRecDepth 20000 in
theorem ggX4_doesForget_X4_isClient : GoodIn wsX4_doesForget wsX4_isClient := goodIn_r _ [5, 6, 7, 8, 4, 9] (by decide +kernel) (by decide +kernel)
set_option maxRecDepth 20000 in
theorem gX4_doesForget_X4_isClient : GoodIn wsX4_doesForget (va_wsS RX4 47 yX4_isClient wsX4_isClient) := goodIn_app (goodIn_of _ (by decide +kernel)) ggX4_doesForget_X4_isClient
theorem dX4_doesForget_0 : decode cX4_doesForget 0 = .ok (.iload_n 1, 1) := by decide +kernel
theorem dX4_doesForget_1 : decode cX4_doesForget 1 = .ok (.invokestatic 47, 3) := by decide +kernel
theorem dX4_doesForget_4 : decode cX4_doesForget 4 = .ok (.ifCond .ne 6, 3) := by decide +kernel
theorem dX4_doesForget_7 : decode cX4_doesForget 7 = .ok (.bipush (-2), 2) := by decide +kernel
theorem dX4_doesForget_9 : decode cX4_doesForget 9 = .ok (.ireturn, 1) := by decide +kernel
theorem dX4_doesForget_10 : decode cX4_doesForget 10 = .ok (.iconst 0, 1) := by decide +kernel
theorem dX4_doesForget_11 : decode cX4_doesForget 11 = .ok (.istore_n 2, 1) := by decide +kernel
theorem dX4_doesForget_12 : decode cX4_doesForget 12 = .ok (.iconst 1, 1) := by decide +kernel
theorem dX4_doesForget_13 : decode cX4_doesForget 13 = .ok (.istore_n 3, 1) := by decide +kernel
theorem dX4_doesForget_14 : decode cX4_doesForget 14 = .ok (.iload_n 3, 1) := by decide +kernel
theorem dX4_doesForget_15 : decode cX4_doesForget 15 = .ok (.bipush 7, 2) := by decide +kernel
theorem dX4_doesForget_17 : decode cX4_doesForget 17 = .ok (.if_icmp .ge 43, 3) := by decide +kernel
theorem dX4_doesForget_20 : decode cX4_doesForget 20 = .ok (.iload_n 2, 1) := by decide +kernel
theorem dX4_doesForget_21 : decode cX4_doesForget 21 = .ok (.aload_n 0, 1) := by decide +kernel
theorem dX4_doesForget_22 : decode cX4_doesForget 22 = .ok (.getfield 7, 3) := by decide +kernel
theorem dX4_doesForget_25 : decode cX4_doesForget 25 = .ok (.sipush 313, 3) := by decide +kernel
theorem dX4_doesForget_28 : decode cX4_doesForget 28 = .ok (.bipush 7, 2) := by decide +kernel
theorem dX4_doesForget_30 : decode cX4_doesForget 30 = .ok (.iload_n 1, 1) := by decide +kernel
theorem dX4_doesForget_31 : decode cX4_doesForget 31 = .ok (.imul, 1) := by decide +kernel
theorem dX4_doesForget_32 : decode cX4_doesForget 32 = .ok (.iadd, 1) := by decide +kernel
theorem dX4_doesForget_33 : decode cX4_doesForget 33 = .ok (.iload_n 3, 1) := by decide +kernel
theorem dX4_doesForget_34 : decode cX4_doesForget 34 = .ok (.iadd, 1) := by decide +kernel
theorem dX4_doesForget_35 : decode cX4_doesForget 35 = .ok (.iaload, 1) := by decide +kernel
theorem dX4_doesForget_36 : decode cX4_doesForget 36 = .ok (.iadd, 1) := by decide +kernel
theorem dX4_doesForget_37 : decode cX4_doesForget 37 = .ok (.istore_n 2, 1) := by decide +kernel
theorem dX4_doesForget_38 : decode cX4_doesForget 38 = .ok (.aload_n 0, 1) := by decide +kernel
theorem dX4_doesForget_39 : decode cX4_doesForget 39 = .ok (.getfield 7, 3) := by decide +kernel
theorem dX4_doesForget_42 : decode cX4_doesForget 42 = .ok (.sipush 313, 3) := by decide +kernel
theorem dX4_doesForget_45 : decode cX4_doesForget 45 = .ok (.bipush 7, 2) := by decide +kernel
theorem dX4_doesForget_47 : decode cX4_doesForget 47 = .ok (.iload_n 1, 1) := by decide +kernel
theorem dX4_doesForget_48 : decode cX4_doesForget 48 = .ok (.imul, 1) := by decide +kernel
theorem dX4_doesForget_49 : decode cX4_doesForget 49 = .ok (.iadd, 1) := by decide +kernel
theorem dX4_doesForget_50 : decode cX4_doesForget 50 = .ok (.iload_n 3, 1) := by decide +kernel
theorem dX4_doesForget_51 : decode cX4_doesForget 51 = .ok (.iadd, 1) := by decide +kernel
theorem dX4_doesForget_52 : decode cX4_doesForget 52 = .ok (.iconst 0, 1) := by decide +kernel
theorem dX4_doesForget_53 : decode cX4_doesForget 53 = .ok (.iastore, 1) := by decide +kernel
theorem dX4_doesForget_54 : decode cX4_doesForget 54 = .ok (.iinc 3 1, 3) := by decide +kernel
theorem dX4_doesForget_57 : decode cX4_doesForget 57 = .ok (.goto (-43), 3) := by decide +kernel
theorem dX4_doesForget_60 : decode cX4_doesForget 60 = .ok (.iload_n 2, 1) := by decide +kernel
theorem dX4_doesForget_61 : decode cX4_doesForget 61 = .ok (.ireturn, 1) := by decide +kernel
set_option maxRecDepth 20000 in
theorem ggX4_forget_X4_putsAside : GoodIn wsX4_forget wsX4_putsAside := goodIn_r _ [5, 6, 7, 34, 35, 36, 37, 38, 39, 40, 41, 42, 43] (by decide +kernel) (by decide +kernel)
set_option maxRecDepth 20000 in
theorem gX4_forget_X4_putsAside : GoodIn wsX4_forget (wsV RX4 56 RX4 yX4_putsAside wsX4_putsAside) := goodIn_app (goodIn_of _ (by decide +kernel)) ggX4_forget_X4_putsAside
set_option maxRecDepth 20000 in
theorem ggX4_forget_X4_doesForget : GoodIn wsX4_forget wsX4_doesForget := goodIn_r _ [11, 7, 12, 13, 4, 14, 15, 16, 17, 18, 34, 35, 36, 37, 38, 39, 40, 41, 42, 43] (by decide +kernel) (by decide +kernel)
set_option maxRecDepth 20000 in
theorem gX4_forget_X4_doesForget : GoodIn wsX4_forget (wsV RX4 66 RX4 yX4_doesForget wsX4_doesForget) := goodIn_app (goodIn_of _ (by decide +kernel)) ggX4_forget_X4_doesForget
set_option maxRecDepth 20000 in
theorem ggX4_forget_X4_answered : GoodIn wsX4_forget wsX4_answered := goodIn_r _ [22, 23, 24, 25, 4, 26, 27, 28, 29, 30, 31, 32, 33, 6, 34, 35, 36, 37, 38, 39, 40, 41, 42, 43] (by decide +kernel) (by decide +kernel)
set_option maxRecDepth 20000 in
theorem gX4_forget_X4_answered : GoodIn wsX4_forget (wsV RX4 63 RX4 yX4_answered wsX4_answered) := goodIn_app (goodIn_of _ (by decide +kernel)) ggX4_forget_X4_answered
theorem dX4_forget_0 : decode cX4_forget 0 = .ok (.aload_n 0, 1) := by decide +kernel
theorem dX4_forget_1 : decode cX4_forget 1 = .ok (.invokevirtual 56, 3) := by decide +kernel
theorem dX4_forget_4 : decode cX4_forget 4 = .ok (.aload_n 0, 1) := by decide +kernel
theorem dX4_forget_5 : decode cX4_forget 5 = .ok (.aload_n 0, 1) := by decide +kernel
theorem dX4_forget_6 : decode cX4_forget 6 = .ok (.iload_n 1, 1) := by decide +kernel
theorem dX4_forget_7 : decode cX4_forget 7 = .ok (.invokevirtual 66, 3) := by decide +kernel
theorem dX4_forget_10 : decode cX4_forget 10 = .ok (.invokevirtual 63, 3) := by decide +kernel
theorem dX4_forget_13 : decode cX4_forget 13 = .ok (.ireturn, 1) := by decide +kernel
set_option maxRecDepth 20000 in
theorem ggX4_readCount_X4_isClient : GoodIn wsX4_readCount wsX4_isClient := goodIn_r _ [5, 6, 7, 8, 4, 9] (by decide +kernel) (by decide +kernel)
set_option maxRecDepth 20000 in
theorem gX4_readCount_X4_isClient : GoodIn wsX4_readCount (va_wsS RX4 47 yX4_isClient wsX4_isClient) := goodIn_app (goodIn_of _ (by decide +kernel)) ggX4_readCount_X4_isClient
set_option maxRecDepth 20000 in
theorem ggX4_readCount_X4_isReplica : GoodIn wsX4_readCount wsX4_isReplica := goodIn_r _ [12, 13, 7, 8, 4, 9] (by decide +kernel) (by decide +kernel)
set_option maxRecDepth 20000 in
theorem gX4_readCount_X4_isReplica : GoodIn wsX4_readCount (va_wsS RX4 69 yX4_isReplica wsX4_isReplica) := goodIn_app (goodIn_of _ (by decide +kernel)) ggX4_readCount_X4_isReplica
set_option maxRecDepth 20000 in
theorem ggX4_readCount_X4_error : GoodIn wsX4_readCount wsX4_error := goodIn_r _ [17, 18, 19, 20, 21, 22, 23, 24, 25, 26, 27, 28] (by decide +kernel) (by decide +kernel)
set_option maxRecDepth 20000 in
theorem gX4_readCount_X4_error : GoodIn wsX4_readCount (wsV RX4 28 RX4 yX4_error wsX4_error) := goodIn_app (goodIn_of _ (by decide +kernel)) ggX4_readCount_X4_error
theorem dX4_readCount_0 : decode cX4_readCount 0 = .ok (.iload_n 1, 1) := by decide +kernel
theorem dX4_readCount_1 : decode cX4_readCount 1 = .ok (.invokestatic 47, 3) := by decide +kernel
theorem dX4_readCount_4 : decode cX4_readCount 4 = .ok (.ifCond .eq 30, 3) := by decide +kernel
theorem dX4_readCount_7 : decode cX4_readCount 7 = .ok (.iload_n 2, 1) := by decide +kernel
theorem dX4_readCount_8 : decode cX4_readCount 8 = .ok (.invokestatic 69, 3) := by decide +kernel
theorem dX4_readCount_11 : decode cX4_readCount 11 = .ok (.ifCond .eq 23, 3) := by decide +kernel
theorem dX4_readCount_14 : decode cX4_readCount 14 = .ok (.aload_n 0, 1) := by decide +kernel
theorem dX4_readCount_15 : decode cX4_readCount 15 = .ok (.getfield 7, 3) := by decide +kernel
theorem dX4_readCount_18 : decode cX4_readCount 18 = .ok (.sipush 313, 3) := by decide +kernel
theorem dX4_readCount_21 : decode cX4_readCount 21 = .ok (.bipush 7, 2) := by decide +kernel
theorem dX4_readCount_23 : decode cX4_readCount 23 = .ok (.iload_n 1, 1) := by decide +kernel
theorem dX4_readCount_24 : decode cX4_readCount 24 = .ok (.imul, 1) := by decide +kernel
theorem dX4_readCount_25 : decode cX4_readCount 25 = .ok (.iadd, 1) := by decide +kernel
theorem dX4_readCount_26 : decode cX4_readCount 26 = .ok (.iconst 1, 1) := by decide +kernel
theorem dX4_readCount_27 : decode cX4_readCount 27 = .ok (.iadd, 1) := by decide +kernel
theorem dX4_readCount_28 : decode cX4_readCount 28 = .ok (.iload_n 2, 1) := by decide +kernel
theorem dX4_readCount_29 : decode cX4_readCount 29 = .ok (.iadd, 1) := by decide +kernel
theorem dX4_readCount_30 : decode cX4_readCount 30 = .ok (.iaload, 1) := by decide +kernel
theorem dX4_readCount_31 : decode cX4_readCount 31 = .ok (.goto 9, 3) := by decide +kernel
theorem dX4_readCount_34 : decode cX4_readCount 34 = .ok (.aload_n 0, 1) := by decide +kernel
theorem dX4_readCount_35 : decode cX4_readCount 35 = .ok (.bipush (-2), 2) := by decide +kernel
theorem dX4_readCount_37 : decode cX4_readCount 37 = .ok (.invokevirtual 28, 3) := by decide +kernel
theorem dX4_readCount_40 : decode cX4_readCount 40 = .ok (.ireturn, 1) := by decide +kernel
set_option maxRecDepth 20000 in
theorem ggX4_writeCount_X4_isClient : GoodIn wsX4_writeCount wsX4_isClient := goodIn_r _ [5, 6, 7, 8, 4, 9] (by decide +kernel) (by decide +kernel)
set_option maxRecDepth 20000 in
theorem gX4_writeCount_X4_isClient : GoodIn wsX4_writeCount (va_wsS RX4 47 yX4_isClient wsX4_isClient) := goodIn_app (goodIn_of _ (by decide +kernel)) ggX4_writeCount_X4_isClient
set_option maxRecDepth 20000 in
theorem ggX4_writeCount_X4_isReplica : GoodIn wsX4_writeCount wsX4_isReplica := goodIn_r _ [12, 13, 7, 8, 4, 9] (by decide +kernel) (by decide +kernel)
set_option maxRecDepth 20000 in
theorem gX4_writeCount_X4_isReplica : GoodIn wsX4_writeCount (va_wsS RX4 69 yX4_isReplica wsX4_isReplica) := goodIn_app (goodIn_of _ (by decide +kernel)) ggX4_writeCount_X4_isReplica
set_option maxRecDepth 20000 in
theorem ggX4_writeCount_X4_error : GoodIn wsX4_writeCount wsX4_error := goodIn_r _ [17, 18, 19, 20, 21, 22, 23, 24, 25, 26, 27, 28] (by decide +kernel) (by decide +kernel)
