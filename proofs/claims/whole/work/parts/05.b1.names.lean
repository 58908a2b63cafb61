theorem dX2_isReadAllowed_20 : decode cX2_isReadAllowed 20 = .ok (.iconst 0, 1) := by decide +kernel
theorem dX2_isReadAllowed_21 : decode cX2_isReadAllowed 21 = .ok (.ireturn, 1) := by decide +kernel
set_option maxRecDepth 20000 in
theorem ggX2_isWriteAllowed_X2_unmetByWrite : GoodIn wsX2_isWriteAllowed wsX2_unmetByWrite := goodIn_r _ [6, 7, 8, 9, 10, 11, 12, 13, 14, 5, 15, 16, 17, 18, 19, 20, 21, 22, 23, 24, 25, 26, 27, 28, 29, 30, 31, 32, 33, 34, 35, 36, 37, 38] (by decide +kernel) (by decide +kernel)
set_option maxRecDepth 20000 in
theorem gX2_isWriteAllowed_X2_unmetByWrite : GoodIn wsX2_isWriteAllowed (wsV RX2 91 RX2 yX2_unmetByWrite wsX2_unmetByWrite) := goodIn_app (goodIn_of _ (by decide +kernel)) ggX2_isWriteAllowed_X2_unmetByWrite
theorem dX2_isWriteAllowed_0 : decode cX2_isWriteAllowed 0 = .ok (.aload_n 0, 1) := by decide +kernel
theorem dX2_isWriteAllowed_1 : decode cX2_isWriteAllowed 1 = .ok (.iload_n 1, 1) := by decide +kernel
theorem dX2_isWriteAllowed_2 : decode cX2_isWriteAllowed 2 = .ok (.iload_n 2, 1) := by decide +kernel
theorem dX2_isWriteAllowed_3 : decode cX2_isWriteAllowed 3 = .ok (.invokevirtual 91, 3) := by decide +kernel
theorem dX2_isWriteAllowed_6 : decode cX2_isWriteAllowed 6 = .ok (.aload_n 0, 1) := by decide +kernel
theorem dX2_isWriteAllowed_7 : decode cX2_isWriteAllowed 7 = .ok (.getfield 39, 3) := by decide +kernel
theorem dX2_isWriteAllowed_10 : decode cX2_isWriteAllowed 10 = .ok (.iload_n 1, 1) := by decide +kernel
theorem dX2_isWriteAllowed_11 : decode cX2_isWriteAllowed 11 = .ok (.iaload, 1) := by decide +kernel
theorem dX2_isWriteAllowed_12 : decode cX2_isWriteAllowed 12 = .ok (.iand, 1) := by decide +kernel
theorem dX2_isWriteAllowed_13 : decode cX2_isWriteAllowed 13 = .ok (.ifCond .ne 7, 3) := by decide +kernel
theorem dX2_isWriteAllowed_16 : decode cX2_isWriteAllowed 16 = .ok (.iconst 1, 1) := by decide +kernel
theorem dX2_isWriteAllowed_17 : decode cX2_isWriteAllowed 17 = .ok (.goto 4, 3) := by decide +kernel
theorem dX2_isWriteAllowed_20 : decode cX2_isWriteAllowed 20 = .ok (.iconst 0, 1) := by decide +kernel
theorem dX2_isWriteAllowed_21 : decode cX2_isWriteAllowed 21 = .ok (.ireturn, 1) := by decide +kernel
set_option maxRecDepth 20000 in
theorem ggX2_unmetByRead_X2_covers : GoodIn wsX2_unmetByRead wsX2_covers := goodIn_r _ [7, 8, 9, 10, 6, 11, 12, 13, 14, 15, 16, 17, 18, 19, 20, 21, 22, 23, 24, 25, 26, 27, 28, 29, 30, 31] (by decide +kernel) (by decide +kernel)
set_option maxRecDepth 20000 in
theorem gX2_unmetByRead_X2_covers : GoodIn wsX2_unmetByRead (wsV RX2 102 RX2 yX2_covers wsX2_covers) := goodIn_app (goodIn_of _ (by decide +kernel)) ggX2_unmetByRead_X2_covers
theorem dX2_unmetByRead_0 : decode cX2_unmetByRead 0 = .ok (.iconst 0, 1) := by decide +kernel
theorem dX2_unmetByRead_1 : decode cX2_unmetByRead 1 = .ok (.istore_n 3, 1) := by decide +kernel
theorem dX2_unmetByRead_2 : decode cX2_unmetByRead 2 = .ok (.aload_n 0, 1) := by decide +kernel
theorem dX2_unmetByRead_3 : decode cX2_unmetByRead 3 = .ok (.iload_n 2, 1) := by decide +kernel
theorem dX2_unmetByRead_4 : decode cX2_unmetByRead 4 = .ok (.aload_n 0, 1) := by decide +kernel
theorem dX2_unmetByRead_5 : decode cX2_unmetByRead 5 = .ok (.getfield 45, 3) := by decide +kernel
theorem dX2_unmetByRead_8 : decode cX2_unmetByRead 8 = .ok (.iload_n 1, 1) := by decide +kernel
theorem dX2_unmetByRead_9 : decode cX2_unmetByRead 9 = .ok (.aaload, 1) := by decide +kernel
theorem dX2_unmetByRead_10 : decode cX2_unmetByRead 10 = .ok (.invokevirtual 102, 3) := by decide +kernel
theorem dX2_unmetByRead_13 : decode cX2_unmetByRead 13 = .ok (.ifCond .ne 7, 3) := by decide +kernel
theorem dX2_unmetByRead_16 : decode cX2_unmetByRead 16 = .ok (.iload_n 3, 1) := by decide +kernel
theorem dX2_unmetByRead_17 : decode cX2_unmetByRead 17 = .ok (.iconst 1, 1) := by decide +kernel
theorem dX2_unmetByRead_18 : decode cX2_unmetByRead 18 = .ok (.ior, 1) := by decide +kernel
theorem dX2_unmetByRead_19 : decode cX2_unmetByRead 19 = .ok (.istore_n 3, 1) := by decide +kernel
theorem dX2_unmetByRead_20 : decode cX2_unmetByRead 20 = .ok (.aload_n 0, 1) := by decide +kernel
theorem dX2_unmetByRead_21 : decode cX2_unmetByRead 21 = .ok (.iload_n 2, 1) := by decide +kernel
theorem dX2_unmetByRead_22 : decode cX2_unmetByRead 22 = .ok (.aload_n 0, 1) := by decide +kernel
theorem dX2_unmetByRead_23 : decode cX2_unmetByRead 23 = .ok (.getfield 42, 3) := by decide +kernel
theorem dX2_unmetByRead_26 : decode cX2_unmetByRead 26 = .ok (.iload_n 1, 1) := by decide +kernel
theorem dX2_unmetByRead_27 : decode cX2_unmetByRead 27 = .ok (.aaload, 1) := by decide +kernel
theorem dX2_unmetByRead_28 : decode cX2_unmetByRead 28 = .ok (.invokevirtual 102, 3) := by decide +kernel
theorem dX2_unmetByRead_31 : decode cX2_unmetByRead 31 = .ok (.ifCond .ne 7, 3) := by decide +kernel
theorem dX2_unmetByRead_34 : decode cX2_unmetByRead 34 = .ok (.iload_n 3, 1) := by decide +kernel
theorem dX2_unmetByRead_35 : decode cX2_unmetByRead 35 = .ok (.iconst 2, 1) := by decide +kernel
theorem dX2_unmetByRead_36 : decode cX2_unmetByRead 36 = .ok (.ior, 1) := by decide +kernel
theorem dX2_unmetByRead_37 : decode cX2_unmetByRead 37 = .ok (.istore_n 3, 1) := by decide +kernel
theorem dX2_unmetByRead_38 : decode cX2_unmetByRead 38 = .ok (.iload_n 3, 1) := by decide +kernel
theorem dX2_unmetByRead_39 : decode cX2_unmetByRead 39 = .ok (.ireturn, 1) := by decide +kernel
set_option maxRecDepth 20000 in
theorem ggX2_unmetByWrite_X3_only : GoodIn wsX2_unmetByWrite wsX3_only := goodIn_r _ [5] (by decide +kernel) (by decide +kernel)
set_option maxRecDepth 20000 in
theorem gX2_unmetByWrite_X3_only_n73 : GoodIn wsX2_unmetByWrite (wsX3_only) := ggX2_unmetByWrite_X3_only
set_option maxRecDepth 20000 in
theorem ggX2_unmetByWrite_X2_covers : GoodIn wsX2_unmetByWrite wsX2_covers := goodIn_r _ [10, 11, 12, 13, 9, 14, 15, 16, 17, 18, 19, 20, 4, 21, 22, 23, 24, 25, 26, 27, 28, 29, 30, 31, 32, 33] (by decide +kernel) (by decide +kernel)
set_option maxRecDepth 20000 in
theorem gX2_unmetByWrite_X2_covers : GoodIn wsX2_unmetByWrite (wsV RX2 102 RX2 yX2_covers wsX2_covers) := goodIn_app (goodIn_of _ (by decide +kernel)) ggX2_unmetByWrite_X2_covers
theorem dX2_unmetByWrite_0 : decode cX2_unmetByWrite 0 = .ok (.iconst 0, 1) := by decide +kernel
theorem dX2_unmetByWrite_1 : decode cX2_unmetByWrite 1 = .ok (.istore_n 3, 1) := by decide +kernel
theorem dX2_unmetByWrite_2 : decode cX2_unmetByWrite 2 = .ok (.aload_n 0, 1) := by decide +kernel
theorem dX2_unmetByWrite_3 : decode cX2_unmetByWrite 3 = .ok (.iload_n 2, 1) := by decide +kernel
theorem dX2_unmetByWrite_4 : decode cX2_unmetByWrite 4 = .ok (.invokestatic 73, 3) := by decide +kernel
theorem dX2_unmetByWrite_7 : decode cX2_unmetByWrite 7 = .ok (.aload_n 0, 1) := by decide +kernel
theorem dX2_unmetByWrite_8 : decode cX2_unmetByWrite 8 = .ok (.getfield 42, 3) := by decide +kernel
theorem dX2_unmetByWrite_11 : decode cX2_unmetByWrite 11 = .ok (.iload_n 1, 1) := by decide +kernel
theorem dX2_unmetByWrite_12 : decode cX2_unmetByWrite 12 = .ok (.aaload, 1) := by decide +kernel
theorem dX2_unmetByWrite_13 : decode cX2_unmetByWrite 13 = .ok (.invokevirtual 102, 3) := by decide +kernel
theorem dX2_unmetByWrite_16 : decode cX2_unmetByWrite 16 = .ok (.ifCond .ne 7, 3) := by decide +kernel
theorem dX2_unmetByWrite_19 : decode cX2_unmetByWrite 19 = .ok (.iload_n 3, 1) := by decide +kernel
theorem dX2_unmetByWrite_20 : decode cX2_unmetByWrite 20 = .ok (.iconst 4, 1) := by decide +kernel
theorem dX2_unmetByWrite_21 : decode cX2_unmetByWrite 21 = .ok (.ior, 1) := by decide +kernel
theorem dX2_unmetByWrite_22 : decode cX2_unmetByWrite 22 = .ok (.istore_n 3, 1) := by decide +kernel
theorem dX2_unmetByWrite_23 : decode cX2_unmetByWrite 23 = .ok (.aload_n 0, 1) := by decide +kernel
theorem dX2_unmetByWrite_24 : decode cX2_unmetByWrite 24 = .ok (.iload_n 2, 1) := by decide +kernel
theorem dX2_unmetByWrite_25 : decode cX2_unmetByWrite 25 = .ok (.invokestatic 73, 3) := by decide +kernel
theorem dX2_unmetByWrite_28 : decode cX2_unmetByWrite 28 = .ok (.aload_n 0, 1) := by decide +kernel
theorem dX2_unmetByWrite_29 : decode cX2_unmetByWrite 29 = .ok (.getfield 45, 3) := by decide +kernel
theorem dX2_unmetByWrite_32 : decode cX2_unmetByWrite 32 = .ok (.iload_n 1, 1) := by decide +kernel
theorem dX2_unmetByWrite_33 : decode cX2_unmetByWrite 33 = .ok (.aaload, 1) := by decide +kernel
theorem dX2_unmetByWrite_34 : decode cX2_unmetByWrite 34 = .ok (.invokevirtual 102, 3) := by decide +kernel
theorem dX2_unmetByWrite_37 : decode cX2_unmetByWrite 37 = .ok (.ifCond .ne 8, 3) := by decide +kernel
theorem dX2_unmetByWrite_40 : decode cX2_unmetByWrite 40 = .ok (.iload_n 3, 1) := by decide +kernel
theorem dX2_unmetByWrite_41 : decode cX2_unmetByWrite 41 = .ok (.bipush 8, 2) := by decide +kernel
theorem dX2_unmetByWrite_43 : decode cX2_unmetByWrite 43 = .ok (.ior, 1) := by decide +kernel
theorem dX2_unmetByWrite_44 : decode cX2_unmetByWrite 44 = .ok (.istore_n 3, 1) := by decide +kernel
theorem dX2_unmetByWrite_45 : decode cX2_unmetByWrite 45 = .ok (.iload_n 3, 1) := by decide +kernel
theorem dX2_unmetByWrite_46 : decode cX2_unmetByWrite 46 = .ok (.ireturn, 1) := by decide +kernel
set_option maxRecDepth 20000 in
theorem ggX2_covers_X2_greatestCount : GoodIn wsX2_covers wsX2_greatestCount := goodIn_r _ [5, 6, 7, 8, 9, 10, 11, 12, 13, 14, 15, 16, 17, 18, 19, 20, 21, 22, 23, 24, 25] (by decide +kernel) (by decide +kernel)
set_option maxRecDepth 20000 in
theorem gX2_covers_X2_greatestCount : GoodIn wsX2_covers (wsV RX2 106 RX2 yX2_greatestCount wsX2_greatestCount) := goodIn_app (goodIn_of _ (by decide +kernel)) ggX2_covers_X2_greatestCount
theorem dX2_covers_0 : decode cX2_covers 0 = .ok (.iconst 0, 1) := by decide +kernel
theorem dX2_covers_1 : decode cX2_covers 1 = .ok (.istore_n 3, 1) := by decide +kernel
theorem dX2_covers_2 : decode cX2_covers 2 = .ok (.iload_n 3, 1) := by decide +kernel
theorem dX2_covers_3 : decode cX2_covers 3 = .ok (.iconst 3, 1) := by decide +kernel
theorem dX2_covers_4 : decode cX2_covers 4 = .ok (.if_icmp .ge 23, 3) := by decide +kernel
theorem dX2_covers_7 : decode cX2_covers 7 = .ok (.aload_n 2, 1) := by decide +kernel
theorem dX2_covers_8 : decode cX2_covers 8 = .ok (.iload_n 3, 1) := by decide +kernel
theorem dX2_covers_9 : decode cX2_covers 9 = .ok (.iaload, 1) := by decide +kernel
theorem dX2_covers_10 : decode cX2_covers 10 = .ok (.aload_n 0, 1) := by decide +kernel
theorem dX2_covers_11 : decode cX2_covers 11 = .ok (.iload_n 1, 1) := by decide +kernel
theorem dX2_covers_12 : decode cX2_covers 12 = .ok (.iload_n 3, 1) := by decide +kernel
theorem dX2_covers_13 : decode cX2_covers 13 = .ok (.invokevirtual 106, 3) := by decide +kernel
theorem dX2_covers_16 : decode cX2_covers 16 = .ok (.if_icmp .le 5, 3) := by decide +kernel
theorem dX2_covers_19 : decode cX2_covers 19 = .ok (.iconst 0, 1) := by decide +kernel
theorem dX2_covers_20 : decode cX2_covers 20 = .ok (.ireturn, 1) := by decide +kernel
theorem dX2_covers_21 : decode cX2_covers 21 = .ok (.iinc 3 1, 3) := by decide +kernel
theorem dX2_covers_24 : decode cX2_covers 24 = .ok (.goto (-22), 3) := by decide +kernel
theorem dX2_covers_27 : decode cX2_covers 27 = .ok (.iconst 1, 1) := by decide +kernel
theorem dX2_covers_28 : decode cX2_covers 28 = .ok (.ireturn, 1) := by decide +kernel
set_option maxRecDepth 20000 in
theorem ggX2_greatestCount_X3_contains : GoodIn wsX2_greatestCount wsX3_contains := goodIn_r _ [8] (by decide +kernel) (by decide +kernel)
set_option maxRecDepth 20000 in
theorem gX2_greatestCount_X3_contains_n109 : GoodIn wsX2_greatestCount (wsX3_contains) := ggX2_greatestCount_X3_contains
theorem dX2_greatestCount_0 : decode cX2_greatestCount 0 = .ok (.iconst 0, 1) := by decide +kernel
theorem dX2_greatestCount_1 : decode cX2_greatestCount 1 = .ok (.istore_n 3, 1) := by decide +kernel
theorem dX2_greatestCount_2 : decode cX2_greatestCount 2 = .ok (.iconst 0, 1) := by decide +kernel
theorem dX2_greatestCount_3 : decode cX2_greatestCount 3 = .ok (.istore 4, 2) := by decide +kernel
theorem dX2_greatestCount_5 : decode cX2_greatestCount 5 = .ok (.iload 4, 2) := by decide +kernel
theorem dX2_greatestCount_7 : decode cX2_greatestCount 7 = .ok (.iconst 3, 1) := by decide +kernel
theorem dX2_greatestCount_8 : decode cX2_greatestCount 8 = .ok (.if_icmp .ge 32, 3) := by decide +kernel
theorem dX2_greatestCount_11 : decode cX2_greatestCount 11 = .ok (.iload_n 1, 1) := by decide +kernel
theorem dX2_greatestCount_12 : decode cX2_greatestCount 12 = .ok (.iload 4, 2) := by decide +kernel
theorem dX2_greatestCount_14 : decode cX2_greatestCount 14 = .ok (.invokestatic 109, 3) := by decide +kernel
theorem dX2_greatestCount_17 : decode cX2_greatestCount 17 = .ok (.ifCond .eq 17, 3) := by decide +kernel
theorem dX2_greatestCount_20 : decode cX2_greatestCount 20 = .ok (.iload_n 3, 1) := by decide +kernel
theorem dX2_greatestCount_21 : decode cX2_greatestCount 21 = .ok (.aload_n 0, 1) := by decide +kernel
theorem dX2_greatestCount_22 : decode cX2_greatestCount 22 = .ok (.getfield 33, 3) := by decide +kernel
theorem dX2_greatestCount_25 : decode cX2_greatestCount 25 = .ok (.iload 4, 2) := by decide +kernel
theorem dX2_greatestCount_27 : decode cX2_greatestCount 27 = .ok (.aaload, 1) := by decide +kernel
theorem dX2_greatestCount_28 : decode cX2_greatestCount 28 = .ok (.iload_n 2, 1) := by decide +kernel
theorem dX2_greatestCount_29 : decode cX2_greatestCount 29 = .ok (.iaload, 1) := by decide +kernel
theorem dX2_greatestCount_30 : decode cX2_greatestCount 30 = .ok (.invokestatic 97, 3) := by decide +kernel
theorem dX2_greatestCount_33 : decode cX2_greatestCount 33 = .ok (.istore_n 3, 1) := by decide +kernel
theorem dX2_greatestCount_34 : decode cX2_greatestCount 34 = .ok (.iinc 4 1, 3) := by decide +kernel
theorem dX2_greatestCount_37 : decode cX2_greatestCount 37 = .ok (.goto (-32), 3) := by decide +kernel
theorem dX2_greatestCount_40 : decode cX2_greatestCount 40 = .ok (.iload_n 3, 1) := by decide +kernel
theorem dX2_greatestCount_41 : decode cX2_greatestCount 41 = .ok (.ireturn, 1) := by decide +kernel
set_option maxRecDepth 20000 in
theorem ggX2_valueAt_X2_knows : GoodIn wsX2_valueAt wsX2_knows := goodIn_r _ [8, 9, 10, 11, 17, 18, 19, 20, 21, 22, 23, 24, 25, 26, 27, 28] (by decide +kernel) (by decide +kernel)
set_option maxRecDepth 20000 in
theorem gX2_valueAt_X2_knows : GoodIn wsX2_valueAt (wsV RX2 94 RX2 yX2_knows wsX2_knows) := goodIn_app (goodIn_of _ (by decide +kernel)) ggX2_valueAt_X2_knows
set_option maxRecDepth 20000 in
theorem ggX2_valueAt_X2_isLater : GoodIn wsX2_valueAt wsX2_isLater := goodIn_r _ [15, 16, 11, 17, 18, 19, 20, 21, 22, 23, 24, 25, 26, 27, 28] (by decide +kernel) (by decide +kernel)
set_option maxRecDepth 20000 in
theorem gX2_valueAt_X2_isLater : GoodIn wsX2_valueAt (wsV RX2 112 RX2 yX2_isLater wsX2_isLater) := goodIn_app (goodIn_of _ (by decide +kernel)) ggX2_valueAt_X2_isLater
theorem dX2_valueAt_0 : decode cX2_valueAt 0 = .ok (.iconst (-1), 1) := by decide +kernel
theorem dX2_valueAt_1 : decode cX2_valueAt 1 = .ok (.istore_n 3, 1) := by decide +kernel
theorem dX2_valueAt_2 : decode cX2_valueAt 2 = .ok (.iconst 0, 1) := by decide +kernel
theorem dX2_valueAt_3 : decode cX2_valueAt 3 = .ok (.istore 4, 2) := by decide +kernel
theorem dX2_valueAt_5 : decode cX2_valueAt 5 = .ok (.iload 4, 2) := by decide +kernel
theorem dX2_valueAt_7 : decode cX2_valueAt 7 = .ok (.aload_n 0, 1) := by decide +kernel
theorem dX2_valueAt_8 : decode cX2_valueAt 8 = .ok (.getfield 9, 3) := by decide +kernel
theorem dX2_valueAt_11 : decode cX2_valueAt 11 = .ok (.if_icmp .ge 48, 3) := by decide +kernel
theorem dX2_valueAt_14 : decode cX2_valueAt 14 = .ok (.aload_n 0, 1) := by decide +kernel
theorem dX2_valueAt_15 : decode cX2_valueAt 15 = .ok (.getfield 22, 3) := by decide +kernel
theorem dX2_valueAt_18 : decode cX2_valueAt 18 = .ok (.iload 4, 2) := by decide +kernel
theorem dX2_valueAt_20 : decode cX2_valueAt 20 = .ok (.iaload, 1) := by decide +kernel
theorem dX2_valueAt_21 : decode cX2_valueAt 21 = .ok (.iload_n 2, 1) := by decide +kernel
theorem dX2_valueAt_22 : decode cX2_valueAt 22 = .ok (.if_icmp .ne 31, 3) := by decide +kernel
theorem dX2_valueAt_25 : decode cX2_valueAt 25 = .ok (.aload_n 0, 1) := by decide +kernel
theorem dX2_valueAt_26 : decode cX2_valueAt 26 = .ok (.iload_n 1, 1) := by decide +kernel
theorem dX2_valueAt_27 : decode cX2_valueAt 27 = .ok (.iload 4, 2) := by decide +kernel
theorem dX2_valueAt_29 : decode cX2_valueAt 29 = .ok (.invokevirtual 94, 3) := by decide +kernel
theorem dX2_valueAt_32 : decode cX2_valueAt 32 = .ok (.ifCond .eq 21, 3) := by decide +kernel
theorem dX2_valueAt_35 : decode cX2_valueAt 35 = .ok (.iload_n 3, 1) := by decide +kernel
theorem dX2_valueAt_36 : decode cX2_valueAt 36 = .ok (.iconst (-1), 1) := by decide +kernel
theorem dX2_valueAt_37 : decode cX2_valueAt 37 = .ok (.if_icmp .eq 13, 3) := by decide +kernel
theorem dX2_valueAt_40 : decode cX2_valueAt 40 = .ok (.aload_n 0, 1) := by decide +kernel
theorem dX2_valueAt_41 : decode cX2_valueAt 41 = .ok (.iload 4, 2) := by decide +kernel
theorem dX2_valueAt_43 : decode cX2_valueAt 43 = .ok (.iload_n 3, 1) := by decide +kernel
theorem dX2_valueAt_44 : decode cX2_valueAt 44 = .ok (.invokevirtual 112, 3) := by decide +kernel
theorem dX2_valueAt_47 : decode cX2_valueAt 47 = .ok (.ifCond .eq 6, 3) := by decide +kernel
theorem dX2_valueAt_50 : decode cX2_valueAt 50 = .ok (.iload 4, 2) := by decide +kernel
theorem dX2_valueAt_52 : decode cX2_valueAt 52 = .ok (.istore_n 3, 1) := by decide +kernel
theorem dX2_valueAt_53 : decode cX2_valueAt 53 = .ok (.iinc 4 1, 3) := by decide +kernel
theorem dX2_valueAt_56 : decode cX2_valueAt 56 = .ok (.goto (-51), 3) := by decide +kernel
theorem dX2_valueAt_59 : decode cX2_valueAt 59 = .ok (.iload_n 3, 1) := by decide +kernel
theorem dX2_valueAt_60 : decode cX2_valueAt 60 = .ok (.iconst (-1), 1) := by decide +kernel
theorem dX2_valueAt_61 : decode cX2_valueAt 61 = .ok (.if_icmp .ne 8, 3) := by decide +kernel
theorem dX2_valueAt_64 : decode cX2_valueAt 64 = .ok (.bipush 100, 2) := by decide +kernel
theorem dX2_valueAt_66 : decode cX2_valueAt 66 = .ok (.goto 9, 3) := by decide +kernel
theorem dX2_valueAt_69 : decode cX2_valueAt 69 = .ok (.aload_n 0, 1) := by decide +kernel
theorem dX2_valueAt_70 : decode cX2_valueAt 70 = .ok (.getfield 25, 3) := by decide +kernel
theorem dX2_valueAt_73 : decode cX2_valueAt 73 = .ok (.iload_n 3, 1) := by decide +kernel
theorem dX2_valueAt_74 : decode cX2_valueAt 74 = .ok (.iaload, 1) := by decide +kernel
theorem dX2_valueAt_75 : decode cX2_valueAt 75 = .ok (.ireturn, 1) := by decide +kernel
theorem dX2_knows_0 : decode cX2_knows 0 = .ok (.aload_n 0, 1) := by decide +kernel
theorem dX2_knows_1 : decode cX2_knows 1 = .ok (.getfield 19, 3) := by decide +kernel
theorem dX2_knows_4 : decode cX2_knows 4 = .ok (.iload_n 2, 1) := by decide +kernel
theorem dX2_knows_5 : decode cX2_knows 5 = .ok (.iaload, 1) := by decide +kernel
theorem dX2_knows_6 : decode cX2_knows 6 = .ok (.aload_n 0, 1) := by decide +kernel
theorem dX2_knows_7 : decode cX2_knows 7 = .ok (.getfield 33, 3) := by decide +kernel
theorem dX2_knows_10 : decode cX2_knows 10 = .ok (.iload_n 1, 1) := by decide +kernel
theorem dX2_knows_11 : decode cX2_knows 11 = .ok (.aaload, 1) := by decide +kernel
theorem dX2_knows_12 : decode cX2_knows 12 = .ok (.aload_n 0, 1) := by decide +kernel
theorem dX2_knows_13 : decode cX2_knows 13 = .ok (.getfield 15, 3) := by decide +kernel
theorem dX2_knows_16 : decode cX2_knows 16 = .ok (.iload_n 2, 1) := by decide +kernel
theorem dX2_knows_17 : decode cX2_knows 17 = .ok (.iaload, 1) := by decide +kernel
theorem dX2_knows_18 : decode cX2_knows 18 = .ok (.iaload, 1) := by decide +kernel
theorem dX2_knows_19 : decode cX2_knows 19 = .ok (.if_icmp .gt 7, 3) := by decide +kernel
theorem dX2_knows_22 : decode cX2_knows 22 = .ok (.iconst 1, 1) := by decide +kernel
theorem dX2_knows_23 : decode cX2_knows 23 = .ok (.goto 4, 3) := by decide +kernel
theorem dX2_knows_26 : decode cX2_knows 26 = .ok (.iconst 0, 1) := by decide +kernel
theorem dX2_knows_27 : decode cX2_knows 27 = .ok (.ireturn, 1) := by decide +kernel
theorem dX2_isLater_0 : decode cX2_isLater 0 = .ok (.aload_n 0, 1) := by decide +kernel
theorem dX2_isLater_1 : decode cX2_isLater 1 = .ok (.getfield 28, 3) := by decide +kernel
theorem dX2_isLater_4 : decode cX2_isLater 4 = .ok (.iload_n 1, 1) := by decide +kernel
theorem dX2_isLater_5 : decode cX2_isLater 5 = .ok (.iaload, 1) := by decide +kernel
theorem dX2_isLater_6 : decode cX2_isLater 6 = .ok (.aload_n 0, 1) := by decide +kernel
theorem dX2_isLater_7 : decode cX2_isLater 7 = .ok (.getfield 28, 3) := by decide +kernel
theorem dX2_isLater_10 : decode cX2_isLater 10 = .ok (.iload_n 2, 1) := by decide +kernel
theorem dX2_isLater_11 : decode cX2_isLater 11 = .ok (.iaload, 1) := by decide +kernel
theorem dX2_isLater_12 : decode cX2_isLater 12 = .ok (.if_icmp .eq 24, 3) := by decide +kernel
theorem dX2_isLater_15 : decode cX2_isLater 15 = .ok (.aload_n 0, 1) := by decide +kernel
theorem dX2_isLater_16 : decode cX2_isLater 16 = .ok (.getfield 28, 3) := by decide +kernel
theorem dX2_isLater_19 : decode cX2_isLater 19 = .ok (.iload_n 1, 1) := by decide +kernel
theorem dX2_isLater_20 : decode cX2_isLater 20 = .ok (.iaload, 1) := by decide +kernel
theorem dX2_isLater_21 : decode cX2_isLater 21 = .ok (.aload_n 0, 1) := by decide +kernel
theorem dX2_isLater_22 : decode cX2_isLater 22 = .ok (.getfield 28, 3) := by decide +kernel
theorem dX2_isLater_25 : decode cX2_isLater 25 = .ok (.iload_n 2, 1) := by decide +kernel
theorem dX2_isLater_26 : decode cX2_isLater 26 = .ok (.iaload, 1) := by decide +kernel
theorem dX2_isLater_27 : decode cX2_isLater 27 = .ok (.if_icmp .le 7, 3) := by decide +kernel
theorem dX2_isLater_30 : decode cX2_isLater 30 = .ok (.iconst 1, 1) := by decide +kernel
theorem dX2_isLater_31 : decode cX2_isLater 31 = .ok (.goto 4, 3) := by decide +kernel
theorem dX2_isLater_34 : decode cX2_isLater 34 = .ok (.iconst 0, 1) := by decide +kernel
theorem dX2_isLater_35 : decode cX2_isLater 35 = .ok (.ireturn, 1) := by decide +kernel
theorem dX2_isLater_36 : decode cX2_isLater 36 = .ok (.aload_n 0, 1) := by decide +kernel
theorem dX2_isLater_37 : decode cX2_isLater 37 = .ok (.getfield 15, 3) := by decide +kernel
theorem dX2_isLater_40 : decode cX2_isLater 40 = .ok (.iload_n 1, 1) := by decide +kernel
theorem dX2_isLater_41 : decode cX2_isLater 41 = .ok (.iaload, 1) := by decide +kernel
theorem dX2_isLater_42 : decode cX2_isLater 42 = .ok (.aload_n 0, 1) := by decide +kernel
theorem dX2_isLater_43 : decode cX2_isLater 43 = .ok (.getfield 15, 3) := by decide +kernel
theorem dX2_isLater_46 : decode cX2_isLater 46 = .ok (.iload_n 2, 1) := by decide +kernel
theorem dX2_isLater_47 : decode cX2_isLater 47 = .ok (.iaload, 1) := by decide +kernel
theorem dX2_isLater_48 : decode cX2_isLater 48 = .ok (.if_icmp .le 7, 3) := by decide +kernel
theorem dX2_isLater_51 : decode cX2_isLater 51 = .ok (.iconst 1, 1) := by decide +kernel
theorem dX2_isLater_52 : decode cX2_isLater 52 = .ok (.goto 4, 3) := by decide +kernel
theorem dX2_isLater_55 : decode cX2_isLater 55 = .ok (.iconst 0, 1) := by decide +kernel
theorem dX2_isLater_56 : decode cX2_isLater 56 = .ok (.ireturn, 1) := by decide +kernel
set_option maxRecDepth 20000 in
theorem ggX2_countBreaches_X3_contains : GoodIn wsX2_countBreaches wsX3_contains := goodIn_r _ [4] (by decide +kernel) (by decide +kernel)
set_option maxRecDepth 20000 in
theorem gX2_countBreaches_X3_contains_n109 : GoodIn wsX2_countBreaches (wsX3_contains) := ggX2_countBreaches_X3_contains
theorem dX2_countBreaches_0 : decode cX2_countBreaches 0 = .ok (.iconst 0, 1) := by decide +kernel
theorem dX2_countBreaches_1 : decode cX2_countBreaches 1 = .ok (.istore_n 2, 1) := by decide +kernel
theorem dX2_countBreaches_2 : decode cX2_countBreaches 2 = .ok (.iload_n 2, 1) := by decide +kernel
theorem dX2_countBreaches_3 : decode cX2_countBreaches 3 = .ok (.iconst 4, 1) := by decide +kernel
theorem dX2_countBreaches_4 : decode cX2_countBreaches 4 = .ok (.if_icmp .ge 27, 3) := by decide +kernel
theorem dX2_countBreaches_7 : decode cX2_countBreaches 7 = .ok (.iload_n 1, 1) := by decide +kernel
theorem dX2_countBreaches_8 : decode cX2_countBreaches 8 = .ok (.iload_n 2, 1) := by decide +kernel
theorem dX2_countBreaches_9 : decode cX2_countBreaches 9 = .ok (.invokestatic 109, 3) := by decide +kernel
theorem dX2_countBreaches_12 : decode cX2_countBreaches 12 = .ok (.ifCond .eq 13, 3) := by decide +kernel
theorem dX2_countBreaches_15 : decode cX2_countBreaches 15 = .ok (.aload_n 0, 1) := by decide +kernel
theorem dX2_countBreaches_16 : decode cX2_countBreaches 16 = .ok (.getfield 48, 3) := by decide +kernel
theorem dX2_countBreaches_19 : decode cX2_countBreaches 19 = .ok (.iload_n 2, 1) := by decide +kernel
theorem dX2_countBreaches_20 : decode cX2_countBreaches 20 = .ok (.dup2, 1) := by decide +kernel
theorem dX2_countBreaches_21 : decode cX2_countBreaches 21 = .ok (.iaload, 1) := by decide +kernel
theorem dX2_countBreaches_22 : decode cX2_countBreaches 22 = .ok (.iconst 1, 1) := by decide +kernel
theorem dX2_countBreaches_23 : decode cX2_countBreaches 23 = .ok (.iadd, 1) := by decide +kernel
theorem dX2_countBreaches_24 : decode cX2_countBreaches 24 = .ok (.iastore, 1) := by decide +kernel
theorem dX2_countBreaches_25 : decode cX2_countBreaches 25 = .ok (.iinc 2 1, 3) := by decide +kernel
theorem dX2_countBreaches_28 : decode cX2_countBreaches 28 = .ok (.goto (-26), 3) := by decide +kernel
theorem dX2_countBreaches_31 : decode cX2_countBreaches 31 = .ok (.return_, 1) := by decide +kernel
set_option maxRecDepth 20000 in
theorem ggX2_mixInto_X3_mix : GoodIn wsX2_mixInto wsX3_mix := goodIn_r _ [10, 11] (by decide +kernel) (by decide +kernel)
set_option maxRecDepth 20000 in
theorem gX2_mixInto_X3_mix_n115 : GoodIn wsX2_mixInto (wsX3_mix) := ggX2_mixInto_X3_mix
set_option maxRecDepth 20000 in
theorem ggX2_mixInto_X3_mixAll : GoodIn wsX2_mixInto wsX3_mixAll := goodIn_r _ [13, 14, 8, 9, 10, 11] (by decide +kernel) (by decide +kernel)
set_option maxRecDepth 20000 in
theorem gX2_mixInto_X3_mixAll_n119 : GoodIn wsX2_mixInto (wsX3_mixAll) := ggX2_mixInto_X3_mixAll
set_option maxRecDepth 20000 in
theorem ggX2_mixInto_X2_valueAt : GoodIn wsX2_mixInto wsX2_valueAt := goodIn_r _ [19, 1, 20, 21, 22, 23, 24, 18, 25, 26, 2, 27, 28, 29, 30, 31, 32, 33, 34, 35, 36, 37, 38, 39, 40, 41, 42, 43, 44] (by decide +kernel) (by decide +kernel)
set_option maxRecDepth 20000 in
theorem gX2_mixInto_X2_valueAt : GoodIn wsX2_mixInto (wsV RX2 88 RX2 yX2_valueAt wsX2_valueAt) := goodIn_app (goodIn_of _ (by decide +kernel)) ggX2_mixInto_X2_valueAt
theorem dX2_mixInto_0 : decode cX2_mixInto 0 = .ok (.lload_n 1, 1) := by decide +kernel
theorem dX2_mixInto_1 : decode cX2_mixInto 1 = .ok (.aload_n 0, 1) := by decide +kernel
theorem dX2_mixInto_2 : decode cX2_mixInto 2 = .ok (.getfield 9, 3) := by decide +kernel
theorem dX2_mixInto_5 : decode cX2_mixInto 5 = .ok (.invokestatic 115, 3) := by decide +kernel
theorem dX2_mixInto_8 : decode cX2_mixInto 8 = .ok (.lstore_n 1, 1) := by decide +kernel
theorem dX2_mixInto_9 : decode cX2_mixInto 9 = .ok (.iconst 0, 1) := by decide +kernel
theorem dX2_mixInto_10 : decode cX2_mixInto 10 = .ok (.istore_n 3, 1) := by decide +kernel
theorem dX2_mixInto_11 : decode cX2_mixInto 11 = .ok (.iload_n 3, 1) := by decide +kernel
theorem dX2_mixInto_12 : decode cX2_mixInto 12 = .ok (.iconst 3, 1) := by decide +kernel
theorem dX2_mixInto_13 : decode cX2_mixInto 13 = .ok (.if_icmp .ge 58, 3) := by decide +kernel
theorem dX2_mixInto_16 : decode cX2_mixInto 16 = .ok (.lload_n 1, 1) := by decide +kernel
theorem dX2_mixInto_17 : decode cX2_mixInto 17 = .ok (.aload_n 0, 1) := by decide +kernel
theorem dX2_mixInto_18 : decode cX2_mixInto 18 = .ok (.getfield 33, 3) := by decide +kernel
theorem dX2_mixInto_21 : decode cX2_mixInto 21 = .ok (.iload_n 3, 1) := by decide +kernel
theorem dX2_mixInto_22 : decode cX2_mixInto 22 = .ok (.aaload, 1) := by decide +kernel
theorem dX2_mixInto_23 : decode cX2_mixInto 23 = .ok (.invokestatic 119, 3) := by decide +kernel
theorem dX2_mixInto_26 : decode cX2_mixInto 26 = .ok (.lstore_n 1, 1) := by decide +kernel
theorem dX2_mixInto_27 : decode cX2_mixInto 27 = .ok (.lload_n 1, 1) := by decide +kernel
theorem dX2_mixInto_28 : decode cX2_mixInto 28 = .ok (.aload_n 0, 1) := by decide +kernel
theorem dX2_mixInto_29 : decode cX2_mixInto 29 = .ok (.getfield 36, 3) := by decide +kernel
theorem dX2_mixInto_32 : decode cX2_mixInto 32 = .ok (.iload_n 3, 1) := by decide +kernel
theorem dX2_mixInto_33 : decode cX2_mixInto 33 = .ok (.iaload, 1) := by decide +kernel
theorem dX2_mixInto_34 : decode cX2_mixInto 34 = .ok (.invokestatic 115, 3) := by decide +kernel
theorem dX2_mixInto_37 : decode cX2_mixInto 37 = .ok (.lstore_n 1, 1) := by decide +kernel
theorem dX2_mixInto_38 : decode cX2_mixInto 38 = .ok (.iconst 0, 1) := by decide +kernel
theorem dX2_mixInto_39 : decode cX2_mixInto 39 = .ok (.istore 4, 2) := by decide +kernel
theorem dX2_mixInto_41 : decode cX2_mixInto 41 = .ok (.iload 4, 2) := by decide +kernel
theorem dX2_mixInto_43 : decode cX2_mixInto 43 = .ok (.iconst 4, 1) := by decide +kernel
theorem dX2_mixInto_44 : decode cX2_mixInto 44 = .ok (.if_icmp .ge 21, 3) := by decide +kernel
theorem dX2_mixInto_47 : decode cX2_mixInto 47 = .ok (.lload_n 1, 1) := by decide +kernel
theorem dX2_mixInto_48 : decode cX2_mixInto 48 = .ok (.aload_n 0, 1) := by decide +kernel
theorem dX2_mixInto_49 : decode cX2_mixInto 49 = .ok (.iload_n 3, 1) := by decide +kernel
theorem dX2_mixInto_50 : decode cX2_mixInto 50 = .ok (.iload 4, 2) := by decide +kernel
theorem dX2_mixInto_52 : decode cX2_mixInto 52 = .ok (.invokevirtual 88, 3) := by decide +kernel
theorem dX2_mixInto_55 : decode cX2_mixInto 55 = .ok (.invokestatic 115, 3) := by decide +kernel
theorem dX2_mixInto_58 : decode cX2_mixInto 58 = .ok (.lstore_n 1, 1) := by decide +kernel
theorem dX2_mixInto_59 : decode cX2_mixInto 59 = .ok (.iinc 4 1, 3) := by decide +kernel
theorem dX2_mixInto_62 : decode cX2_mixInto 62 = .ok (.goto (-21), 3) := by decide +kernel
theorem dX2_mixInto_65 : decode cX2_mixInto 65 = .ok (.iinc 3 1, 3) := by decide +kernel
theorem dX2_mixInto_68 : decode cX2_mixInto 68 = .ok (.goto (-57), 3) := by decide +kernel
theorem dX2_mixInto_71 : decode cX2_mixInto 71 = .ok (.iconst 0, 1) := by decide +kernel
theorem dX2_mixInto_72 : decode cX2_mixInto 72 = .ok (.istore_n 3, 1) := by decide +kernel
theorem dX2_mixInto_73 : decode cX2_mixInto 73 = .ok (.iload_n 3, 1) := by decide +kernel
theorem dX2_mixInto_74 : decode cX2_mixInto 74 = .ok (.iconst 4, 1) := by decide +kernel
theorem dX2_mixInto_75 : decode cX2_mixInto 75 = .ok (.if_icmp .ge 42, 3) := by decide +kernel
theorem dX2_mixInto_78 : decode cX2_mixInto 78 = .ok (.lload_n 1, 1) := by decide +kernel
theorem dX2_mixInto_79 : decode cX2_mixInto 79 = .ok (.aload_n 0, 1) := by decide +kernel
theorem dX2_mixInto_80 : decode cX2_mixInto 80 = .ok (.getfield 39, 3) := by decide +kernel
theorem dX2_mixInto_83 : decode cX2_mixInto 83 = .ok (.iload_n 3, 1) := by decide +kernel
theorem dX2_mixInto_84 : decode cX2_mixInto 84 = .ok (.iaload, 1) := by decide +kernel
theorem dX2_mixInto_85 : decode cX2_mixInto 85 = .ok (.invokestatic 115, 3) := by decide +kernel
theorem dX2_mixInto_88 : decode cX2_mixInto 88 = .ok (.lstore_n 1, 1) := by decide +kernel
theorem dX2_mixInto_89 : decode cX2_mixInto 89 = .ok (.lload_n 1, 1) := by decide +kernel
theorem dX2_mixInto_90 : decode cX2_mixInto 90 = .ok (.aload_n 0, 1) := by decide +kernel
theorem dX2_mixInto_91 : decode cX2_mixInto 91 = .ok (.getfield 42, 3) := by decide +kernel
theorem dX2_mixInto_94 : decode cX2_mixInto 94 = .ok (.iload_n 3, 1) := by decide +kernel
theorem dX2_mixInto_95 : decode cX2_mixInto 95 = .ok (.aaload, 1) := by decide +kernel
theorem dX2_mixInto_96 : decode cX2_mixInto 96 = .ok (.invokestatic 119, 3) := by decide +kernel
theorem dX2_mixInto_99 : decode cX2_mixInto 99 = .ok (.lstore_n 1, 1) := by decide +kernel
theorem dX2_mixInto_100 : decode cX2_mixInto 100 = .ok (.lload_n 1, 1) := by decide +kernel
theorem dX2_mixInto_101 : decode cX2_mixInto 101 = .ok (.aload_n 0, 1) := by decide +kernel
theorem dX2_mixInto_102 : decode cX2_mixInto 102 = .ok (.getfield 45, 3) := by decide +kernel
theorem dX2_mixInto_105 : decode cX2_mixInto 105 = .ok (.iload_n 3, 1) := by decide +kernel
theorem dX2_mixInto_106 : decode cX2_mixInto 106 = .ok (.aaload, 1) := by decide +kernel
theorem dX2_mixInto_107 : decode cX2_mixInto 107 = .ok (.invokestatic 119, 3) := by decide +kernel
theorem dX2_mixInto_110 : decode cX2_mixInto 110 = .ok (.lstore_n 1, 1) := by decide +kernel
theorem dX2_mixInto_111 : decode cX2_mixInto 111 = .ok (.iinc 3 1, 3) := by decide +kernel
theorem dX2_mixInto_114 : decode cX2_mixInto 114 = .ok (.goto (-41), 3) := by decide +kernel
theorem dX2_mixInto_117 : decode cX2_mixInto 117 = .ok (.lload_n 1, 1) := by decide +kernel
theorem dX2_mixInto_118 : decode cX2_mixInto 118 = .ok (.aload_n 0, 1) := by decide +kernel
theorem dX2_mixInto_119 : decode cX2_mixInto 119 = .ok (.getfield 48, 3) := by decide +kernel
theorem dX2_mixInto_122 : decode cX2_mixInto 122 = .ok (.invokestatic 119, 3) := by decide +kernel
theorem dX2_mixInto_125 : decode cX2_mixInto 125 = .ok (.lreturn, 1) := by decide +kernel
theorem dX2_merge_0 : decode cX2_merge 0 = .ok (.iconst 0, 1) := by decide +kernel
theorem dX2_merge_1 : decode cX2_merge 1 = .ok (.istore_n 2, 1) := by decide +kernel
theorem dX2_merge_2 : decode cX2_merge 2 = .ok (.iload_n 2, 1) := by decide +kernel
theorem dX2_merge_3 : decode cX2_merge 3 = .ok (.iconst 3, 1) := by decide +kernel
theorem dX2_merge_4 : decode cX2_merge 4 = .ok (.if_icmp .ge 21, 3) := by decide +kernel
theorem dX2_merge_7 : decode cX2_merge 7 = .ok (.aload_n 1, 1) := by decide +kernel
theorem dX2_merge_8 : decode cX2_merge 8 = .ok (.iload_n 2, 1) := by decide +kernel
theorem dX2_merge_9 : decode cX2_merge 9 = .ok (.aload_n 1, 1) := by decide +kernel
theorem dX2_merge_10 : decode cX2_merge 10 = .ok (.iload_n 2, 1) := by decide +kernel
theorem dX2_merge_11 : decode cX2_merge 11 = .ok (.iaload, 1) := by decide +kernel
theorem dX2_merge_12 : decode cX2_merge 12 = .ok (.aload_n 0, 1) := by decide +kernel
theorem dX2_merge_13 : decode cX2_merge 13 = .ok (.iload_n 2, 1) := by decide +kernel
theorem dX2_merge_14 : decode cX2_merge 14 = .ok (.iaload, 1) := by decide +kernel
theorem dX2_merge_15 : decode cX2_merge 15 = .ok (.invokestatic 97, 3) := by decide +kernel
theorem dX2_merge_18 : decode cX2_merge 18 = .ok (.iastore, 1) := by decide +kernel
theorem dX2_merge_19 : decode cX2_merge 19 = .ok (.iinc 2 1, 3) := by decide +kernel
theorem dX2_merge_22 : decode cX2_merge 22 = .ok (.goto (-20), 3) := by decide +kernel
theorem dX2_merge_25 : decode cX2_merge 25 = .ok (.return_, 1) := by decide +kernel
theorem dX2_copyRow_0 : decode cX2_copyRow 0 = .ok (.aload_n 0, 1) := by decide +kernel
theorem dX2_copyRow_1 : decode cX2_copyRow 1 = .ok (.iconst 0, 1) := by decide +kernel
theorem dX2_copyRow_2 : decode cX2_copyRow 2 = .ok (.aload_n 1, 1) := by decide +kernel
theorem dX2_copyRow_3 : decode cX2_copyRow 3 = .ok (.iconst 0, 1) := by decide +kernel
theorem dX2_copyRow_4 : decode cX2_copyRow 4 = .ok (.aload_n 0, 1) := by decide +kernel
theorem dX2_copyRow_5 : decode cX2_copyRow 5 = .ok (.arraylength, 1) := by decide +kernel
theorem dX2_copyRow_6 : decode cX2_copyRow 6 = .ok (.aload_n 1, 1) := by decide +kernel
theorem dX2_copyRow_7 : decode cX2_copyRow 7 = .ok (.arraylength, 1) := by decide +kernel
theorem dX2_copyRow_8 : decode cX2_copyRow 8 = .ok (.invokestatic 123, 3) := by decide +kernel
theorem dX2_copyRow_11 : decode cX2_copyRow 11 = .ok (.invokestatic 126, 3) := by decide +kernel
theorem dX2_copyRow_14 : decode cX2_copyRow 14 = .ok (.return_, 1) := by decide +kernel
set_option maxRecDepth 20000 in
theorem ggX2_copyRows_X2_copyRow : GoodIn wsX2_copyRows wsX2_copyRow := goodIn_r _ [4, 5, 6, 7, 8, 9, 10, 11, 12] (by decide +kernel) (by decide +kernel)
set_option maxRecDepth 20000 in
theorem gX2_copyRows_X2_copyRow : GoodIn wsX2_copyRows (va_wsS RX2 51 yX2_copyRow wsX2_copyRow) := goodIn_app (goodIn_of _ (by decide +kernel)) ggX2_copyRows_X2_copyRow
theorem dX2_copyRows_0 : decode cX2_copyRows 0 = .ok (.iconst 0, 1) := by decide +kernel
theorem dX2_copyRows_1 : decode cX2_copyRows 1 = .ok (.istore_n 2, 1) := by decide +kernel
theorem dX2_copyRows_2 : decode cX2_copyRows 2 = .ok (.iload_n 2, 1) := by decide +kernel
theorem dX2_copyRows_3 : decode cX2_copyRows 3 = .ok (.aload_n 0, 1) := by decide +kernel
theorem dX2_copyRows_4 : decode cX2_copyRows 4 = .ok (.arraylength, 1) := by decide +kernel
theorem dX2_copyRows_5 : decode cX2_copyRows 5 = .ok (.if_icmp .ge 24, 3) := by decide +kernel
theorem dX2_copyRows_8 : decode cX2_copyRows 8 = .ok (.iload_n 2, 1) := by decide +kernel
theorem dX2_copyRows_9 : decode cX2_copyRows 9 = .ok (.aload_n 1, 1) := by decide +kernel
theorem dX2_copyRows_10 : decode cX2_copyRows 10 = .ok (.arraylength, 1) := by decide +kernel
theorem dX2_copyRows_11 : decode cX2_copyRows 11 = .ok (.if_icmp .ge 18, 3) := by decide +kernel
theorem dX2_copyRows_14 : decode cX2_copyRows 14 = .ok (.aload_n 0, 1) := by decide +kernel
theorem dX2_copyRows_15 : decode cX2_copyRows 15 = .ok (.iload_n 2, 1) := by decide +kernel
theorem dX2_copyRows_16 : decode cX2_copyRows 16 = .ok (.aaload, 1) := by decide +kernel
theorem dX2_copyRows_17 : decode cX2_copyRows 17 = .ok (.aload_n 1, 1) := by decide +kernel
theorem dX2_copyRows_18 : decode cX2_copyRows 18 = .ok (.iload_n 2, 1) := by decide +kernel
theorem dX2_copyRows_19 : decode cX2_copyRows 19 = .ok (.aaload, 1) := by decide +kernel
theorem dX2_copyRows_20 : decode cX2_copyRows 20 = .ok (.invokestatic 51, 3) := by decide +kernel
theorem dX2_copyRows_23 : decode cX2_copyRows 23 = .ok (.iinc 2 1, 3) := by decide +kernel
theorem dX2_copyRows_26 : decode cX2_copyRows 26 = .ok (.goto (-24), 3) := by decide +kernel
theorem dX2_copyRows_29 : decode cX2_copyRows 29 = .ok (.return_, 1) := by decide +kernel
set_option maxRecDepth 20000 in
theorem ggX3_init_X2_init : GoodIn wsX3_init wsX2_init := goodIn_r _ [19, 20, 2, 3, 21, 16, 22, 23, 24, 25, 26, 27, 28, 29, 30, 31, 32, 33, 54, 55, 56, 57, 58, 59, 60, 61, 62, 63, 64, 65] (by decide +kernel) (by decide +kernel)
set_option maxRecDepth 20000 in
theorem gX3_init_X2_init_n11 : GoodIn wsX3_init (wsX2_init) := ggX3_init_X2_init
set_option maxRecDepth 20000 in
theorem ggX3_init_X0_init : GoodIn wsX3_init wsX0_init := goodIn_r _ [36, 37, 2, 3, 38, 39, 40, 41, 5, 6, 18, 19, 20, 21, 16, 22, 23, 24, 25, 26, 27, 28, 29, 30, 31, 32, 33, 70, 71, 72, 54, 55, 56, 57, 58, 59, 60, 61, 62, 63, 64, 65] (by decide +kernel) (by decide +kernel)
set_option maxRecDepth 20000 in
theorem gX3_init_X0_init : GoodIn wsX3_init (wsX0_init) := ggX3_init_X0_init
set_option maxRecDepth 20000 in
theorem ggX3_init_X1_init : GoodIn wsX3_init wsX1_init := goodIn_r _ [43, 44, 2, 3, 16, 45, 46, 47, 48, 49, 50, 51, 52, 53, 73, 74, 75, 76, 77, 78, 79, 80] (by decide +kernel) (by decide +kernel)
set_option maxRecDepth 20000 in
theorem gX3_init_X1_init_n25 : GoodIn wsX3_init (wsX1_init) := ggX3_init_X1_init
theorem dX3_init_0 : decode cX3_init 0 = .ok (.aload_n 0, 1) := by decide +kernel
theorem dX3_init_1 : decode cX3_init 1 = .ok (.invokespecial 3, 3) := by decide +kernel
theorem dX3_init_4 : decode cX3_init 4 = .ok (.aload_n 0, 1) := by decide +kernel
theorem dX3_init_5 : decode cX3_init 5 = .ok (.new 9, 3) := by decide +kernel
theorem dX3_init_8 : decode cX3_init 8 = .ok (.dup, 1) := by decide +kernel
theorem dX3_init_9 : decode cX3_init 9 = .ok (.invokespecial 11, 3) := by decide +kernel
theorem dX3_init_12 : decode cX3_init 12 = .ok (.putfield 12, 3) := by decide +kernel
theorem dX3_init_15 : decode cX3_init 15 = .ok (.aload_n 0, 1) := by decide +kernel
theorem dX3_init_16 : decode cX3_init 16 = .ok (.new 16, 3) := by decide +kernel
theorem dX3_init_19 : decode cX3_init 19 = .ok (.dup, 1) := by decide +kernel
theorem dX3_init_20 : decode cX3_init 20 = .ok (.invokespecial 18, 3) := by decide +kernel
theorem dX3_init_23 : decode cX3_init 23 = .ok (.putfield 19, 3) := by decide +kernel
theorem dX3_init_26 : decode cX3_init 26 = .ok (.aload_n 0, 1) := by decide +kernel
theorem dX3_init_27 : decode cX3_init 27 = .ok (.new 23, 3) := by decide +kernel
theorem dX3_init_30 : decode cX3_init 30 = .ok (.dup, 1) := by decide +kernel
theorem dX3_init_31 : decode cX3_init 31 = .ok (.invokespecial 25, 3) := by decide +kernel
theorem dX3_init_34 : decode cX3_init 34 = .ok (.putfield 26, 3) := by decide +kernel
theorem dX3_init_37 : decode cX3_init 37 = .ok (.aload_n 0, 1) := by decide +kernel
theorem dX3_init_38 : decode cX3_init 38 = .ok (.iconst 5, 1) := by decide +kernel
theorem dX3_init_39 : decode cX3_init 39 = .ok (.newarray .int, 2) := by decide +kernel
theorem dX3_init_41 : decode cX3_init 41 = .ok (.putfield 30, 3) := by decide +kernel
theorem dX3_init_44 : decode cX3_init 44 = .ok (.return_, 1) := by decide +kernel
set_option maxRecDepth 20000 in
theorem ggX3_setGuarantees_X0_prepare : GoodIn wsX3_setGuarantees wsX0_prepare := goodIn_r _ [7, 8, 9, 10, 11, 12, 13, 14, 15, 16, 17, 18, 19, 20, 21, 22, 23, 24, 25, 26, 27, 28, 29, 30, 31, 32, 33, 34, 35, 36, 37, 38, 39, 40, 73, 74, 75, 76, 77, 78, 79, 80, 81, 82, 83, 84, 85, 86, 87] (by decide +kernel) (by decide +kernel)
set_option maxRecDepth 20000 in
theorem gX3_setGuarantees_X0_prepare : GoodIn wsX3_setGuarantees (wsV RX3 34 RX0 yX0_prepare wsX0_prepare) := goodIn_app (goodIn_of _ (by decide +kernel)) ggX3_setGuarantees_X0_prepare
set_option maxRecDepth 20000 in
theorem ggX3_setGuarantees_X2_changeGuarantees : GoodIn wsX3_setGuarantees wsX2_changeGuarantees := goodIn_r _ [44, 23, 45, 46, 47, 48, 49, 50, 76, 77, 78, 79, 80, 81, 82, 83, 84, 85, 86, 87] (by decide +kernel) (by decide +kernel)
set_option maxRecDepth 20000 in
theorem gX3_setGuarantees_X2_changeGuarantees : GoodIn wsX3_setGuarantees (wsV RX3 38 RX2 yX2_changeGuarantees wsX2_changeGuarantees) := goodIn_app (goodIn_of _ (by decide +kernel)) ggX3_setGuarantees_X2_changeGuarantees
set_option maxRecDepth 20000 in
theorem ggX3_setGuarantees_X3_endUndoable : GoodIn wsX3_setGuarantees wsX3_endUndoable := goodIn_r _ [54, 1, 55, 56, 57, 6, 58, 9, 59, 60, 31, 32, 33, 61, 62, 63, 46, 64, 65, 66, 67, 68, 69, 70, 71, 72, 73, 74, 75] (by decide +kernel) (by decide +kernel)
set_option maxRecDepth 20000 in
theorem gX3_setGuarantees_X3_endUndoable : GoodIn wsX3_setGuarantees (wsV RX3 42 RX3 yX3_endUndoable wsX3_endUndoable) := goodIn_app (goodIn_of _ (by decide +kernel)) ggX3_setGuarantees_X3_endUndoable
theorem dX3_setGuarantees_0 : decode cX3_setGuarantees 0 = .ok (.aload_n 0, 1) := by decide +kernel
theorem dX3_setGuarantees_1 : decode cX3_setGuarantees 1 = .ok (.getfield 19, 3) := by decide +kernel
theorem dX3_setGuarantees_4 : decode cX3_setGuarantees 4 = .ok (.aload_n 0, 1) := by decide +kernel
theorem dX3_setGuarantees_5 : decode cX3_setGuarantees 5 = .ok (.getfield 12, 3) := by decide +kernel
theorem dX3_setGuarantees_8 : decode cX3_setGuarantees 8 = .ok (.invokevirtual 34, 3) := by decide +kernel
theorem dX3_setGuarantees_11 : decode cX3_setGuarantees 11 = .ok (.aload_n 0, 1) := by decide +kernel
theorem dX3_setGuarantees_12 : decode cX3_setGuarantees 12 = .ok (.aload_n 0, 1) := by decide +kernel
theorem dX3_setGuarantees_13 : decode cX3_setGuarantees 13 = .ok (.getfield 12, 3) := by decide +kernel
theorem dX3_setGuarantees_16 : decode cX3_setGuarantees 16 = .ok (.iload_n 1, 1) := by decide +kernel
theorem dX3_setGuarantees_17 : decode cX3_setGuarantees 17 = .ok (.iload_n 2, 1) := by decide +kernel
theorem dX3_setGuarantees_18 : decode cX3_setGuarantees 18 = .ok (.invokevirtual 38, 3) := by decide +kernel
theorem dX3_setGuarantees_21 : decode cX3_setGuarantees 21 = .ok (.invokevirtual 42, 3) := by decide +kernel
theorem dX3_setGuarantees_24 : decode cX3_setGuarantees 24 = .ok (.ireturn, 1) := by decide +kernel
set_option maxRecDepth 20000 in
theorem ggX3_forget_X0_prepare : GoodIn wsX3_forget wsX0_prepare := goodIn_r _ [7, 8, 9, 10, 11, 12, 13, 14, 15, 16, 17, 18, 19, 20, 21, 22, 23, 24, 25, 26, 27, 28, 29, 30, 31, 32, 33, 34, 35, 36, 37, 38, 39, 40, 73, 74, 75, 76, 77, 78, 79, 80, 81, 82, 83, 84, 85, 86, 87] (by decide +kernel) (by decide +kernel)
set_option maxRecDepth 20000 in
theorem gX3_forget_X0_prepare : GoodIn wsX3_forget (wsV RX3 34 RX0 yX0_prepare wsX0_prepare) := goodIn_app (goodIn_of _ (by decide +kernel)) ggX3_forget_X0_prepare
set_option maxRecDepth 20000 in
theorem ggX3_forget_X2_clearVectors : GoodIn wsX3_forget wsX2_clearVectors := goodIn_r _ [44, 24, 25, 45, 46, 47, 48, 49, 50, 76, 77, 78, 79, 80, 81, 82, 83, 84, 85, 86, 87] (by decide +kernel) (by decide +kernel)
set_option maxRecDepth 20000 in
theorem gX3_forget_X2_clearVectors : GoodIn wsX3_forget (wsV RX3 46 RX2 yX2_clearVectors wsX2_clearVectors) := goodIn_app (goodIn_of _ (by decide +kernel)) ggX3_forget_X2_clearVectors
set_option maxRecDepth 20000 in
theorem ggX3_forget_X3_endUndoable : GoodIn wsX3_forget wsX3_endUndoable := goodIn_r _ [54, 1, 55, 56, 57, 6, 58, 9, 59, 60, 31, 32, 33, 61, 62, 63, 46, 64, 65, 66, 67, 68, 69, 70, 71, 72, 73, 74, 75] (by decide +kernel) (by decide +kernel)
set_option maxRecDepth 20000 in
theorem gX3_forget_X3_endUndoable : GoodIn wsX3_forget (wsV RX3 42 RX3 yX3_endUndoable wsX3_endUndoable) := goodIn_app (goodIn_of _ (by decide +kernel)) ggX3_forget_X3_endUndoable
theorem dX3_forget_0 : decode cX3_forget 0 = .ok (.aload_n 0, 1) := by decide +kernel
theorem dX3_forget_1 : decode cX3_forget 1 = .ok (.getfield 19, 3) := by decide +kernel
theorem dX3_forget_4 : decode cX3_forget 4 = .ok (.aload_n 0, 1) := by decide +kernel
theorem dX3_forget_5 : decode cX3_forget 5 = .ok (.getfield 12, 3) := by decide +kernel
theorem dX3_forget_8 : decode cX3_forget 8 = .ok (.invokevirtual 34, 3) := by decide +kernel
theorem dX3_forget_11 : decode cX3_forget 11 = .ok (.aload_n 0, 1) := by decide +kernel
theorem dX3_forget_12 : decode cX3_forget 12 = .ok (.aload_n 0, 1) := by decide +kernel
theorem dX3_forget_13 : decode cX3_forget 13 = .ok (.getfield 12, 3) := by decide +kernel
theorem dX3_forget_16 : decode cX3_forget 16 = .ok (.iload_n 1, 1) := by decide +kernel
theorem dX3_forget_17 : decode cX3_forget 17 = .ok (.invokevirtual 46, 3) := by decide +kernel
theorem dX3_forget_20 : decode cX3_forget 20 = .ok (.invokevirtual 42, 3) := by decide +kernel
theorem dX3_forget_23 : decode cX3_forget 23 = .ok (.ireturn, 1) := by decide +kernel
set_option maxRecDepth 20000 in
theorem ggX3_readCount_X3_isClient : GoodIn wsX3_readCount wsX3_isClient := goodIn_r _ [6, 7, 8, 5, 9] (by decide +kernel) (by decide +kernel)
set_option maxRecDepth 20000 in
theorem gX3_readCount_X3_isClient : GoodIn wsX3_readCount (va_wsS RX3 49 yX3_isClient wsX3_isClient) := goodIn_app (goodIn_of _ (by decide +kernel)) ggX3_readCount_X3_isClient
set_option maxRecDepth 20000 in
theorem ggX3_readCount_X3_isReplica : GoodIn wsX3_readCount wsX3_isReplica := goodIn_r _ [12, 7, 8, 5, 9] (by decide +kernel) (by decide +kernel)
set_option maxRecDepth 20000 in
theorem gX3_readCount_X3_isReplica : GoodIn wsX3_readCount (va_wsS RX3 53 yX3_isReplica wsX3_isReplica) := goodIn_app (goodIn_of _ (by decide +kernel)) ggX3_readCount_X3_isReplica
set_option maxRecDepth 20000 in
theorem ggX3_readCount_X3_counted : GoodIn wsX3_readCount wsX3_counted := goodIn_r _ [16, 17, 18, 19, 5, 20, 21, 22, 23, 24] (by decide +kernel) (by decide +kernel)
set_option maxRecDepth 20000 in
theorem gX3_readCount_X3_counted : GoodIn wsX3_readCount (wsV RX3 56 RX3 yX3_counted wsX3_counted) := goodIn_app (goodIn_of _ (by decide +kernel)) ggX3_readCount_X3_counted
theorem dX3_readCount_0 : decode cX3_readCount 0 = .ok (.iload_n 1, 1) := by decide +kernel
theorem dX3_readCount_1 : decode cX3_readCount 1 = .ok (.invokestatic 49, 3) := by decide +kernel
theorem dX3_readCount_4 : decode cX3_readCount 4 = .ok (.ifCond .eq 10, 3) := by decide +kernel
theorem dX3_readCount_7 : decode cX3_readCount 7 = .ok (.iload_n 2, 1) := by decide +kernel
theorem dX3_readCount_8 : decode cX3_readCount 8 = .ok (.invokestatic 53, 3) := by decide +kernel
theorem dX3_readCount_11 : decode cX3_readCount 11 = .ok (.ifCond .ne 10, 3) := by decide +kernel
theorem dX3_readCount_14 : decode cX3_readCount 14 = .ok (.aload_n 0, 1) := by decide +kernel
theorem dX3_readCount_15 : decode cX3_readCount 15 = .ok (.bipush (-2), 2) := by decide +kernel
theorem dX3_readCount_17 : decode cX3_readCount 17 = .ok (.invokevirtual 56, 3) := by decide +kernel
theorem dX3_readCount_20 : decode cX3_readCount 20 = .ok (.ireturn, 1) := by decide +kernel
theorem dX3_readCount_21 : decode cX3_readCount 21 = .ok (.aload_n 0, 1) := by decide +kernel
theorem dX3_readCount_22 : decode cX3_readCount 22 = .ok (.getfield 12, 3) := by decide +kernel
theorem dX3_readCount_25 : decode cX3_readCount 25 = .ok (.getfield 59, 3) := by decide +kernel
theorem dX3_readCount_28 : decode cX3_readCount 28 = .ok (.iload_n 1, 1) := by decide +kernel
theorem dX3_readCount_29 : decode cX3_readCount 29 = .ok (.aaload, 1) := by decide +kernel
theorem dX3_readCount_30 : decode cX3_readCount 30 = .ok (.iload_n 2, 1) := by decide +kernel
theorem dX3_readCount_31 : decode cX3_readCount 31 = .ok (.iaload, 1) := by decide +kernel
theorem dX3_readCount_32 : decode cX3_readCount 32 = .ok (.ireturn, 1) := by decide +kernel
set_option maxRecDepth 20000 in
theorem ggX3_writeCount_X3_isClient : GoodIn wsX3_writeCount wsX3_isClient := goodIn_r _ [6, 7, 8, 5, 9] (by decide +kernel) (by decide +kernel)
set_option maxRecDepth 20000 in
theorem gX3_writeCount_X3_isClient : GoodIn wsX3_writeCount (va_wsS RX3 49 yX3_isClient wsX3_isClient) := goodIn_app (goodIn_of _ (by decide +kernel)) ggX3_writeCount_X3_isClient
set_option maxRecDepth 20000 in
theorem ggX3_writeCount_X3_isReplica : GoodIn wsX3_writeCount wsX3_isReplica := goodIn_r _ [12, 7, 8, 5, 9] (by decide +kernel) (by decide +kernel)
set_option maxRecDepth 20000 in
theorem gX3_writeCount_X3_isReplica : GoodIn wsX3_writeCount (va_wsS RX3 53 yX3_isReplica wsX3_isReplica) := goodIn_app (goodIn_of _ (by decide +kernel)) ggX3_writeCount_X3_isReplica
set_option maxRecDepth 20000 in
theorem ggX3_writeCount_X3_counted : GoodIn wsX3_writeCount wsX3_counted := goodIn_r _ [16, 17, 18, 19, 5, 20, 21, 22, 23, 24] (by decide +kernel) (by decide +kernel)
set_option maxRecDepth 20000 in
theorem gX3_writeCount_X3_counted : GoodIn wsX3_writeCount (wsV RX3 56 RX3 yX3_counted wsX3_counted) := goodIn_app (goodIn_of _ (by decide +kernel)) ggX3_writeCount_X3_counted
theorem dX3_writeCount_0 : decode cX3_writeCount 0 = .ok (.iload_n 1, 1) := by decide +kernel
theorem dX3_writeCount_1 : decode cX3_writeCount 1 = .ok (.invokestatic 49, 3) := by decide +kernel
theorem dX3_writeCount_4 : decode cX3_writeCount 4 = .ok (.ifCond .eq 10, 3) := by decide +kernel
theorem dX3_writeCount_7 : decode cX3_writeCount 7 = .ok (.iload_n 2, 1) := by decide +kernel
theorem dX3_writeCount_8 : decode cX3_writeCount 8 = .ok (.invokestatic 53, 3) := by decide +kernel
theorem dX3_writeCount_11 : decode cX3_writeCount 11 = .ok (.ifCond .ne 10, 3) := by decide +kernel
theorem dX3_writeCount_14 : decode cX3_writeCount 14 = .ok (.aload_n 0, 1) := by decide +kernel
theorem dX3_writeCount_15 : decode cX3_writeCount 15 = .ok (.bipush (-2), 2) := by decide +kernel
theorem dX3_writeCount_17 : decode cX3_writeCount 17 = .ok (.invokevirtual 56, 3) := by decide +kernel
theorem dX3_writeCount_20 : decode cX3_writeCount 20 = .ok (.ireturn, 1) := by decide +kernel
theorem dX3_writeCount_21 : decode cX3_writeCount 21 = .ok (.aload_n 0, 1) := by decide +kernel
theorem dX3_writeCount_22 : decode cX3_writeCount 22 = .ok (.getfield 12, 3) := by decide +kernel
theorem dX3_writeCount_25 : decode cX3_writeCount 25 = .ok (.getfield 63, 3) := by decide +kernel
theorem dX3_writeCount_28 : decode cX3_writeCount 28 = .ok (.iload_n 1, 1) := by decide +kernel
theorem dX3_writeCount_29 : decode cX3_writeCount 29 = .ok (.aaload, 1) := by decide +kernel
theorem dX3_writeCount_30 : decode cX3_writeCount 30 = .ok (.iload_n 2, 1) := by decide +kernel
theorem dX3_writeCount_31 : decode cX3_writeCount 31 = .ok (.iaload, 1) := by decide +kernel
theorem dX3_writeCount_32 : decode cX3_writeCount 32 = .ok (.ireturn, 1) := by decide +kernel
set_option maxRecDepth 20000 in
theorem ggX3_read_X0_prepare : GoodIn wsX3_read wsX0_prepare := goodIn_r _ [7, 8, 9, 10, 11, 12, 13, 14, 15, 16, 17, 18, 19, 20, 21, 22, 23, 24, 25, 26, 27, 28, 29, 30, 31, 32, 33, 34, 35, 36, 37, 38, 39, 40, 115, 116, 117, 118, 119, 120, 121, 122, 123, 124, 125, 126, 127, 128, 129] (by decide +kernel) (by decide +kernel)
set_option maxRecDepth 20000 in
theorem gX3_read_X0_prepare : GoodIn wsX3_read (wsV RX3 34 RX0 yX0_prepare wsX0_prepare) := goodIn_app (goodIn_of _ (by decide +kernel)) ggX3_read_X0_prepare
set_option maxRecDepth 20000 in
theorem ggX3_read_X2_readKey : GoodIn wsX3_read wsX2_readKey := goodIn_r _ [44, 23, 21, 24, 45, 46, 47, 48, 49, 50, 51, 52, 53, 54, 55, 56, 57, 58, 59, 13, 60, 25, 61, 62, 63, 64, 65, 66, 67, 68, 69, 70, 32, 71, 72, 73, 74, 75, 76, 77, 26, 78, 79, 80, 81, 82, 83, 84, 15, 18, 19, 85, 86, 87, 88, 17, 16, 89, 90, 91, 92, 20, 118, 119, 120, 121, 122, 123, 124, 125, 126, 127, 128, 129] (by decide +kernel) (by decide +kernel)
set_option maxRecDepth 20000 in
theorem gX3_read_X2_readKey : GoodIn wsX3_read (wsV RX3 66 RX2 yX2_readKey wsX2_readKey) := goodIn_app (goodIn_of _ (by decide +kernel)) ggX3_read_X2_readKey
set_option maxRecDepth 20000 in
theorem ggX3_read_X3_endUndoable : GoodIn wsX3_read wsX3_endUndoable := goodIn_r _ [96, 1, 97, 98, 99, 6, 100, 9, 101, 102, 31, 32, 33, 103, 104, 105, 46, 106, 107, 108, 109, 110, 111, 112, 113, 114, 115, 116, 117] (by decide +kernel) (by decide +kernel)
set_option maxRecDepth 20000 in
theorem gX3_read_X3_endUndoable : GoodIn wsX3_read (wsV RX3 42 RX3 yX3_endUndoable wsX3_endUndoable) := goodIn_app (goodIn_of _ (by decide +kernel)) ggX3_read_X3_endUndoable
theorem dX3_read_0 : decode cX3_read 0 = .ok (.aload_n 0, 1) := by decide +kernel
theorem dX3_read_1 : decode cX3_read 1 = .ok (.getfield 19, 3) := by decide +kernel
theorem dX3_read_4 : decode cX3_read 4 = .ok (.aload_n 0, 1) := by decide +kernel
theorem dX3_read_5 : decode cX3_read 5 = .ok (.getfield 12, 3) := by decide +kernel
theorem dX3_read_8 : decode cX3_read 8 = .ok (.invokevirtual 34, 3) := by decide +kernel
theorem dX3_read_11 : decode cX3_read 11 = .ok (.aload_n 0, 1) := by decide +kernel
theorem dX3_read_12 : decode cX3_read 12 = .ok (.aload_n 0, 1) := by decide +kernel
theorem dX3_read_13 : decode cX3_read 13 = .ok (.getfield 12, 3) := by decide +kernel
theorem dX3_read_16 : decode cX3_read 16 = .ok (.iload_n 1, 1) := by decide +kernel
theorem dX3_read_17 : decode cX3_read 17 = .ok (.iload_n 2, 1) := by decide +kernel
theorem dX3_read_18 : decode cX3_read 18 = .ok (.iload_n 3, 1) := by decide +kernel
theorem dX3_read_19 : decode cX3_read 19 = .ok (.invokevirtual 66, 3) := by decide +kernel
theorem dX3_read_22 : decode cX3_read 22 = .ok (.invokevirtual 42, 3) := by decide +kernel
theorem dX3_read_25 : decode cX3_read 25 = .ok (.ireturn, 1) := by decide +kernel
set_option maxRecDepth 20000 in
theorem ggX3_write_X0_prepare : GoodIn wsX3_write wsX0_prepare := goodIn_r _ [7, 8, 9, 10, 11, 12, 13, 14, 15, 16, 17, 18, 19, 20, 21, 22, 23, 24, 25, 26, 27, 28, 29, 30, 31, 32, 33, 34, 35, 36, 37, 38, 39, 40, 100, 101, 102, 103, 104, 105, 106, 107, 108, 109, 110, 111, 112, 113, 114] (by decide +kernel) (by decide +kernel)
set_option maxRecDepth 20000 in
theorem gX3_write_X0_prepare : GoodIn wsX3_write (wsV RX3 34 RX0 yX0_prepare wsX0_prepare) := goodIn_app (goodIn_of _ (by decide +kernel)) ggX3_write_X0_prepare
set_option maxRecDepth 20000 in
theorem ggX3_write_X2_writeKey : GoodIn wsX3_write wsX2_writeKey := goodIn_r _ [44, 23, 15, 22, 21, 25, 16, 17, 18, 19, 20, 45, 46, 47, 48, 49, 50, 51, 52, 53, 54, 55, 56, 57, 13, 58, 24, 59, 60, 61, 62, 63, 64, 65, 66, 67, 68, 69, 70, 32, 71, 72, 73, 74, 75, 76, 77, 26, 103, 104, 105, 106, 107, 108, 109, 110, 111, 112, 113, 114] (by decide +kernel) (by decide +kernel)
set_option maxRecDepth 20000 in
theorem gX3_write_X2_writeKey : GoodIn wsX3_write (wsV RX3 70 RX2 yX2_writeKey wsX2_writeKey) := goodIn_app (goodIn_of _ (by decide +kernel)) ggX3_write_X2_writeKey
set_option maxRecDepth 20000 in
theorem ggX3_write_X3_endUndoable : GoodIn wsX3_write wsX3_endUndoable := goodIn_r _ [81, 1, 82, 83, 84, 6, 85, 9, 86, 87, 31, 32, 33, 88, 89, 90, 46, 91, 92, 93, 94, 95, 96, 97, 98, 99, 100, 101, 102] (by decide +kernel) (by decide +kernel)
set_option maxRecDepth 20000 in
theorem gX3_write_X3_endUndoable : GoodIn wsX3_write (wsV RX3 42 RX3 yX3_endUndoable wsX3_endUndoable) := goodIn_app (goodIn_of _ (by decide +kernel)) ggX3_write_X3_endUndoable
theorem dX3_write_0 : decode cX3_write 0 = .ok (.aload_n 0, 1) := by decide +kernel
theorem dX3_write_1 : decode cX3_write 1 = .ok (.getfield 19, 3) := by decide +kernel
theorem dX3_write_4 : decode cX3_write 4 = .ok (.aload_n 0, 1) := by decide +kernel
theorem dX3_write_5 : decode cX3_write 5 = .ok (.getfield 12, 3) := by decide +kernel
theorem dX3_write_8 : decode cX3_write 8 = .ok (.invokevirtual 34, 3) := by decide +kernel
theorem dX3_write_11 : decode cX3_write 11 = .ok (.aload_n 0, 1) := by decide +kernel
theorem dX3_write_12 : decode cX3_write 12 = .ok (.aload_n 0, 1) := by decide +kernel
theorem dX3_write_13 : decode cX3_write 13 = .ok (.getfield 12, 3) := by decide +kernel
theorem dX3_write_16 : decode cX3_write 16 = .ok (.iload_n 1, 1) := by decide +kernel
theorem dX3_write_17 : decode cX3_write 17 = .ok (.iload_n 2, 1) := by decide +kernel
theorem dX3_write_18 : decode cX3_write 18 = .ok (.iload_n 3, 1) := by decide +kernel
theorem dX3_write_19 : decode cX3_write 19 = .ok (.iload 4, 2) := by decide +kernel
theorem dX3_write_21 : decode cX3_write 21 = .ok (.invokevirtual 70, 3) := by decide +kernel
theorem dX3_write_24 : decode cX3_write 24 = .ok (.invokevirtual 42, 3) := by decide +kernel
theorem dX3_write_27 : decode cX3_write 27 = .ok (.ireturn, 1) := by decide +kernel
set_option maxRecDepth 20000 in
theorem ggX3_sync_X0_prepare : GoodIn wsX3_sync wsX0_prepare := goodIn_r _ [7, 8, 9, 10, 11, 12, 13, 14, 15, 16, 17, 18, 19, 20, 21, 22, 23, 24, 25, 26, 27, 28, 29, 30, 31, 32, 33, 34, 35, 36, 37, 38, 39, 40, 83, 84, 85, 86, 87, 88, 89, 90, 91, 92, 93, 94, 95, 96, 97] (by decide +kernel) (by decide +kernel)
set_option maxRecDepth 20000 in
theorem gX3_sync_X0_prepare : GoodIn wsX3_sync (wsV RX3 34 RX0 yX0_prepare wsX0_prepare) := goodIn_app (goodIn_of _ (by decide +kernel)) ggX3_sync_X0_prepare
set_option maxRecDepth 20000 in
theorem ggX3_sync_X2_synchronize : GoodIn wsX3_sync wsX2_synchronize := goodIn_r _ [44, 15, 22, 20, 45, 46, 32, 47, 21, 48, 49, 50, 51, 52, 53, 54, 55, 56, 13, 57, 17, 16, 58, 59, 60, 86, 87, 88, 89, 90, 91, 92, 93, 94, 95, 96, 97] (by decide +kernel) (by decide +kernel)
set_option maxRecDepth 20000 in
theorem gX3_sync_X2_synchronize : GoodIn wsX3_sync (wsV RX3 74 RX2 yX2_synchronize wsX2_synchronize) := goodIn_app (goodIn_of _ (by decide +kernel)) ggX3_sync_X2_synchronize
set_option maxRecDepth 20000 in
theorem ggX3_sync_X3_endUndoable : GoodIn wsX3_sync wsX3_endUndoable := goodIn_r _ [64, 1, 65, 66, 67, 6, 68, 9, 69, 70, 31, 32, 33, 71, 72, 73, 49, 74, 75, 76, 77, 78, 79, 80, 81, 82, 83, 84, 85] (by decide +kernel) (by decide +kernel)
set_option maxRecDepth 20000 in
theorem gX3_sync_X3_endUndoable : GoodIn wsX3_sync (wsV RX3 42 RX3 yX3_endUndoable wsX3_endUndoable) := goodIn_app (goodIn_of _ (by decide +kernel)) ggX3_sync_X3_endUndoable
theorem dX3_sync_0 : decode cX3_sync 0 = .ok (.aload_n 0, 1) := by decide +kernel
theorem dX3_sync_1 : decode cX3_sync 1 = .ok (.getfield 19, 3) := by decide +kernel
theorem dX3_sync_4 : decode cX3_sync 4 = .ok (.aload_n 0, 1) := by decide +kernel
theorem dX3_sync_5 : decode cX3_sync 5 = .ok (.getfield 12, 3) := by decide +kernel
theorem dX3_sync_8 : decode cX3_sync 8 = .ok (.invokevirtual 34, 3) := by decide +kernel
theorem dX3_sync_11 : decode cX3_sync 11 = .ok (.aload_n 0, 1) := by decide +kernel
theorem dX3_sync_12 : decode cX3_sync 12 = .ok (.aload_n 0, 1) := by decide +kernel
theorem dX3_sync_13 : decode cX3_sync 13 = .ok (.getfield 12, 3) := by decide +kernel
theorem dX3_sync_16 : decode cX3_sync 16 = .ok (.iload_n 1, 1) := by decide +kernel
theorem dX3_sync_17 : decode cX3_sync 17 = .ok (.iload_n 2, 1) := by decide +kernel
theorem dX3_sync_18 : decode cX3_sync 18 = .ok (.invokevirtual 74, 3) := by decide +kernel
theorem dX3_sync_21 : decode cX3_sync 21 = .ok (.invokevirtual 42, 3) := by decide +kernel
theorem dX3_sync_24 : decode cX3_sync 24 = .ok (.ireturn, 1) := by decide +kernel
set_option maxRecDepth 20000 in
theorem ggX3_readBreaches_X3_isClient : GoodIn wsX3_readBreaches wsX3_isClient := goodIn_r _ [5, 6, 7, 4, 8] (by decide +kernel) (by decide +kernel)
set_option maxRecDepth 20000 in
theorem gX3_readBreaches_X3_isClient : GoodIn wsX3_readBreaches (va_wsS RX3 49 yX3_isClient wsX3_isClient) := goodIn_app (goodIn_of _ (by decide +kernel)) ggX3_readBreaches_X3_isClient
set_option maxRecDepth 20000 in
theorem ggX3_readBreaches_X3_isReplica : GoodIn wsX3_readBreaches wsX3_isReplica := goodIn_r _ [11, 6, 7, 4, 8] (by decide +kernel) (by decide +kernel)
set_option maxRecDepth 20000 in
theorem gX3_readBreaches_X3_isReplica : GoodIn wsX3_readBreaches (va_wsS RX3 53 yX3_isReplica wsX3_isReplica) := goodIn_app (goodIn_of _ (by decide +kernel)) ggX3_readBreaches_X3_isReplica
set_option maxRecDepth 20000 in
theorem ggX3_readBreaches_X3_counted : GoodIn wsX3_readBreaches wsX3_counted := goodIn_r _ [15, 16, 17, 18, 4, 19, 45, 46, 47, 48] (by decide +kernel) (by decide +kernel)
set_option maxRecDepth 20000 in
theorem gX3_readBreaches_X3_counted : GoodIn wsX3_readBreaches (wsV RX3 56 RX3 yX3_counted wsX3_counted) := goodIn_app (goodIn_of _ (by decide +kernel)) ggX3_readBreaches_X3_counted
set_option maxRecDepth 20000 in
theorem ggX3_readBreaches_X3_only : GoodIn wsX3_readBreaches wsX3_only := goodIn_r _ [22] (by decide +kernel) (by decide +kernel)
set_option maxRecDepth 20000 in
theorem gX3_readBreaches_X3_only : GoodIn wsX3_readBreaches (va_wsS RX3 77 yX3_only wsX3_only) := goodIn_app (goodIn_of _ (by decide +kernel)) ggX3_readBreaches_X3_only
set_option maxRecDepth 20000 in
theorem ggX3_readBreaches_X2_unmetByRead : GoodIn wsX3_readBreaches wsX2_unmetByRead := goodIn_r _ [27, 28, 29, 30, 31, 32, 26, 33, 34, 35, 36, 37, 38, 39, 40, 41, 42, 43, 4, 44, 49, 50, 51, 52, 53, 54, 55, 56, 57, 58, 59, 60] (by decide +kernel) (by decide +kernel)
set_option maxRecDepth 20000 in
theorem gX3_readBreaches_X2_unmetByRead : GoodIn wsX3_readBreaches (wsV RX3 80 RX2 yX2_unmetByRead wsX2_unmetByRead) := goodIn_app (goodIn_of _ (by decide +kernel)) ggX3_readBreaches_X2_unmetByRead
theorem dX3_readBreaches_0 : decode cX3_readBreaches 0 = .ok (.iload_n 1, 1) := by decide +kernel
theorem dX3_readBreaches_1 : decode cX3_readBreaches 1 = .ok (.invokestatic 49, 3) := by decide +kernel
theorem dX3_readBreaches_4 : decode cX3_readBreaches 4 = .ok (.ifCond .eq 10, 3) := by decide +kernel
theorem dX3_readBreaches_7 : decode cX3_readBreaches 7 = .ok (.iload_n 2, 1) := by decide +kernel
theorem dX3_readBreaches_8 : decode cX3_readBreaches 8 = .ok (.invokestatic 53, 3) := by decide +kernel
theorem dX3_readBreaches_11 : decode cX3_readBreaches 11 = .ok (.ifCond .ne 10, 3) := by decide +kernel
theorem dX3_readBreaches_14 : decode cX3_readBreaches 14 = .ok (.aload_n 0, 1) := by decide +kernel
theorem dX3_readBreaches_15 : decode cX3_readBreaches 15 = .ok (.bipush (-2), 2) := by decide +kernel
theorem dX3_readBreaches_17 : decode cX3_readBreaches 17 = .ok (.invokevirtual 56, 3) := by decide +kernel
theorem dX3_readBreaches_20 : decode cX3_readBreaches 20 = .ok (.ireturn, 1) := by decide +kernel
theorem dX3_readBreaches_21 : decode cX3_readBreaches 21 = .ok (.aload_n 0, 1) := by decide +kernel
theorem dX3_readBreaches_22 : decode cX3_readBreaches 22 = .ok (.getfield 12, 3) := by decide +kernel
theorem dX3_readBreaches_25 : decode cX3_readBreaches 25 = .ok (.iload_n 1, 1) := by decide +kernel
theorem dX3_readBreaches_26 : decode cX3_readBreaches 26 = .ok (.iload_n 2, 1) := by decide +kernel
theorem dX3_readBreaches_27 : decode cX3_readBreaches 27 = .ok (.invokestatic 77, 3) := by decide +kernel
theorem dX3_readBreaches_30 : decode cX3_readBreaches 30 = .ok (.invokevirtual 80, 3) := by decide +kernel
theorem dX3_readBreaches_33 : decode cX3_readBreaches 33 = .ok (.ireturn, 1) := by decide +kernel
set_option maxRecDepth 20000 in
theorem ggX3_writeBreaches_X3_isClient : GoodIn wsX3_writeBreaches wsX3_isClient := goodIn_r _ [5, 6, 7, 4, 8] (by decide +kernel) (by decide +kernel)
set_option maxRecDepth 20000 in
theorem gX3_writeBreaches_X3_isClient : GoodIn wsX3_writeBreaches (va_wsS RX3 49 yX3_isClient wsX3_isClient) := goodIn_app (goodIn_of _ (by decide +kernel)) ggX3_writeBreaches_X3_isClient
set_option maxRecDepth 20000 in
theorem ggX3_writeBreaches_X3_isReplica : GoodIn wsX3_writeBreaches wsX3_isReplica := goodIn_r _ [11, 6, 7, 4, 8] (by decide +kernel) (by decide +kernel)
set_option maxRecDepth 20000 in
theorem gX3_writeBreaches_X3_isReplica : GoodIn wsX3_writeBreaches (va_wsS RX3 53 yX3_isReplica wsX3_isReplica) := goodIn_app (goodIn_of _ (by decide +kernel)) ggX3_writeBreaches_X3_isReplica
set_option maxRecDepth 20000 in
theorem ggX3_writeBreaches_X3_counted : GoodIn wsX3_writeBreaches wsX3_counted := goodIn_r _ [15, 16, 17, 18, 4, 19, 44, 45, 46, 47] (by decide +kernel) (by decide +kernel)
set_option maxRecDepth 20000 in
theorem gX3_writeBreaches_X3_counted : GoodIn wsX3_writeBreaches (wsV RX3 56 RX3 yX3_counted wsX3_counted) := goodIn_app (goodIn_of _ (by decide +kernel)) ggX3_writeBreaches_X3_counted
set_option maxRecDepth 20000 in
theorem ggX3_writeBreaches_X2_unmetByWrite : GoodIn wsX3_writeBreaches wsX2_unmetByWrite := goodIn_r _ [24, 25, 26, 27, 4, 28, 29, 30, 31, 23, 32, 33, 34, 35, 36, 37, 38, 39, 40, 41, 42, 43, 48, 49, 50, 51, 52, 53, 54, 55, 56, 57, 58, 59] (by decide +kernel) (by decide +kernel)
set_option maxRecDepth 20000 in
theorem gX3_writeBreaches_X2_unmetByWrite : GoodIn wsX3_writeBreaches (wsV RX3 83 RX2 yX2_unmetByWrite wsX2_unmetByWrite) := goodIn_app (goodIn_of _ (by decide +kernel)) ggX3_writeBreaches_X2_unmetByWrite
theorem dX3_writeBreaches_0 : decode cX3_writeBreaches 0 = .ok (.iload_n 1, 1) := by decide +kernel
theorem dX3_writeBreaches_1 : decode cX3_writeBreaches 1 = .ok (.invokestatic 49, 3) := by decide +kernel
theorem dX3_writeBreaches_4 : decode cX3_writeBreaches 4 = .ok (.ifCond .eq 10, 3) := by decide +kernel
theorem dX3_writeBreaches_7 : decode cX3_writeBreaches 7 = .ok (.iload_n 2, 1) := by decide +kernel
theorem dX3_writeBreaches_8 : decode cX3_writeBreaches 8 = .ok (.invokestatic 53, 3) := by decide +kernel
theorem dX3_writeBreaches_11 : decode cX3_writeBreaches 11 = .ok (.ifCond .ne 10, 3) := by decide +kernel
theorem dX3_writeBreaches_14 : decode cX3_writeBreaches 14 = .ok (.aload_n 0, 1) := by decide +kernel
theorem dX3_writeBreaches_15 : decode cX3_writeBreaches 15 = .ok (.bipush (-2), 2) := by decide +kernel
theorem dX3_writeBreaches_17 : decode cX3_writeBreaches 17 = .ok (.invokevirtual 56, 3) := by decide +kernel
theorem dX3_writeBreaches_20 : decode cX3_writeBreaches 20 = .ok (.ireturn, 1) := by decide +kernel
theorem dX3_writeBreaches_21 : decode cX3_writeBreaches 21 = .ok (.aload_n 0, 1) := by decide +kernel
theorem dX3_writeBreaches_22 : decode cX3_writeBreaches 22 = .ok (.getfield 12, 3) := by decide +kernel
theorem dX3_writeBreaches_25 : decode cX3_writeBreaches 25 = .ok (.iload_n 1, 1) := by decide +kernel
theorem dX3_writeBreaches_26 : decode cX3_writeBreaches 26 = .ok (.iload_n 2, 1) := by decide +kernel
theorem dX3_writeBreaches_27 : decode cX3_writeBreaches 27 = .ok (.invokevirtual 83, 3) := by decide +kernel
theorem dX3_writeBreaches_30 : decode cX3_writeBreaches 30 = .ok (.ireturn, 1) := by decide +kernel
set_option maxRecDepth 20000 in
theorem ggX3_readableReplica_X3_isClient : GoodIn wsX3_readableReplica wsX3_isClient := goodIn_r _ [5, 6, 7, 4, 8] (by decide +kernel) (by decide +kernel)
set_option maxRecDepth 20000 in
theorem gX3_readableReplica_X3_isClient : GoodIn wsX3_readableReplica (va_wsS RX3 49 yX3_isClient wsX3_isClient) := goodIn_app (goodIn_of _ (by decide +kernel)) ggX3_readableReplica_X3_isClient
set_option maxRecDepth 20000 in
theorem ggX3_readableReplica_X3_counted : GoodIn wsX3_readableReplica wsX3_counted := goodIn_r _ [12, 13, 14, 15, 4, 16, 47, 48, 49, 50] (by decide +kernel) (by decide +kernel)
set_option maxRecDepth 20000 in
theorem gX3_readableReplica_X3_counted : GoodIn wsX3_readableReplica (wsV RX3 56 RX3 yX3_counted wsX3_counted) := goodIn_app (goodIn_of _ (by decide +kernel)) ggX3_readableReplica_X3_counted
set_option maxRecDepth 20000 in
theorem ggX3_readableReplica_X3_only : GoodIn wsX3_readableReplica wsX3_only := goodIn_r _ [19] (by decide +kernel) (by decide +kernel)
set_option maxRecDepth 20000 in
theorem gX3_readableReplica_X3_only : GoodIn wsX3_readableReplica (va_wsS RX3 77 yX3_only wsX3_only) := goodIn_app (goodIn_of _ (by decide +kernel)) ggX3_readableReplica_X3_only
set_option maxRecDepth 20000 in
theorem ggX3_readableReplica_X2_isReadAllowed : GoodIn wsX3_readableReplica wsX2_isReadAllowed := goodIn_r _ [24, 25, 26, 27, 28, 23, 29, 30, 31, 32, 33, 34, 35, 36, 37, 38, 39, 40, 41, 42, 43, 44, 45, 4, 46, 51, 52, 53, 54, 55, 56, 57, 58, 59, 60, 61, 62] (by decide +kernel) (by decide +kernel)
set_option maxRecDepth 20000 in
theorem gX3_readableReplica_X2_isReadAllowed : GoodIn wsX3_readableReplica (wsV RX3 86 RX2 yX2_isReadAllowed wsX2_isReadAllowed) := goodIn_app (goodIn_of _ (by decide +kernel)) ggX3_readableReplica_X2_isReadAllowed
theorem dX3_readableReplica_0 : decode cX3_readableReplica 0 = .ok (.iload_n 1, 1) := by decide +kernel
theorem dX3_readableReplica_1 : decode cX3_readableReplica 1 = .ok (.invokestatic 49, 3) := by decide +kernel
theorem dX3_readableReplica_4 : decode cX3_readableReplica 4 = .ok (.ifCond .ne 10, 3) := by decide +kernel
theorem dX3_readableReplica_7 : decode cX3_readableReplica 7 = .ok (.aload_n 0, 1) := by decide +kernel
theorem dX3_readableReplica_8 : decode cX3_readableReplica 8 = .ok (.bipush (-2), 2) := by decide +kernel
theorem dX3_readableReplica_10 : decode cX3_readableReplica 10 = .ok (.invokevirtual 56, 3) := by decide +kernel
theorem dX3_readableReplica_13 : decode cX3_readableReplica 13 = .ok (.ireturn, 1) := by decide +kernel
theorem dX3_readableReplica_14 : decode cX3_readableReplica 14 = .ok (.iconst 0, 1) := by decide +kernel
theorem dX3_readableReplica_15 : decode cX3_readableReplica 15 = .ok (.istore_n 2, 1) := by decide +kernel
theorem dX3_readableReplica_16 : decode cX3_readableReplica 16 = .ok (.iload_n 2, 1) := by decide +kernel
theorem dX3_readableReplica_17 : decode cX3_readableReplica 17 = .ok (.iconst 3, 1) := by decide +kernel
theorem dX3_readableReplica_18 : decode cX3_readableReplica 18 = .ok (.if_icmp .ge 26, 3) := by decide +kernel
theorem dX3_readableReplica_21 : decode cX3_readableReplica 21 = .ok (.aload_n 0, 1) := by decide +kernel
theorem dX3_readableReplica_22 : decode cX3_readableReplica 22 = .ok (.getfield 12, 3) := by decide +kernel
theorem dX3_readableReplica_25 : decode cX3_readableReplica 25 = .ok (.iload_n 1, 1) := by decide +kernel
theorem dX3_readableReplica_26 : decode cX3_readableReplica 26 = .ok (.iload_n 2, 1) := by decide +kernel
theorem dX3_readableReplica_27 : decode cX3_readableReplica 27 = .ok (.invokestatic 77, 3) := by decide +kernel
theorem dX3_readableReplica_30 : decode cX3_readableReplica 30 = .ok (.invokevirtual 86, 3) := by decide +kernel
theorem dX3_readableReplica_33 : decode cX3_readableReplica 33 = .ok (.ifCond .eq 5, 3) := by decide +kernel
theorem dX3_readableReplica_36 : decode cX3_readableReplica 36 = .ok (.iload_n 2, 1) := by decide +kernel
theorem dX3_readableReplica_37 : decode cX3_readableReplica 37 = .ok (.ireturn, 1) := by decide +kernel
theorem dX3_readableReplica_38 : decode cX3_readableReplica 38 = .ok (.iinc 2 1, 3) := by decide +kernel
theorem dX3_readableReplica_41 : decode cX3_readableReplica 41 = .ok (.goto (-25), 3) := by decide +kernel
theorem dX3_readableReplica_44 : decode cX3_readableReplica 44 = .ok (.iconst (-1), 1) := by decide +kernel
theorem dX3_readableReplica_45 : decode cX3_readableReplica 45 = .ok (.ireturn, 1) := by decide +kernel
set_option maxRecDepth 20000 in
theorem ggX3_writableReplica_X3_isClient : GoodIn wsX3_writableReplica wsX3_isClient := goodIn_r _ [5, 6, 7, 4, 8] (by decide +kernel) (by decide +kernel)
set_option maxRecDepth 20000 in
theorem gX3_writableReplica_X3_isClient : GoodIn wsX3_writableReplica (va_wsS RX3 49 yX3_isClient wsX3_isClient) := goodIn_app (goodIn_of _ (by decide +kernel)) ggX3_writableReplica_X3_isClient
set_option maxRecDepth 20000 in
theorem ggX3_writableReplica_X3_counted : GoodIn wsX3_writableReplica wsX3_counted := goodIn_r _ [12, 13, 14, 15, 4, 16, 46, 47, 48, 49] (by decide +kernel) (by decide +kernel)
set_option maxRecDepth 20000 in
theorem gX3_writableReplica_X3_counted : GoodIn wsX3_writableReplica (wsV RX3 56 RX3 yX3_counted wsX3_counted) := goodIn_app (goodIn_of _ (by decide +kernel)) ggX3_writableReplica_X3_counted
set_option maxRecDepth 20000 in
theorem ggX3_writableReplica_X2_isWriteAllowed : GoodIn wsX3_writableReplica wsX2_isWriteAllowed := goodIn_r _ [21, 22, 23, 24, 25, 20, 26, 27, 28, 29, 4, 30, 31, 32, 33, 34, 35, 36, 37, 38, 39, 40, 41, 42, 43, 44, 45, 50, 51, 52, 53, 54, 55, 56, 57, 58, 59, 60, 61] (by decide +kernel) (by decide +kernel)
set_option maxRecDepth 20000 in
theorem gX3_writableReplica_X2_isWriteAllowed : GoodIn wsX3_writableReplica (wsV RX3 90 RX2 yX2_isWriteAllowed wsX2_isWriteAllowed) := goodIn_app (goodIn_of _ (by decide +kernel)) ggX3_writableReplica_X2_isWriteAllowed
theorem dX3_writableReplica_0 : decode cX3_writableReplica 0 = .ok (.iload_n 1, 1) := by decide +kernel
theorem dX3_writableReplica_1 : decode cX3_writableReplica 1 = .ok (.invokestatic 49, 3) := by decide +kernel
theorem dX3_writableReplica_4 : decode cX3_writableReplica 4 = .ok (.ifCond .ne 10, 3) := by decide +kernel
theorem dX3_writableReplica_7 : decode cX3_writableReplica 7 = .ok (.aload_n 0, 1) := by decide +kernel
theorem dX3_writableReplica_8 : decode cX3_writableReplica 8 = .ok (.bipush (-2), 2) := by decide +kernel
theorem dX3_writableReplica_10 : decode cX3_writableReplica 10 = .ok (.invokevirtual 56, 3) := by decide +kernel
theorem dX3_writableReplica_13 : decode cX3_writableReplica 13 = .ok (.ireturn, 1) := by decide +kernel
theorem dX3_writableReplica_14 : decode cX3_writableReplica 14 = .ok (.iconst 0, 1) := by decide +kernel
theorem dX3_writableReplica_15 : decode cX3_writableReplica 15 = .ok (.istore_n 2, 1) := by decide +kernel
theorem dX3_writableReplica_16 : decode cX3_writableReplica 16 = .ok (.iload_n 2, 1) := by decide +kernel
theorem dX3_writableReplica_17 : decode cX3_writableReplica 17 = .ok (.iconst 3, 1) := by decide +kernel
theorem dX3_writableReplica_18 : decode cX3_writableReplica 18 = .ok (.if_icmp .ge 23, 3) := by decide +kernel
theorem dX3_writableReplica_21 : decode cX3_writableReplica 21 = .ok (.aload_n 0, 1) := by decide +kernel
theorem dX3_writableReplica_22 : decode cX3_writableReplica 22 = .ok (.getfield 12, 3) := by decide +kernel
theorem dX3_writableReplica_25 : decode cX3_writableReplica 25 = .ok (.iload_n 1, 1) := by decide +kernel
theorem dX3_writableReplica_26 : decode cX3_writableReplica 26 = .ok (.iload_n 2, 1) := by decide +kernel
theorem dX3_writableReplica_27 : decode cX3_writableReplica 27 = .ok (.invokevirtual 90, 3) := by decide +kernel
theorem dX3_writableReplica_30 : decode cX3_writableReplica 30 = .ok (.ifCond .eq 5, 3) := by decide +kernel
theorem dX3_writableReplica_33 : decode cX3_writableReplica 33 = .ok (.iload_n 2, 1) := by decide +kernel
theorem dX3_writableReplica_34 : decode cX3_writableReplica 34 = .ok (.ireturn, 1) := by decide +kernel
theorem dX3_writableReplica_35 : decode cX3_writableReplica 35 = .ok (.iinc 2 1, 3) := by decide +kernel
theorem dX3_writableReplica_38 : decode cX3_writableReplica 38 = .ok (.goto (-22), 3) := by decide +kernel
theorem dX3_writableReplica_41 : decode cX3_writableReplica 41 = .ok (.iconst (-1), 1) := by decide +kernel
theorem dX3_writableReplica_42 : decode cX3_writableReplica 42 = .ok (.ireturn, 1) := by decide +kernel
set_option maxRecDepth 20000 in
theorem ggX3_syncsForRead_X3_isClient : GoodIn wsX3_syncsForRead wsX3_isClient := goodIn_r _ [5, 6, 7, 4, 8] (by decide +kernel) (by decide +kernel)
set_option maxRecDepth 20000 in
theorem gX3_syncsForRead_X3_isClient : GoodIn wsX3_syncsForRead (va_wsS RX3 49 yX3_isClient wsX3_isClient) := goodIn_app (goodIn_of _ (by decide +kernel)) ggX3_syncsForRead_X3_isClient
set_option maxRecDepth 20000 in
theorem ggX3_syncsForRead_X3_isReplica : GoodIn wsX3_syncsForRead wsX3_isReplica := goodIn_r _ [11, 6, 7, 4, 8] (by decide +kernel) (by decide +kernel)
set_option maxRecDepth 20000 in
theorem gX3_syncsForRead_X3_isReplica : GoodIn wsX3_syncsForRead (va_wsS RX3 53 yX3_isReplica wsX3_isReplica) := goodIn_app (goodIn_of _ (by decide +kernel)) ggX3_syncsForRead_X3_isReplica
set_option maxRecDepth 20000 in
theorem ggX3_syncsForRead_X3_counted : GoodIn wsX3_syncsForRead wsX3_counted := goodIn_r _ [15, 16, 17, 18, 4, 19, 51, 52, 53, 54] (by decide +kernel) (by decide +kernel)
set_option maxRecDepth 20000 in
theorem gX3_syncsForRead_X3_counted : GoodIn wsX3_syncsForRead (wsV RX3 56 RX3 yX3_counted wsX3_counted) := goodIn_app (goodIn_of _ (by decide +kernel)) ggX3_syncsForRead_X3_counted
set_option maxRecDepth 20000 in
theorem ggX3_syncsForRead_X3_contains : GoodIn wsX3_syncsForRead wsX3_contains := goodIn_r _ [22] (by decide +kernel) (by decide +kernel)
set_option maxRecDepth 20000 in
theorem gX3_syncsForRead_X3_contains : GoodIn wsX3_syncsForRead (va_wsS RX3 93 yX3_contains wsX3_contains) := goodIn_app (goodIn_of _ (by decide +kernel)) ggX3_syncsForRead_X3_contains
set_option maxRecDepth 20000 in
theorem ggX3_syncsForRead_X3_only : GoodIn wsX3_syncsForRead wsX3_only := goodIn_r _ [25] (by decide +kernel) (by decide +kernel)
set_option maxRecDepth 20000 in
theorem gX3_syncsForRead_X3_only : GoodIn wsX3_syncsForRead (va_wsS RX3 77 yX3_only wsX3_only) := goodIn_app (goodIn_of _ (by decide +kernel)) ggX3_syncsForRead_X3_only
set_option maxRecDepth 20000 in
theorem ggX3_syncsForRead_X2_isReadAllowed : GoodIn wsX3_syncsForRead wsX2_isReadAllowed := goodIn_r _ [30, 31, 32, 33, 34, 29, 35, 36, 37, 38, 39, 40, 41, 42, 43, 44, 45, 46, 47, 48, 49, 50, 21, 4, 22, 55, 56, 57, 58, 59, 60, 61, 62, 63, 64, 65, 66] (by decide +kernel) (by decide +kernel)
set_option maxRecDepth 20000 in
theorem gX3_syncsForRead_X2_isReadAllowed : GoodIn wsX3_syncsForRead (wsV RX3 86 RX2 yX2_isReadAllowed wsX2_isReadAllowed) := goodIn_app (goodIn_of _ (by decide +kernel)) ggX3_syncsForRead_X2_isReadAllowed
theorem dX3_syncsForRead_0 : decode cX3_syncsForRead 0 = .ok (.iload_n 1, 1) := by decide +kernel
theorem dX3_syncsForRead_1 : decode cX3_syncsForRead 1 = .ok (.invokestatic 49, 3) := by decide +kernel
theorem dX3_syncsForRead_4 : decode cX3_syncsForRead 4 = .ok (.ifCond .eq 10, 3) := by decide +kernel
theorem dX3_syncsForRead_7 : decode cX3_syncsForRead 7 = .ok (.iload_n 2, 1) := by decide +kernel
theorem dX3_syncsForRead_8 : decode cX3_syncsForRead 8 = .ok (.invokestatic 53, 3) := by decide +kernel
theorem dX3_syncsForRead_11 : decode cX3_syncsForRead 11 = .ok (.ifCond .ne 10, 3) := by decide +kernel
theorem dX3_syncsForRead_14 : decode cX3_syncsForRead 14 = .ok (.aload_n 0, 1) := by decide +kernel
theorem dX3_syncsForRead_15 : decode cX3_syncsForRead 15 = .ok (.bipush (-2), 2) := by decide +kernel
theorem dX3_syncsForRead_17 : decode cX3_syncsForRead 17 = .ok (.invokevirtual 56, 3) := by decide +kernel
theorem dX3_syncsForRead_20 : decode cX3_syncsForRead 20 = .ok (.ireturn, 1) := by decide +kernel
theorem dX3_syncsForRead_21 : decode cX3_syncsForRead 21 = .ok (.iconst 0, 1) := by decide +kernel
theorem dX3_syncsForRead_22 : decode cX3_syncsForRead 22 = .ok (.istore_n 3, 1) := by decide +kernel
theorem dX3_syncsForRead_23 : decode cX3_syncsForRead 23 = .ok (.iload_n 3, 1) := by decide +kernel
theorem dX3_syncsForRead_24 : decode cX3_syncsForRead 24 = .ok (.bipush 8, 2) := by decide +kernel
theorem dX3_syncsForRead_26 : decode cX3_syncsForRead 26 = .ok (.if_icmp .ge 36, 3) := by decide +kernel
theorem dX3_syncsForRead_29 : decode cX3_syncsForRead 29 = .ok (.iload_n 3, 1) := by decide +kernel
theorem dX3_syncsForRead_30 : decode cX3_syncsForRead 30 = .ok (.iload_n 2, 1) := by decide +kernel
theorem dX3_syncsForRead_31 : decode cX3_syncsForRead 31 = .ok (.invokestatic 93, 3) := by decide +kernel
theorem dX3_syncsForRead_34 : decode cX3_syncsForRead 34 = .ok (.ifCond .ne 22, 3) := by decide +kernel
theorem dX3_syncsForRead_37 : decode cX3_syncsForRead 37 = .ok (.aload_n 0, 1) := by decide +kernel
theorem dX3_syncsForRead_38 : decode cX3_syncsForRead 38 = .ok (.getfield 12, 3) := by decide +kernel
theorem dX3_syncsForRead_41 : decode cX3_syncsForRead 41 = .ok (.iload_n 1, 1) := by decide +kernel
theorem dX3_syncsForRead_42 : decode cX3_syncsForRead 42 = .ok (.iload_n 3, 1) := by decide +kernel
theorem dX3_syncsForRead_43 : decode cX3_syncsForRead 43 = .ok (.iload_n 2, 1) := by decide +kernel
theorem dX3_syncsForRead_44 : decode cX3_syncsForRead 44 = .ok (.invokestatic 77, 3) := by decide +kernel
theorem dX3_syncsForRead_47 : decode cX3_syncsForRead 47 = .ok (.ior, 1) := by decide +kernel
theorem dX3_syncsForRead_48 : decode cX3_syncsForRead 48 = .ok (.invokevirtual 86, 3) := by decide +kernel
theorem dX3_syncsForRead_51 : decode cX3_syncsForRead 51 = .ok (.ifCond .eq 5, 3) := by decide +kernel
theorem dX3_syncsForRead_54 : decode cX3_syncsForRead 54 = .ok (.iload_n 3, 1) := by decide +kernel
theorem dX3_syncsForRead_55 : decode cX3_syncsForRead 55 = .ok (.ireturn, 1) := by decide +kernel
theorem dX3_syncsForRead_56 : decode cX3_syncsForRead 56 = .ok (.iinc 3 1, 3) := by decide +kernel
theorem dX3_syncsForRead_59 : decode cX3_syncsForRead 59 = .ok (.goto (-36), 3) := by decide +kernel
theorem dX3_syncsForRead_62 : decode cX3_syncsForRead 62 = .ok (.iconst (-1), 1) := by decide +kernel
theorem dX3_syncsForRead_63 : decode cX3_syncsForRead 63 = .ok (.ireturn, 1) := by decide +kernel
set_option maxRecDepth 20000 in
theorem ggX3_count_X3_isReplica : GoodIn wsX3_count wsX3_isReplica := goodIn_r _ [6, 7, 8, 5, 9] (by decide +kernel) (by decide +kernel)
set_option maxRecDepth 20000 in
theorem gX3_count_X3_isReplica : GoodIn wsX3_count (va_wsS RX3 53 yX3_isReplica wsX3_isReplica) := goodIn_app (goodIn_of _ (by decide +kernel)) ggX3_count_X3_isReplica
set_option maxRecDepth 20000 in
theorem ggX3_count_X3_counted : GoodIn wsX3_count wsX3_counted := goodIn_r _ [13, 14, 15, 16, 5, 17, 18, 19, 20, 21] (by decide +kernel) (by decide +kernel)
set_option maxRecDepth 20000 in
theorem gX3_count_X3_counted : GoodIn wsX3_count (wsV RX3 56 RX3 yX3_counted wsX3_counted) := goodIn_app (goodIn_of _ (by decide +kernel)) ggX3_count_X3_counted
theorem dX3_count_0 : decode cX3_count 0 = .ok (.iload_n 1, 1) := by decide +kernel
theorem dX3_count_1 : decode cX3_count 1 = .ok (.invokestatic 53, 3) := by decide +kernel
theorem dX3_count_4 : decode cX3_count 4 = .ok (.ifCond .eq 10, 3) := by decide +kernel
theorem dX3_count_7 : decode cX3_count 7 = .ok (.iload_n 2, 1) := by decide +kernel
theorem dX3_count_8 : decode cX3_count 8 = .ok (.invokestatic 53, 3) := by decide +kernel
theorem dX3_count_11 : decode cX3_count 11 = .ok (.ifCond .ne 10, 3) := by decide +kernel
theorem dX3_count_14 : decode cX3_count 14 = .ok (.aload_n 0, 1) := by decide +kernel
theorem dX3_count_15 : decode cX3_count 15 = .ok (.bipush (-2), 2) := by decide +kernel
theorem dX3_count_17 : decode cX3_count 17 = .ok (.invokevirtual 56, 3) := by decide +kernel
theorem dX3_count_20 : decode cX3_count 20 = .ok (.ireturn, 1) := by decide +kernel
theorem dX3_count_21 : decode cX3_count 21 = .ok (.aload_n 0, 1) := by decide +kernel
theorem dX3_count_22 : decode cX3_count 22 = .ok (.getfield 12, 3) := by decide +kernel
theorem dX3_count_25 : decode cX3_count 25 = .ok (.getfield 96, 3) := by decide +kernel
theorem dX3_count_28 : decode cX3_count 28 = .ok (.iload_n 1, 1) := by decide +kernel
theorem dX3_count_29 : decode cX3_count 29 = .ok (.aaload, 1) := by decide +kernel
theorem dX3_count_30 : decode cX3_count 30 = .ok (.iload_n 2, 1) := by decide +kernel
theorem dX3_count_31 : decode cX3_count 31 = .ok (.iaload, 1) := by decide +kernel
theorem dX3_count_32 : decode cX3_count 32 = .ok (.ireturn, 1) := by decide +kernel
set_option maxRecDepth 20000 in
theorem ggX3_clock_X3_isReplica : GoodIn wsX3_clock wsX3_isReplica := goodIn_r _ [6, 7, 8, 5, 9] (by decide +kernel) (by decide +kernel)
set_option maxRecDepth 20000 in
theorem gX3_clock_X3_isReplica : GoodIn wsX3_clock (va_wsS RX3 53 yX3_isReplica wsX3_isReplica) := goodIn_app (goodIn_of _ (by decide +kernel)) ggX3_clock_X3_isReplica
set_option maxRecDepth 20000 in
theorem ggX3_clock_X3_counted : GoodIn wsX3_clock wsX3_counted := goodIn_r _ [13, 14, 15, 16, 5, 17, 18, 19, 20, 21] (by decide +kernel) (by decide +kernel)
set_option maxRecDepth 20000 in
theorem gX3_clock_X3_counted : GoodIn wsX3_clock (wsV RX3 56 RX3 yX3_counted wsX3_counted) := goodIn_app (goodIn_of _ (by decide +kernel)) ggX3_clock_X3_counted
theorem dX3_clock_0 : decode cX3_clock 0 = .ok (.iload_n 1, 1) := by decide +kernel
theorem dX3_clock_1 : decode cX3_clock 1 = .ok (.invokestatic 53, 3) := by decide +kernel
theorem dX3_clock_4 : decode cX3_clock 4 = .ok (.ifCond .ne 10, 3) := by decide +kernel
theorem dX3_clock_7 : decode cX3_clock 7 = .ok (.aload_n 0, 1) := by decide +kernel
theorem dX3_clock_8 : decode cX3_clock 8 = .ok (.bipush (-2), 2) := by decide +kernel
theorem dX3_clock_10 : decode cX3_clock 10 = .ok (.invokevirtual 56, 3) := by decide +kernel
theorem dX3_clock_13 : decode cX3_clock 13 = .ok (.ireturn, 1) := by decide +kernel
theorem dX3_clock_14 : decode cX3_clock 14 = .ok (.aload_n 0, 1) := by decide +kernel
theorem dX3_clock_15 : decode cX3_clock 15 = .ok (.getfield 12, 3) := by decide +kernel
theorem dX3_clock_18 : decode cX3_clock 18 = .ok (.getfield 99, 3) := by decide +kernel
theorem dX3_clock_21 : decode cX3_clock 21 = .ok (.iload_n 1, 1) := by decide +kernel
theorem dX3_clock_22 : decode cX3_clock 22 = .ok (.iaload, 1) := by decide +kernel
theorem dX3_clock_23 : decode cX3_clock 23 = .ok (.ireturn, 1) := by decide +kernel
set_option maxRecDepth 20000 in
theorem ggX3_peek_X3_isReplica : GoodIn wsX3_peek wsX3_isReplica := goodIn_r _ [5, 6, 7, 4, 8] (by decide +kernel) (by decide +kernel)
set_option maxRecDepth 20000 in
theorem gX3_peek_X3_isReplica : GoodIn wsX3_peek (va_wsS RX3 53 yX3_isReplica wsX3_isReplica) := goodIn_app (goodIn_of _ (by decide +kernel)) ggX3_peek_X3_isReplica
