set_option maxRecDepth 20000 in
theorem ggX4_writableReplica_X4_guarantees : GoodIn wsX4_writableReplica wsX4_guarantees := goodIn_r _ [26, 22, 27, 28, 29, 30, 31, 32, 33, 34, 35, 36] (by decide +kernel) (by decide +kernel)
set_option maxRecDepth 20000 in
theorem gX4_writableReplica_X4_guarantees : GoodIn wsX4_writableReplica (wsV RX4 53 RX4 yX4_guarantees wsX4_guarantees) := goodIn_app (goodIn_of _ (by decide +kernel)) ggX4_writableReplica_X4_guarantees
theorem dX4_writableReplica_0 : decode cX4_writableReplica 0 = .ok (.iload_n 1, 1) := by decide +kernel
theorem dX4_writableReplica_1 : decode cX4_writableReplica 1 = .ok (.invokestatic 47, 3) := by decide +kernel
theorem dX4_writableReplica_4 : decode cX4_writableReplica 4 = .ok (.ifCond .ne 10, 3) := by decide +kernel
theorem dX4_writableReplica_7 : decode cX4_writableReplica 7 = .ok (.aload_n 0, 1) := by decide +kernel
theorem dX4_writableReplica_8 : decode cX4_writableReplica 8 = .ok (.bipush (-2), 2) := by decide +kernel
theorem dX4_writableReplica_10 : decode cX4_writableReplica 10 = .ok (.invokevirtual 28, 3) := by decide +kernel
theorem dX4_writableReplica_13 : decode cX4_writableReplica 13 = .ok (.ireturn, 1) := by decide +kernel
theorem dX4_writableReplica_14 : decode cX4_writableReplica 14 = .ok (.iconst 0, 1) := by decide +kernel
theorem dX4_writableReplica_15 : decode cX4_writableReplica 15 = .ok (.istore_n 2, 1) := by decide +kernel
theorem dX4_writableReplica_16 : decode cX4_writableReplica 16 = .ok (.iload_n 2, 1) := by decide +kernel
theorem dX4_writableReplica_17 : decode cX4_writableReplica 17 = .ok (.iconst 3, 1) := by decide +kernel
theorem dX4_writableReplica_18 : decode cX4_writableReplica 18 = .ok (.if_icmp .ge 26, 3) := by decide +kernel
theorem dX4_writableReplica_21 : decode cX4_writableReplica 21 = .ok (.aload_n 0, 1) := by decide +kernel
theorem dX4_writableReplica_22 : decode cX4_writableReplica 22 = .ok (.iload_n 1, 1) := by decide +kernel
theorem dX4_writableReplica_23 : decode cX4_writableReplica 23 = .ok (.iload_n 2, 1) := by decide +kernel
theorem dX4_writableReplica_24 : decode cX4_writableReplica 24 = .ok (.invokevirtual 98, 3) := by decide +kernel
theorem dX4_writableReplica_27 : decode cX4_writableReplica 27 = .ok (.aload_n 0, 1) := by decide +kernel
theorem dX4_writableReplica_28 : decode cX4_writableReplica 28 = .ok (.iload_n 1, 1) := by decide +kernel
theorem dX4_writableReplica_29 : decode cX4_writableReplica 29 = .ok (.invokevirtual 53, 3) := by decide +kernel
theorem dX4_writableReplica_32 : decode cX4_writableReplica 32 = .ok (.iand, 1) := by decide +kernel
theorem dX4_writableReplica_33 : decode cX4_writableReplica 33 = .ok (.ifCond .ne 5, 3) := by decide +kernel
theorem dX4_writableReplica_36 : decode cX4_writableReplica 36 = .ok (.iload_n 2, 1) := by decide +kernel
theorem dX4_writableReplica_37 : decode cX4_writableReplica 37 = .ok (.ireturn, 1) := by decide +kernel
theorem dX4_writableReplica_38 : decode cX4_writableReplica 38 = .ok (.iinc 2 1, 3) := by decide +kernel
theorem dX4_writableReplica_41 : decode cX4_writableReplica 41 = .ok (.goto (-25), 3) := by decide +kernel
theorem dX4_writableReplica_44 : decode cX4_writableReplica 44 = .ok (.iconst (-1), 1) := by decide +kernel
theorem dX4_writableReplica_45 : decode cX4_writableReplica 45 = .ok (.ireturn, 1) := by decide +kernel
theorem dX4_isCoveredBy_0 : decode cX4_isCoveredBy 0 = .ok (.iconst 1, 1) := by decide +kernel
theorem dX4_isCoveredBy_1 : decode cX4_isCoveredBy 1 = .ok (.istore_n 3, 1) := by decide +kernel
theorem dX4_isCoveredBy_2 : decode cX4_isCoveredBy 2 = .ok (.iconst 0, 1) := by decide +kernel
theorem dX4_isCoveredBy_3 : decode cX4_isCoveredBy 3 = .ok (.istore 4, 2) := by decide +kernel
theorem dX4_isCoveredBy_5 : decode cX4_isCoveredBy 5 = .ok (.iload 4, 2) := by decide +kernel
theorem dX4_isCoveredBy_7 : decode cX4_isCoveredBy 7 = .ok (.iconst 3, 1) := by decide +kernel
theorem dX4_isCoveredBy_8 : decode cX4_isCoveredBy 8 = .ok (.if_icmp .ge 95, 3) := by decide +kernel
theorem dX4_isCoveredBy_11 : decode cX4_isCoveredBy 11 = .ok (.iconst 0, 1) := by decide +kernel
theorem dX4_isCoveredBy_12 : decode cX4_isCoveredBy 12 = .ok (.istore 5, 2) := by decide +kernel
theorem dX4_isCoveredBy_14 : decode cX4_isCoveredBy 14 = .ok (.iconst 0, 1) := by decide +kernel
theorem dX4_isCoveredBy_15 : decode cX4_isCoveredBy 15 = .ok (.istore 6, 2) := by decide +kernel
theorem dX4_isCoveredBy_17 : decode cX4_isCoveredBy 17 = .ok (.iload 6, 2) := by decide +kernel
theorem dX4_isCoveredBy_19 : decode cX4_isCoveredBy 19 = .ok (.iconst 3, 1) := by decide +kernel
theorem dX4_isCoveredBy_20 : decode cX4_isCoveredBy 20 = .ok (.if_icmp .ge 53, 3) := by decide +kernel
theorem dX4_isCoveredBy_23 : decode cX4_isCoveredBy 23 = .ok (.iload_n 1, 1) := by decide +kernel
theorem dX4_isCoveredBy_24 : decode cX4_isCoveredBy 24 = .ok (.iload 6, 2) := by decide +kernel
theorem dX4_isCoveredBy_26 : decode cX4_isCoveredBy 26 = .ok (.ishr, 1) := by decide +kernel
theorem dX4_isCoveredBy_27 : decode cX4_isCoveredBy 27 = .ok (.iconst 1, 1) := by decide +kernel
theorem dX4_isCoveredBy_28 : decode cX4_isCoveredBy 28 = .ok (.iand, 1) := by decide +kernel
theorem dX4_isCoveredBy_29 : decode cX4_isCoveredBy 29 = .ok (.iconst 1, 1) := by decide +kernel
theorem dX4_isCoveredBy_30 : decode cX4_isCoveredBy 30 = .ok (.if_icmp .ne 18, 3) := by decide +kernel
theorem dX4_isCoveredBy_33 : decode cX4_isCoveredBy 33 = .ok (.aload_n 0, 1) := by decide +kernel
theorem dX4_isCoveredBy_34 : decode cX4_isCoveredBy 34 = .ok (.getfield 7, 3) := by decide +kernel
theorem dX4_isCoveredBy_37 : decode cX4_isCoveredBy 37 = .ok (.iconst 3, 1) := by decide +kernel
theorem dX4_isCoveredBy_38 : decode cX4_isCoveredBy 38 = .ok (.iload 6, 2) := by decide +kernel
theorem dX4_isCoveredBy_40 : decode cX4_isCoveredBy 40 = .ok (.imul, 1) := by decide +kernel
theorem dX4_isCoveredBy_41 : decode cX4_isCoveredBy 41 = .ok (.iload 4, 2) := by decide +kernel
theorem dX4_isCoveredBy_43 : decode cX4_isCoveredBy 43 = .ok (.iadd, 1) := by decide +kernel
theorem dX4_isCoveredBy_44 : decode cX4_isCoveredBy 44 = .ok (.iaload, 1) := by decide +kernel
theorem dX4_isCoveredBy_45 : decode cX4_isCoveredBy 45 = .ok (.goto 4, 3) := by decide +kernel
theorem dX4_isCoveredBy_48 : decode cX4_isCoveredBy 48 = .ok (.iconst 0, 1) := by decide +kernel
theorem dX4_isCoveredBy_49 : decode cX4_isCoveredBy 49 = .ok (.istore 7, 2) := by decide +kernel
theorem dX4_isCoveredBy_51 : decode cX4_isCoveredBy 51 = .ok (.iload 7, 2) := by decide +kernel
theorem dX4_isCoveredBy_53 : decode cX4_isCoveredBy 53 = .ok (.iload 5, 2) := by decide +kernel
theorem dX4_isCoveredBy_55 : decode cX4_isCoveredBy 55 = .ok (.if_icmp .le 8, 3) := by decide +kernel
theorem dX4_isCoveredBy_58 : decode cX4_isCoveredBy 58 = .ok (.iload 7, 2) := by decide +kernel
theorem dX4_isCoveredBy_60 : decode cX4_isCoveredBy 60 = .ok (.goto 5, 3) := by decide +kernel
theorem dX4_isCoveredBy_63 : decode cX4_isCoveredBy 63 = .ok (.iload 5, 2) := by decide +kernel
theorem dX4_isCoveredBy_65 : decode cX4_isCoveredBy 65 = .ok (.istore 5, 2) := by decide +kernel
theorem dX4_isCoveredBy_67 : decode cX4_isCoveredBy 67 = .ok (.iinc 6 1, 3) := by decide +kernel
theorem dX4_isCoveredBy_70 : decode cX4_isCoveredBy 70 = .ok (.goto (-53), 3) := by decide +kernel
theorem dX4_isCoveredBy_73 : decode cX4_isCoveredBy 73 = .ok (.iload_n 3, 1) := by decide +kernel
theorem dX4_isCoveredBy_74 : decode cX4_isCoveredBy 74 = .ok (.ifCond .eq 21, 3) := by decide +kernel
theorem dX4_isCoveredBy_77 : decode cX4_isCoveredBy 77 = .ok (.aload_n 0, 1) := by decide +kernel
theorem dX4_isCoveredBy_78 : decode cX4_isCoveredBy 78 = .ok (.getfield 7, 3) := by decide +kernel
theorem dX4_isCoveredBy_81 : decode cX4_isCoveredBy 81 = .ok (.iload_n 2, 1) := by decide +kernel
theorem dX4_isCoveredBy_82 : decode cX4_isCoveredBy 82 = .ok (.iload 4, 2) := by decide +kernel
theorem dX4_isCoveredBy_84 : decode cX4_isCoveredBy 84 = .ok (.iadd, 1) := by decide +kernel
theorem dX4_isCoveredBy_85 : decode cX4_isCoveredBy 85 = .ok (.iaload, 1) := by decide +kernel
theorem dX4_isCoveredBy_86 : decode cX4_isCoveredBy 86 = .ok (.iload 5, 2) := by decide +kernel
theorem dX4_isCoveredBy_88 : decode cX4_isCoveredBy 88 = .ok (.if_icmp .gt 7, 3) := by decide +kernel
theorem dX4_isCoveredBy_91 : decode cX4_isCoveredBy 91 = .ok (.iconst 1, 1) := by decide +kernel
theorem dX4_isCoveredBy_92 : decode cX4_isCoveredBy 92 = .ok (.goto 4, 3) := by decide +kernel
theorem dX4_isCoveredBy_95 : decode cX4_isCoveredBy 95 = .ok (.iconst 0, 1) := by decide +kernel
theorem dX4_isCoveredBy_96 : decode cX4_isCoveredBy 96 = .ok (.istore_n 3, 1) := by decide +kernel
theorem dX4_isCoveredBy_97 : decode cX4_isCoveredBy 97 = .ok (.iinc 4 1, 3) := by decide +kernel
theorem dX4_isCoveredBy_100 : decode cX4_isCoveredBy 100 = .ok (.goto (-95), 3) := by decide +kernel
theorem dX4_isCoveredBy_103 : decode cX4_isCoveredBy 103 = .ok (.iload_n 3, 1) := by decide +kernel
theorem dX4_isCoveredBy_104 : decode cX4_isCoveredBy 104 = .ok (.ireturn, 1) := by decide +kernel
set_option maxRecDepth 20000 in
theorem ggX4_isReadBy_X4_guarantees : GoodIn wsX4_isReadBy wsX4_guarantees := goodIn_r _ [5, 6, 11, 12, 13, 14, 15, 16, 17, 18, 19, 20] (by decide +kernel) (by decide +kernel)
set_option maxRecDepth 20000 in
theorem gX4_isReadBy_X4_guarantees : GoodIn wsX4_isReadBy (wsV RX4 53 RX4 yX4_guarantees wsX4_guarantees) := goodIn_app (goodIn_of _ (by decide +kernel)) ggX4_isReadBy_X4_guarantees
set_option maxRecDepth 20000 in
theorem ggX4_isReadBy_X4_isCoveredBy : GoodIn wsX4_isReadBy wsX4_isCoveredBy := goodIn_r _ [10, 6, 11, 12, 13, 14, 15, 16, 17, 18, 19, 20] (by decide +kernel) (by decide +kernel)
set_option maxRecDepth 20000 in
theorem gX4_isReadBy_X4_isCoveredBy : GoodIn wsX4_isReadBy (wsV RX4 108 RX4 yX4_isCoveredBy wsX4_isCoveredBy) := goodIn_app (goodIn_of _ (by decide +kernel)) ggX4_isReadBy_X4_isCoveredBy
theorem dX4_isReadBy_0 : decode cX4_isReadBy 0 = .ok (.sipush 313, 3) := by decide +kernel
theorem dX4_isReadBy_3 : decode cX4_isReadBy 3 = .ok (.bipush 7, 2) := by decide +kernel
theorem dX4_isReadBy_5 : decode cX4_isReadBy 5 = .ok (.iload_n 1, 1) := by decide +kernel
theorem dX4_isReadBy_6 : decode cX4_isReadBy 6 = .ok (.imul, 1) := by decide +kernel
theorem dX4_isReadBy_7 : decode cX4_isReadBy 7 = .ok (.iadd, 1) := by decide +kernel
theorem dX4_isReadBy_8 : decode cX4_isReadBy 8 = .ok (.istore_n 3, 1) := by decide +kernel
theorem dX4_isReadBy_9 : decode cX4_isReadBy 9 = .ok (.aload_n 0, 1) := by decide +kernel
theorem dX4_isReadBy_10 : decode cX4_isReadBy 10 = .ok (.iload_n 1, 1) := by decide +kernel
theorem dX4_isReadBy_11 : decode cX4_isReadBy 11 = .ok (.invokevirtual 53, 3) := by decide +kernel
theorem dX4_isReadBy_14 : decode cX4_isReadBy 14 = .ok (.istore 4, 2) := by decide +kernel
theorem dX4_isReadBy_16 : decode cX4_isReadBy 16 = .ok (.iload 4, 2) := by decide +kernel
theorem dX4_isReadBy_18 : decode cX4_isReadBy 18 = .ok (.iconst 1, 1) := by decide +kernel
theorem dX4_isReadBy_19 : decode cX4_isReadBy 19 = .ok (.iand, 1) := by decide +kernel
theorem dX4_isReadBy_20 : decode cX4_isReadBy 20 = .ok (.ifCond .eq 14, 3) := by decide +kernel
theorem dX4_isReadBy_23 : decode cX4_isReadBy 23 = .ok (.aload_n 0, 1) := by decide +kernel
theorem dX4_isReadBy_24 : decode cX4_isReadBy 24 = .ok (.iload_n 2, 1) := by decide +kernel
theorem dX4_isReadBy_25 : decode cX4_isReadBy 25 = .ok (.iload_n 3, 1) := by decide +kernel
theorem dX4_isReadBy_26 : decode cX4_isReadBy 26 = .ok (.iconst 4, 1) := by decide +kernel
theorem dX4_isReadBy_27 : decode cX4_isReadBy 27 = .ok (.iadd, 1) := by decide +kernel
theorem dX4_isReadBy_28 : decode cX4_isReadBy 28 = .ok (.invokevirtual 108, 3) := by decide +kernel
theorem dX4_isReadBy_31 : decode cX4_isReadBy 31 = .ok (.ifCond .eq 25, 3) := by decide +kernel
theorem dX4_isReadBy_34 : decode cX4_isReadBy 34 = .ok (.iload 4, 2) := by decide +kernel
theorem dX4_isReadBy_36 : decode cX4_isReadBy 36 = .ok (.iconst 2, 1) := by decide +kernel
theorem dX4_isReadBy_37 : decode cX4_isReadBy 37 = .ok (.iand, 1) := by decide +kernel
theorem dX4_isReadBy_38 : decode cX4_isReadBy 38 = .ok (.ifCond .eq 14, 3) := by decide +kernel
theorem dX4_isReadBy_41 : decode cX4_isReadBy 41 = .ok (.aload_n 0, 1) := by decide +kernel
theorem dX4_isReadBy_42 : decode cX4_isReadBy 42 = .ok (.iload_n 2, 1) := by decide +kernel
theorem dX4_isReadBy_43 : decode cX4_isReadBy 43 = .ok (.iload_n 3, 1) := by decide +kernel
theorem dX4_isReadBy_44 : decode cX4_isReadBy 44 = .ok (.iconst 1, 1) := by decide +kernel
theorem dX4_isReadBy_45 : decode cX4_isReadBy 45 = .ok (.iadd, 1) := by decide +kernel
theorem dX4_isReadBy_46 : decode cX4_isReadBy 46 = .ok (.invokevirtual 108, 3) := by decide +kernel
theorem dX4_isReadBy_49 : decode cX4_isReadBy 49 = .ok (.ifCond .eq 7, 3) := by decide +kernel
theorem dX4_isReadBy_52 : decode cX4_isReadBy 52 = .ok (.iconst 1, 1) := by decide +kernel
theorem dX4_isReadBy_53 : decode cX4_isReadBy 53 = .ok (.goto 4, 3) := by decide +kernel
theorem dX4_isReadBy_56 : decode cX4_isReadBy 56 = .ok (.iconst 0, 1) := by decide +kernel
theorem dX4_isReadBy_57 : decode cX4_isReadBy 57 = .ok (.ireturn, 1) := by decide +kernel
theorem dX4_bits_0 : decode cX4_bits 0 = .ok (.iload_n 0, 1) := by decide +kernel
theorem dX4_bits_1 : decode cX4_bits 1 = .ok (.iconst 1, 1) := by decide +kernel
theorem dX4_bits_2 : decode cX4_bits 2 = .ok (.iand, 1) := by decide +kernel
theorem dX4_bits_3 : decode cX4_bits 3 = .ok (.iload_n 0, 1) := by decide +kernel
theorem dX4_bits_4 : decode cX4_bits 4 = .ok (.iconst 1, 1) := by decide +kernel
theorem dX4_bits_5 : decode cX4_bits 5 = .ok (.ishr, 1) := by decide +kernel
theorem dX4_bits_6 : decode cX4_bits 6 = .ok (.iconst 1, 1) := by decide +kernel
theorem dX4_bits_7 : decode cX4_bits 7 = .ok (.iand, 1) := by decide +kernel
theorem dX4_bits_8 : decode cX4_bits 8 = .ok (.iadd, 1) := by decide +kernel
theorem dX4_bits_9 : decode cX4_bits 9 = .ok (.iload_n 0, 1) := by decide +kernel
theorem dX4_bits_10 : decode cX4_bits 10 = .ok (.iconst 2, 1) := by decide +kernel
theorem dX4_bits_11 : decode cX4_bits 11 = .ok (.ishr, 1) := by decide +kernel
theorem dX4_bits_12 : decode cX4_bits 12 = .ok (.iconst 1, 1) := by decide +kernel
theorem dX4_bits_13 : decode cX4_bits 13 = .ok (.iand, 1) := by decide +kernel
theorem dX4_bits_14 : decode cX4_bits 14 = .ok (.iadd, 1) := by decide +kernel
theorem dX4_bits_15 : decode cX4_bits 15 = .ok (.ireturn, 1) := by decide +kernel
set_option maxRecDepth 20000 in
theorem ggX4_syncsForRead_X4_isClient : GoodIn wsX4_syncsForRead wsX4_isClient := goodIn_r _ [4, 5, 6, 7, 3, 8] (by decide +kernel) (by decide +kernel)
set_option maxRecDepth 20000 in
theorem gX4_syncsForRead_X4_isClient : GoodIn wsX4_syncsForRead (va_wsS RX4 47 yX4_isClient wsX4_isClient) := goodIn_app (goodIn_of _ (by decide +kernel)) ggX4_syncsForRead_X4_isClient
set_option maxRecDepth 20000 in
theorem ggX4_syncsForRead_X4_isReplica : GoodIn wsX4_syncsForRead wsX4_isReplica := goodIn_r _ [11, 12, 6, 7, 3, 8] (by decide +kernel) (by decide +kernel)
set_option maxRecDepth 20000 in
theorem gX4_syncsForRead_X4_isReplica : GoodIn wsX4_syncsForRead (va_wsS RX4 69 yX4_isReplica wsX4_isReplica) := goodIn_app (goodIn_of _ (by decide +kernel)) ggX4_syncsForRead_X4_isReplica
set_option maxRecDepth 20000 in
theorem ggX4_syncsForRead_X4_error : GoodIn wsX4_syncsForRead wsX4_error := goodIn_r _ [16, 17, 34, 35, 36, 37, 38, 39, 40, 41, 42, 43] (by decide +kernel) (by decide +kernel)
set_option maxRecDepth 20000 in
theorem gX4_syncsForRead_X4_error : GoodIn wsX4_syncsForRead (wsV RX4 28 RX4 yX4_error wsX4_error) := goodIn_app (goodIn_of _ (by decide +kernel)) ggX4_syncsForRead_X4_error
set_option maxRecDepth 20000 in
theorem ggX4_syncsForRead_X4_bits : GoodIn wsX4_syncsForRead wsX4_bits := goodIn_r _ [20] (by decide +kernel) (by decide +kernel)
set_option maxRecDepth 20000 in
theorem gX4_syncsForRead_X4_bits : GoodIn wsX4_syncsForRead (va_wsS RX4 111 yX4_bits wsX4_bits) := goodIn_app (goodIn_of _ (by decide +kernel)) ggX4_syncsForRead_X4_bits
set_option maxRecDepth 20000 in
theorem ggX4_syncsForRead_X4_isReadBy : GoodIn wsX4_syncsForRead wsX4_isReadBy := goodIn_r _ [24, 25, 26, 27, 3, 28, 29, 30, 31, 32, 33, 34, 35, 36, 37, 38, 39, 40, 41, 42, 43] (by decide +kernel) (by decide +kernel)
set_option maxRecDepth 20000 in
theorem gX4_syncsForRead_X4_isReadBy : GoodIn wsX4_syncsForRead (wsV RX4 114 RX4 yX4_isReadBy wsX4_isReadBy) := goodIn_app (goodIn_of _ (by decide +kernel)) ggX4_syncsForRead_X4_isReadBy
theorem dX4_syncsForRead_0 : decode cX4_syncsForRead 0 = .ok (.iload_n 1, 1) := by decide +kernel
theorem dX4_syncsForRead_1 : decode cX4_syncsForRead 1 = .ok (.invokestatic 47, 3) := by decide +kernel
theorem dX4_syncsForRead_4 : decode cX4_syncsForRead 4 = .ok (.ifCond .eq 10, 3) := by decide +kernel
theorem dX4_syncsForRead_7 : decode cX4_syncsForRead 7 = .ok (.iload_n 2, 1) := by decide +kernel
theorem dX4_syncsForRead_8 : decode cX4_syncsForRead 8 = .ok (.invokestatic 69, 3) := by decide +kernel
theorem dX4_syncsForRead_11 : decode cX4_syncsForRead 11 = .ok (.ifCond .ne 10, 3) := by decide +kernel
theorem dX4_syncsForRead_14 : decode cX4_syncsForRead 14 = .ok (.aload_n 0, 1) := by decide +kernel
theorem dX4_syncsForRead_15 : decode cX4_syncsForRead 15 = .ok (.bipush (-2), 2) := by decide +kernel
theorem dX4_syncsForRead_17 : decode cX4_syncsForRead 17 = .ok (.invokevirtual 28, 3) := by decide +kernel
theorem dX4_syncsForRead_20 : decode cX4_syncsForRead 20 = .ok (.ireturn, 1) := by decide +kernel
theorem dX4_syncsForRead_21 : decode cX4_syncsForRead 21 = .ok (.iconst (-1), 1) := by decide +kernel
theorem dX4_syncsForRead_22 : decode cX4_syncsForRead 22 = .ok (.istore_n 3, 1) := by decide +kernel
theorem dX4_syncsForRead_23 : decode cX4_syncsForRead 23 = .ok (.iconst 0, 1) := by decide +kernel
theorem dX4_syncsForRead_24 : decode cX4_syncsForRead 24 = .ok (.istore 4, 2) := by decide +kernel
theorem dX4_syncsForRead_26 : decode cX4_syncsForRead 26 = .ok (.iload 4, 2) := by decide +kernel
theorem dX4_syncsForRead_28 : decode cX4_syncsForRead 28 = .ok (.bipush 8, 2) := by decide +kernel
theorem dX4_syncsForRead_30 : decode cX4_syncsForRead 30 = .ok (.if_icmp .ge 80, 3) := by decide +kernel
theorem dX4_syncsForRead_33 : decode cX4_syncsForRead 33 = .ok (.iload 4, 2) := by decide +kernel
theorem dX4_syncsForRead_35 : decode cX4_syncsForRead 35 = .ok (.iload_n 2, 1) := by decide +kernel
theorem dX4_syncsForRead_36 : decode cX4_syncsForRead 36 = .ok (.ishr, 1) := by decide +kernel
theorem dX4_syncsForRead_37 : decode cX4_syncsForRead 37 = .ok (.iconst 1, 1) := by decide +kernel
theorem dX4_syncsForRead_38 : decode cX4_syncsForRead 38 = .ok (.iand, 1) := by decide +kernel
theorem dX4_syncsForRead_39 : decode cX4_syncsForRead 39 = .ok (.ifCond .ne 7, 3) := by decide +kernel
theorem dX4_syncsForRead_42 : decode cX4_syncsForRead 42 = .ok (.iconst 1, 1) := by decide +kernel
theorem dX4_syncsForRead_43 : decode cX4_syncsForRead 43 = .ok (.goto 4, 3) := by decide +kernel
theorem dX4_syncsForRead_46 : decode cX4_syncsForRead 46 = .ok (.iconst 0, 1) := by decide +kernel
theorem dX4_syncsForRead_47 : decode cX4_syncsForRead 47 = .ok (.istore 5, 2) := by decide +kernel
theorem dX4_syncsForRead_49 : decode cX4_syncsForRead 49 = .ok (.iload_n 3, 1) := by decide +kernel
theorem dX4_syncsForRead_50 : decode cX4_syncsForRead 50 = .ok (.iconst (-1), 1) := by decide +kernel
theorem dX4_syncsForRead_51 : decode cX4_syncsForRead 51 = .ok (.if_icmp .eq 15, 3) := by decide +kernel
theorem dX4_syncsForRead_54 : decode cX4_syncsForRead 54 = .ok (.iload 4, 2) := by decide +kernel
theorem dX4_syncsForRead_56 : decode cX4_syncsForRead 56 = .ok (.invokestatic 111, 3) := by decide +kernel
theorem dX4_syncsForRead_59 : decode cX4_syncsForRead 59 = .ok (.iload_n 3, 1) := by decide +kernel
theorem dX4_syncsForRead_60 : decode cX4_syncsForRead 60 = .ok (.invokestatic 111, 3) := by decide +kernel
theorem dX4_syncsForRead_63 : decode cX4_syncsForRead 63 = .ok (.if_icmp .ge 7, 3) := by decide +kernel
theorem dX4_syncsForRead_66 : decode cX4_syncsForRead 66 = .ok (.iconst 1, 1) := by decide +kernel
theorem dX4_syncsForRead_67 : decode cX4_syncsForRead 67 = .ok (.goto 4, 3) := by decide +kernel
theorem dX4_syncsForRead_70 : decode cX4_syncsForRead 70 = .ok (.iconst 0, 1) := by decide +kernel
theorem dX4_syncsForRead_71 : decode cX4_syncsForRead 71 = .ok (.istore 6, 2) := by decide +kernel
theorem dX4_syncsForRead_73 : decode cX4_syncsForRead 73 = .ok (.iload 5, 2) := by decide +kernel
theorem dX4_syncsForRead_75 : decode cX4_syncsForRead 75 = .ok (.ifCond .eq 27, 3) := by decide +kernel
theorem dX4_syncsForRead_78 : decode cX4_syncsForRead 78 = .ok (.iload 6, 2) := by decide +kernel
theorem dX4_syncsForRead_80 : decode cX4_syncsForRead 80 = .ok (.ifCond .eq 22, 3) := by decide +kernel
theorem dX4_syncsForRead_83 : decode cX4_syncsForRead 83 = .ok (.aload_n 0, 1) := by decide +kernel
theorem dX4_syncsForRead_84 : decode cX4_syncsForRead 84 = .ok (.iload_n 1, 1) := by decide +kernel
theorem dX4_syncsForRead_85 : decode cX4_syncsForRead 85 = .ok (.iload 4, 2) := by decide +kernel
theorem dX4_syncsForRead_87 : decode cX4_syncsForRead 87 = .ok (.iconst 1, 1) := by decide +kernel
theorem dX4_syncsForRead_88 : decode cX4_syncsForRead 88 = .ok (.iload_n 2, 1) := by decide +kernel
theorem dX4_syncsForRead_89 : decode cX4_syncsForRead 89 = .ok (.ishl, 1) := by decide +kernel
theorem dX4_syncsForRead_90 : decode cX4_syncsForRead 90 = .ok (.ior, 1) := by decide +kernel
theorem dX4_syncsForRead_91 : decode cX4_syncsForRead 91 = .ok (.invokevirtual 114, 3) := by decide +kernel
theorem dX4_syncsForRead_94 : decode cX4_syncsForRead 94 = .ok (.ifCond .eq 8, 3) := by decide +kernel
theorem dX4_syncsForRead_97 : decode cX4_syncsForRead 97 = .ok (.iload 4, 2) := by decide +kernel
theorem dX4_syncsForRead_99 : decode cX4_syncsForRead 99 = .ok (.goto 4, 3) := by decide +kernel
theorem dX4_syncsForRead_102 : decode cX4_syncsForRead 102 = .ok (.iload_n 3, 1) := by decide +kernel
theorem dX4_syncsForRead_103 : decode cX4_syncsForRead 103 = .ok (.istore_n 3, 1) := by decide +kernel
theorem dX4_syncsForRead_104 : decode cX4_syncsForRead 104 = .ok (.iinc 4 1, 3) := by decide +kernel
theorem dX4_syncsForRead_107 : decode cX4_syncsForRead 107 = .ok (.goto (-81), 3) := by decide +kernel
theorem dX4_syncsForRead_110 : decode cX4_syncsForRead 110 = .ok (.iload_n 3, 1) := by decide +kernel
theorem dX4_syncsForRead_111 : decode cX4_syncsForRead 111 = .ok (.ireturn, 1) := by decide +kernel
set_option maxRecDepth 20000 in
theorem ggX4_count_X4_isReplica : GoodIn wsX4_count wsX4_isReplica := goodIn_r _ [5, 6, 7, 8, 4, 9] (by decide +kernel) (by decide +kernel)
set_option maxRecDepth 20000 in
theorem gX4_count_X4_isReplica : GoodIn wsX4_count (va_wsS RX4 69 yX4_isReplica wsX4_isReplica) := goodIn_app (goodIn_of _ (by decide +kernel)) ggX4_count_X4_isReplica
set_option maxRecDepth 20000 in
theorem ggX4_count_X4_error : GoodIn wsX4_count wsX4_error := goodIn_r _ [13, 14, 15, 16, 17, 18, 19, 20, 21, 22, 23, 24] (by decide +kernel) (by decide +kernel)
set_option maxRecDepth 20000 in
theorem gX4_count_X4_error : GoodIn wsX4_count (wsV RX4 28 RX4 yX4_error wsX4_error) := goodIn_app (goodIn_of _ (by decide +kernel)) ggX4_count_X4_error
theorem dX4_count_0 : decode cX4_count 0 = .ok (.iload_n 1, 1) := by decide +kernel
theorem dX4_count_1 : decode cX4_count 1 = .ok (.invokestatic 69, 3) := by decide +kernel
theorem dX4_count_4 : decode cX4_count 4 = .ok (.ifCond .eq 23, 3) := by decide +kernel
theorem dX4_count_7 : decode cX4_count 7 = .ok (.iload_n 2, 1) := by decide +kernel
theorem dX4_count_8 : decode cX4_count 8 = .ok (.invokestatic 69, 3) := by decide +kernel
theorem dX4_count_11 : decode cX4_count 11 = .ok (.ifCond .eq 16, 3) := by decide +kernel
theorem dX4_count_14 : decode cX4_count 14 = .ok (.aload_n 0, 1) := by decide +kernel
theorem dX4_count_15 : decode cX4_count 15 = .ok (.getfield 7, 3) := by decide +kernel
theorem dX4_count_18 : decode cX4_count 18 = .ok (.iconst 3, 1) := by decide +kernel
theorem dX4_count_19 : decode cX4_count 19 = .ok (.iload_n 1, 1) := by decide +kernel
theorem dX4_count_20 : decode cX4_count 20 = .ok (.imul, 1) := by decide +kernel
theorem dX4_count_21 : decode cX4_count 21 = .ok (.iload_n 2, 1) := by decide +kernel
theorem dX4_count_22 : decode cX4_count 22 = .ok (.iadd, 1) := by decide +kernel
theorem dX4_count_23 : decode cX4_count 23 = .ok (.iaload, 1) := by decide +kernel
theorem dX4_count_24 : decode cX4_count 24 = .ok (.goto 9, 3) := by decide +kernel
theorem dX4_count_27 : decode cX4_count 27 = .ok (.aload_n 0, 1) := by decide +kernel
theorem dX4_count_28 : decode cX4_count 28 = .ok (.bipush (-2), 2) := by decide +kernel
theorem dX4_count_30 : decode cX4_count 30 = .ok (.invokevirtual 28, 3) := by decide +kernel
theorem dX4_count_33 : decode cX4_count 33 = .ok (.ireturn, 1) := by decide +kernel
set_option maxRecDepth 20000 in
theorem ggX4_clock_X4_isReplica : GoodIn wsX4_clock wsX4_isReplica := goodIn_r _ [5, 6, 7, 8, 4, 9] (by decide +kernel) (by decide +kernel)
set_option maxRecDepth 20000 in
theorem gX4_clock_X4_isReplica : GoodIn wsX4_clock (va_wsS RX4 69 yX4_isReplica wsX4_isReplica) := goodIn_app (goodIn_of _ (by decide +kernel)) ggX4_clock_X4_isReplica
set_option maxRecDepth 20000 in
theorem ggX4_clock_X4_error : GoodIn wsX4_clock wsX4_error := goodIn_r _ [13, 14, 15, 16, 17, 18, 19, 20, 21, 22, 23, 24] (by decide +kernel) (by decide +kernel)
set_option maxRecDepth 20000 in
theorem gX4_clock_X4_error : GoodIn wsX4_clock (wsV RX4 28 RX4 yX4_error wsX4_error) := goodIn_app (goodIn_of _ (by decide +kernel)) ggX4_clock_X4_error
theorem dX4_clock_0 : decode cX4_clock 0 = .ok (.iload_n 1, 1) := by decide +kernel
theorem dX4_clock_1 : decode cX4_clock 1 = .ok (.invokestatic 69, 3) := by decide +kernel
theorem dX4_clock_4 : decode cX4_clock 4 = .ok (.ifCond .eq 15, 3) := by decide +kernel
theorem dX4_clock_7 : decode cX4_clock 7 = .ok (.aload_n 0, 1) := by decide +kernel
theorem dX4_clock_8 : decode cX4_clock 8 = .ok (.getfield 7, 3) := by decide +kernel
theorem dX4_clock_11 : decode cX4_clock 11 = .ok (.bipush 9, 2) := by decide +kernel
theorem dX4_clock_13 : decode cX4_clock 13 = .ok (.iload_n 1, 1) := by decide +kernel
theorem dX4_clock_14 : decode cX4_clock 14 = .ok (.iadd, 1) := by decide +kernel
theorem dX4_clock_15 : decode cX4_clock 15 = .ok (.iaload, 1) := by decide +kernel
theorem dX4_clock_16 : decode cX4_clock 16 = .ok (.goto 9, 3) := by decide +kernel
theorem dX4_clock_19 : decode cX4_clock 19 = .ok (.aload_n 0, 1) := by decide +kernel
theorem dX4_clock_20 : decode cX4_clock 20 = .ok (.bipush (-2), 2) := by decide +kernel
theorem dX4_clock_22 : decode cX4_clock 22 = .ok (.invokevirtual 28, 3) := by decide +kernel
theorem dX4_clock_25 : decode cX4_clock 25 = .ok (.ireturn, 1) := by decide +kernel
set_option maxRecDepth 20000 in
theorem ggX4_peek_X4_isReplica : GoodIn wsX4_peek wsX4_isReplica := goodIn_r _ [4, 5, 6, 7, 3, 8] (by decide +kernel) (by decide +kernel)
set_option maxRecDepth 20000 in
theorem gX4_peek_X4_isReplica : GoodIn wsX4_peek (va_wsS RX4 69 yX4_isReplica wsX4_isReplica) := goodIn_app (goodIn_of _ (by decide +kernel)) ggX4_peek_X4_isReplica
set_option maxRecDepth 20000 in
theorem ggX4_peek_X4_isKey : GoodIn wsX4_peek wsX4_isKey := goodIn_r _ [11, 12, 6, 7, 3, 8] (by decide +kernel) (by decide +kernel)
set_option maxRecDepth 20000 in
theorem gX4_peek_X4_isKey : GoodIn wsX4_peek (va_wsS RX4 79 yX4_isKey wsX4_isKey) := goodIn_app (goodIn_of _ (by decide +kernel)) ggX4_peek_X4_isKey
set_option maxRecDepth 20000 in
theorem ggX4_peek_X4_error : GoodIn wsX4_peek wsX4_error := goodIn_r _ [16, 17, 27, 28, 29, 30, 31, 32, 33, 34, 35, 36] (by decide +kernel) (by decide +kernel)
set_option maxRecDepth 20000 in
theorem gX4_peek_X4_error : GoodIn wsX4_peek (wsV RX4 28 RX4 yX4_error wsX4_error) := goodIn_app (goodIn_of _ (by decide +kernel)) ggX4_peek_X4_error
set_option maxRecDepth 20000 in
theorem ggX4_peek_X4_valueAt : GoodIn wsX4_peek wsX4_valueAt := goodIn_r _ [21, 22, 23, 24, 25, 3, 26, 27, 28, 29, 30, 31, 32, 33, 34, 35, 36] (by decide +kernel) (by decide +kernel)
set_option maxRecDepth 20000 in
theorem gX4_peek_X4_valueAt : GoodIn wsX4_peek (wsV RX4 89 RX4 yX4_valueAt wsX4_valueAt) := goodIn_app (goodIn_of _ (by decide +kernel)) ggX4_peek_X4_valueAt
theorem dX4_peek_0 : decode cX4_peek 0 = .ok (.iload_n 1, 1) := by decide +kernel
theorem dX4_peek_1 : decode cX4_peek 1 = .ok (.invokestatic 69, 3) := by decide +kernel
theorem dX4_peek_4 : decode cX4_peek 4 = .ok (.ifCond .eq 10, 3) := by decide +kernel
theorem dX4_peek_7 : decode cX4_peek 7 = .ok (.iload_n 2, 1) := by decide +kernel
theorem dX4_peek_8 : decode cX4_peek 8 = .ok (.invokestatic 79, 3) := by decide +kernel
theorem dX4_peek_11 : decode cX4_peek 11 = .ok (.ifCond .ne 10, 3) := by decide +kernel
theorem dX4_peek_14 : decode cX4_peek 14 = .ok (.aload_n 0, 1) := by decide +kernel
theorem dX4_peek_15 : decode cX4_peek 15 = .ok (.bipush (-2), 2) := by decide +kernel
theorem dX4_peek_17 : decode cX4_peek 17 = .ok (.invokevirtual 28, 3) := by decide +kernel
theorem dX4_peek_20 : decode cX4_peek 20 = .ok (.ireturn, 1) := by decide +kernel
theorem dX4_peek_21 : decode cX4_peek 21 = .ok (.aload_n 0, 1) := by decide +kernel
theorem dX4_peek_22 : decode cX4_peek 22 = .ok (.iload_n 1, 1) := by decide +kernel
theorem dX4_peek_23 : decode cX4_peek 23 = .ok (.iload_n 2, 1) := by decide +kernel
theorem dX4_peek_24 : decode cX4_peek 24 = .ok (.invokevirtual 89, 3) := by decide +kernel
theorem dX4_peek_27 : decode cX4_peek 27 = .ok (.istore_n 3, 1) := by decide +kernel
theorem dX4_peek_28 : decode cX4_peek 28 = .ok (.iload_n 3, 1) := by decide +kernel
theorem dX4_peek_29 : decode cX4_peek 29 = .ok (.bipush 100, 2) := by decide +kernel
theorem dX4_peek_31 : decode cX4_peek 31 = .ok (.if_icmp .ne 12, 3) := by decide +kernel
theorem dX4_peek_34 : decode cX4_peek 34 = .ok (.aload_n 0, 1) := by decide +kernel
theorem dX4_peek_35 : decode cX4_peek 35 = .ok (.bipush (-5), 2) := by decide +kernel
theorem dX4_peek_37 : decode cX4_peek 37 = .ok (.invokevirtual 28, 3) := by decide +kernel
theorem dX4_peek_40 : decode cX4_peek 40 = .ok (.goto 4, 3) := by decide +kernel
theorem dX4_peek_43 : decode cX4_peek 43 = .ok (.iload_n 3, 1) := by decide +kernel
theorem dX4_peek_44 : decode cX4_peek 44 = .ok (.ireturn, 1) := by decide +kernel
set_option maxRecDepth 20000 in
theorem ggX4_compare_X4_isReplica : GoodIn wsX4_compare wsX4_isReplica := goodIn_r _ [4, 5, 6, 7, 3, 8] (by decide +kernel) (by decide +kernel)
set_option maxRecDepth 20000 in
theorem gX4_compare_X4_isReplica : GoodIn wsX4_compare (va_wsS RX4 69 yX4_isReplica wsX4_isReplica) := goodIn_app (goodIn_of _ (by decide +kernel)) ggX4_compare_X4_isReplica
set_option maxRecDepth 20000 in
theorem ggX4_compare_X4_error : GoodIn wsX4_compare wsX4_error := goodIn_r _ [12, 13, 19, 20, 21, 22, 23, 24, 25, 26, 27, 28] (by decide +kernel) (by decide +kernel)
set_option maxRecDepth 20000 in
theorem gX4_compare_X4_error : GoodIn wsX4_compare (wsV RX4 28 RX4 yX4_error wsX4_error) := goodIn_app (goodIn_of _ (by decide +kernel)) ggX4_compare_X4_error
set_option maxRecDepth 20000 in
theorem ggX4_compare_X4_covers : GoodIn wsX4_compare wsX4_covers := goodIn_r _ [17, 18, 19, 20, 21, 22, 23, 24, 25, 26, 27, 28] (by decide +kernel) (by decide +kernel)
set_option maxRecDepth 20000 in
theorem gX4_compare_X4_covers : GoodIn wsX4_compare (wsV RX4 72 RX4 yX4_covers wsX4_covers) := goodIn_app (goodIn_of _ (by decide +kernel)) ggX4_compare_X4_covers
theorem dX4_compare_0 : decode cX4_compare 0 = .ok (.iload_n 1, 1) := by decide +kernel
theorem dX4_compare_1 : decode cX4_compare 1 = .ok (.invokestatic 69, 3) := by decide +kernel
theorem dX4_compare_4 : decode cX4_compare 4 = .ok (.ifCond .eq 10, 3) := by decide +kernel
theorem dX4_compare_7 : decode cX4_compare 7 = .ok (.iload_n 2, 1) := by decide +kernel
theorem dX4_compare_8 : decode cX4_compare 8 = .ok (.invokestatic 69, 3) := by decide +kernel
theorem dX4_compare_11 : decode cX4_compare 11 = .ok (.ifCond .ne 10, 3) := by decide +kernel
theorem dX4_compare_14 : decode cX4_compare 14 = .ok (.aload_n 0, 1) := by decide +kernel
theorem dX4_compare_15 : decode cX4_compare 15 = .ok (.bipush (-2), 2) := by decide +kernel
theorem dX4_compare_17 : decode cX4_compare 17 = .ok (.invokevirtual 28, 3) := by decide +kernel
theorem dX4_compare_20 : decode cX4_compare 20 = .ok (.ireturn, 1) := by decide +kernel
theorem dX4_compare_21 : decode cX4_compare 21 = .ok (.aload_n 0, 1) := by decide +kernel
theorem dX4_compare_22 : decode cX4_compare 22 = .ok (.iconst 3, 1) := by decide +kernel
theorem dX4_compare_23 : decode cX4_compare 23 = .ok (.iload_n 1, 1) := by decide +kernel
theorem dX4_compare_24 : decode cX4_compare 24 = .ok (.imul, 1) := by decide +kernel
theorem dX4_compare_25 : decode cX4_compare 25 = .ok (.iconst 3, 1) := by decide +kernel
theorem dX4_compare_26 : decode cX4_compare 26 = .ok (.iload_n 2, 1) := by decide +kernel
theorem dX4_compare_27 : decode cX4_compare 27 = .ok (.imul, 1) := by decide +kernel
theorem dX4_compare_28 : decode cX4_compare 28 = .ok (.invokevirtual 72, 3) := by decide +kernel
theorem dX4_compare_31 : decode cX4_compare 31 = .ok (.istore_n 3, 1) := by decide +kernel
theorem dX4_compare_32 : decode cX4_compare 32 = .ok (.aload_n 0, 1) := by decide +kernel
theorem dX4_compare_33 : decode cX4_compare 33 = .ok (.iconst 3, 1) := by decide +kernel
theorem dX4_compare_34 : decode cX4_compare 34 = .ok (.iload_n 2, 1) := by decide +kernel
theorem dX4_compare_35 : decode cX4_compare 35 = .ok (.imul, 1) := by decide +kernel
theorem dX4_compare_36 : decode cX4_compare 36 = .ok (.iconst 3, 1) := by decide +kernel
theorem dX4_compare_37 : decode cX4_compare 37 = .ok (.iload_n 1, 1) := by decide +kernel
theorem dX4_compare_38 : decode cX4_compare 38 = .ok (.imul, 1) := by decide +kernel
theorem dX4_compare_39 : decode cX4_compare 39 = .ok (.invokevirtual 72, 3) := by decide +kernel
theorem dX4_compare_42 : decode cX4_compare 42 = .ok (.istore 4, 2) := by decide +kernel
theorem dX4_compare_44 : decode cX4_compare 44 = .ok (.iload_n 3, 1) := by decide +kernel
theorem dX4_compare_45 : decode cX4_compare 45 = .ok (.ifCond .eq 12, 3) := by decide +kernel
theorem dX4_compare_48 : decode cX4_compare 48 = .ok (.iload 4, 2) := by decide +kernel
theorem dX4_compare_50 : decode cX4_compare 50 = .ok (.ifCond .eq 7, 3) := by decide +kernel
theorem dX4_compare_53 : decode cX4_compare 53 = .ok (.iconst 0, 1) := by decide +kernel
theorem dX4_compare_54 : decode cX4_compare 54 = .ok (.goto 21, 3) := by decide +kernel
theorem dX4_compare_57 : decode cX4_compare 57 = .ok (.iload_n 3, 1) := by decide +kernel
theorem dX4_compare_58 : decode cX4_compare 58 = .ok (.ifCond .eq 7, 3) := by decide +kernel
theorem dX4_compare_61 : decode cX4_compare 61 = .ok (.iconst 1, 1) := by decide +kernel
theorem dX4_compare_62 : decode cX4_compare 62 = .ok (.goto 13, 3) := by decide +kernel
theorem dX4_compare_65 : decode cX4_compare 65 = .ok (.iload 4, 2) := by decide +kernel
theorem dX4_compare_67 : decode cX4_compare 67 = .ok (.ifCond .eq 7, 3) := by decide +kernel
theorem dX4_compare_70 : decode cX4_compare 70 = .ok (.iconst 2, 1) := by decide +kernel
theorem dX4_compare_71 : decode cX4_compare 71 = .ok (.goto 4, 3) := by decide +kernel
theorem dX4_compare_74 : decode cX4_compare 74 = .ok (.iconst 3, 1) := by decide +kernel
theorem dX4_compare_75 : decode cX4_compare 75 = .ok (.ireturn, 1) := by decide +kernel
set_option maxRecDepth 20000 in
theorem ggX4_breaches_X4_in : GoodIn wsX4_breaches wsX4_in := goodIn_r _ [6] (by decide +kernel) (by decide +kernel)
set_option maxRecDepth 20000 in
theorem gX4_breaches_X4_in : GoodIn wsX4_breaches (va_wsS RX4 41 yX4_in wsX4_in) := goodIn_app (goodIn_of _ (by decide +kernel)) ggX4_breaches_X4_in
set_option maxRecDepth 20000 in
theorem ggX4_breaches_X4_error : GoodIn wsX4_breaches wsX4_error := goodIn_r _ [10, 11, 12, 13, 14, 15, 16, 17, 18, 19, 20, 21] (by decide +kernel) (by decide +kernel)
set_option maxRecDepth 20000 in
theorem gX4_breaches_X4_error : GoodIn wsX4_breaches (wsV RX4 28 RX4 yX4_error wsX4_error) := goodIn_app (goodIn_of _ (by decide +kernel)) ggX4_breaches_X4_error
theorem dX4_breaches_0 : decode cX4_breaches 0 = .ok (.iload_n 1, 1) := by decide +kernel
theorem dX4_breaches_1 : decode cX4_breaches 1 = .ok (.i2l, 1) := by decide +kernel
theorem dX4_breaches_2 : decode cX4_breaches 2 = .ok (.lconst 0, 1) := by decide +kernel
theorem dX4_breaches_3 : decode cX4_breaches 3 = .ok (.ldc2_w 39, 3) := by decide +kernel
theorem dX4_breaches_6 : decode cX4_breaches 6 = .ok (.invokestatic 41, 3) := by decide +kernel
theorem dX4_breaches_9 : decode cX4_breaches 9 = .ok (.ifCond .eq 16, 3) := by decide +kernel
theorem dX4_breaches_12 : decode cX4_breaches 12 = .ok (.aload_n 0, 1) := by decide +kernel
theorem dX4_breaches_13 : decode cX4_breaches 13 = .ok (.getfield 7, 3) := by decide +kernel
theorem dX4_breaches_16 : decode cX4_breaches 16 = .ok (.sipush 341, 3) := by decide +kernel
theorem dX4_breaches_19 : decode cX4_breaches 19 = .ok (.iload_n 1, 1) := by decide +kernel
theorem dX4_breaches_20 : decode cX4_breaches 20 = .ok (.iadd, 1) := by decide +kernel
theorem dX4_breaches_21 : decode cX4_breaches 21 = .ok (.iaload, 1) := by decide +kernel
theorem dX4_breaches_22 : decode cX4_breaches 22 = .ok (.goto 9, 3) := by decide +kernel
theorem dX4_breaches_25 : decode cX4_breaches 25 = .ok (.aload_n 0, 1) := by decide +kernel
theorem dX4_breaches_26 : decode cX4_breaches 26 = .ok (.bipush (-2), 2) := by decide +kernel
theorem dX4_breaches_28 : decode cX4_breaches 28 = .ok (.invokevirtual 28, 3) := by decide +kernel
theorem dX4_breaches_31 : decode cX4_breaches 31 = .ok (.ireturn, 1) := by decide +kernel
set_option maxRecDepth 20000 in
theorem ggX4_append_X4_in : GoodIn wsX4_append wsX4_in := goodIn_r _ [7] (by decide +kernel) (by decide +kernel)
set_option maxRecDepth 20000 in
theorem gX4_append_X4_in : GoodIn wsX4_append (va_wsS RX4 41 yX4_in wsX4_in) := goodIn_app (goodIn_of _ (by decide +kernel)) ggX4_append_X4_in
set_option maxRecDepth 20000 in
theorem ggX4_append_X4_error : GoodIn wsX4_append wsX4_error := goodIn_r _ [11, 12, 13, 14, 15, 16, 17, 18, 19, 20, 21, 22] (by decide +kernel) (by decide +kernel)
set_option maxRecDepth 20000 in
theorem gX4_append_X4_error : GoodIn wsX4_append (wsV RX4 28 RX4 yX4_error wsX4_error) := goodIn_app (goodIn_of _ (by decide +kernel)) ggX4_append_X4_error
theorem dX4_append_0 : decode cX4_append 0 = .ok (.iload_n 1, 1) := by decide +kernel
theorem dX4_append_1 : decode cX4_append 1 = .ok (.i2l, 1) := by decide +kernel
theorem dX4_append_2 : decode cX4_append 2 = .ok (.lconst 0, 1) := by decide +kernel
theorem dX4_append_3 : decode cX4_append 3 = .ok (.ldc2_w 117, 3) := by decide +kernel
theorem dX4_append_6 : decode cX4_append 6 = .ok (.invokestatic 41, 3) := by decide +kernel
theorem dX4_append_9 : decode cX4_append 9 = .ok (.ifCond .ne 10, 3) := by decide +kernel
theorem dX4_append_12 : decode cX4_append 12 = .ok (.aload_n 0, 1) := by decide +kernel
theorem dX4_append_13 : decode cX4_append 13 = .ok (.bipush (-2), 2) := by decide +kernel
theorem dX4_append_15 : decode cX4_append 15 = .ok (.invokevirtual 28, 3) := by decide +kernel
theorem dX4_append_18 : decode cX4_append 18 = .ok (.ireturn, 1) := by decide +kernel
theorem dX4_append_19 : decode cX4_append 19 = .ok (.aload_n 0, 1) := by decide +kernel
theorem dX4_append_20 : decode cX4_append 20 = .ok (.getfield 119, 3) := by decide +kernel
theorem dX4_append_23 : decode cX4_append 23 = .ok (.bipush 100, 2) := by decide +kernel
theorem dX4_append_25 : decode cX4_append 25 = .ok (.if_icmp .ne 10, 3) := by decide +kernel
theorem dX4_append_28 : decode cX4_append 28 = .ok (.aload_n 0, 1) := by decide +kernel
theorem dX4_append_29 : decode cX4_append 29 = .ok (.bipush (-4), 2) := by decide +kernel
theorem dX4_append_31 : decode cX4_append 31 = .ok (.invokevirtual 28, 3) := by decide +kernel
theorem dX4_append_34 : decode cX4_append 34 = .ok (.ireturn, 1) := by decide +kernel
theorem dX4_append_35 : decode cX4_append 35 = .ok (.aload_n 0, 1) := by decide +kernel
theorem dX4_append_36 : decode cX4_append 36 = .ok (.getfield 22, 3) := by decide +kernel
theorem dX4_append_39 : decode cX4_append 39 = .ok (.aload_n 0, 1) := by decide +kernel
theorem dX4_append_40 : decode cX4_append 40 = .ok (.getfield 119, 3) := by decide +kernel
theorem dX4_append_43 : decode cX4_append 43 = .ok (.iload_n 1, 1) := by decide +kernel
theorem dX4_append_44 : decode cX4_append 44 = .ok (.iastore, 1) := by decide +kernel
theorem dX4_append_45 : decode cX4_append 45 = .ok (.aload_n 0, 1) := by decide +kernel
theorem dX4_append_46 : decode cX4_append 46 = .ok (.dup, 1) := by decide +kernel
theorem dX4_append_47 : decode cX4_append 47 = .ok (.getfield 119, 3) := by decide +kernel
theorem dX4_append_50 : decode cX4_append 50 = .ok (.iconst 1, 1) := by decide +kernel
theorem dX4_append_51 : decode cX4_append 51 = .ok (.iadd, 1) := by decide +kernel
theorem dX4_append_52 : decode cX4_append 52 = .ok (.putfield 119, 3) := by decide +kernel
theorem dX4_append_55 : decode cX4_append 55 = .ok (.aload_n 0, 1) := by decide +kernel
theorem dX4_append_56 : decode cX4_append 56 = .ok (.getfield 119, 3) := by decide +kernel
theorem dX4_append_59 : decode cX4_append 59 = .ok (.ireturn, 1) := by decide +kernel
theorem dX4_clearText_0 : decode cX4_clearText 0 = .ok (.aload_n 0, 1) := by decide +kernel
theorem dX4_clearText_1 : decode cX4_clearText 1 = .ok (.getfield 119, 3) := by decide +kernel
theorem dX4_clearText_4 : decode cX4_clearText 4 = .ok (.istore_n 1, 1) := by decide +kernel
theorem dX4_clearText_5 : decode cX4_clearText 5 = .ok (.aload_n 0, 1) := by decide +kernel
theorem dX4_clearText_6 : decode cX4_clearText 6 = .ok (.iconst 0, 1) := by decide +kernel
theorem dX4_clearText_7 : decode cX4_clearText 7 = .ok (.putfield 119, 3) := by decide +kernel
theorem dX4_clearText_10 : decode cX4_clearText 10 = .ok (.iload_n 1, 1) := by decide +kernel
theorem dX4_clearText_11 : decode cX4_clearText 11 = .ok (.ireturn, 1) := by decide +kernel
theorem dX4_here_0 : decode cX4_here 0 = .ok (.aload_n 0, 1) := by decide +kernel
theorem dX4_here_1 : decode cX4_here 1 = .ok (.getfield 122, 3) := by decide +kernel
theorem dX4_here_4 : decode cX4_here 4 = .ok (.aload_n 0, 1) := by decide +kernel
theorem dX4_here_5 : decode cX4_here 5 = .ok (.getfield 119, 3) := by decide +kernel
theorem dX4_here_8 : decode cX4_here 8 = .ok (.if_icmp .ge 30, 3) := by decide +kernel
theorem dX4_here_11 : decode cX4_here 11 = .ok (.aload_n 0, 1) := by decide +kernel
theorem dX4_here_12 : decode cX4_here 12 = .ok (.getfield 22, 3) := by decide +kernel
theorem dX4_here_15 : decode cX4_here 15 = .ok (.aload_n 0, 1) := by decide +kernel
theorem dX4_here_16 : decode cX4_here 16 = .ok (.getfield 122, 3) := by decide +kernel
theorem dX4_here_19 : decode cX4_here 19 = .ok (.iaload, 1) := by decide +kernel
theorem dX4_here_20 : decode cX4_here 20 = .ok (.bipush 32, 2) := by decide +kernel
theorem dX4_here_22 : decode cX4_here 22 = .ok (.if_icmp .ne 16, 3) := by decide +kernel
theorem dX4_here_25 : decode cX4_here 25 = .ok (.aload_n 0, 1) := by decide +kernel
theorem dX4_here_26 : decode cX4_here 26 = .ok (.dup, 1) := by decide +kernel
theorem dX4_here_27 : decode cX4_here 27 = .ok (.getfield 122, 3) := by decide +kernel
theorem dX4_here_30 : decode cX4_here 30 = .ok (.iconst 1, 1) := by decide +kernel
theorem dX4_here_31 : decode cX4_here 31 = .ok (.iadd, 1) := by decide +kernel
theorem dX4_here_32 : decode cX4_here 32 = .ok (.putfield 122, 3) := by decide +kernel
theorem dX4_here_35 : decode cX4_here 35 = .ok (.goto (-35), 3) := by decide +kernel
theorem dX4_here_38 : decode cX4_here 38 = .ok (.aload_n 0, 1) := by decide +kernel
theorem dX4_here_39 : decode cX4_here 39 = .ok (.getfield 122, 3) := by decide +kernel
theorem dX4_here_42 : decode cX4_here 42 = .ok (.aload_n 0, 1) := by decide +kernel
theorem dX4_here_43 : decode cX4_here 43 = .ok (.getfield 119, 3) := by decide +kernel
theorem dX4_here_46 : decode cX4_here 46 = .ok (.if_icmp .ge 15, 3) := by decide +kernel
theorem dX4_here_49 : decode cX4_here 49 = .ok (.aload_n 0, 1) := by decide +kernel
theorem dX4_here_50 : decode cX4_here 50 = .ok (.getfield 22, 3) := by decide +kernel
theorem dX4_here_53 : decode cX4_here 53 = .ok (.aload_n 0, 1) := by decide +kernel
theorem dX4_here_54 : decode cX4_here 54 = .ok (.getfield 122, 3) := by decide +kernel
theorem dX4_here_57 : decode cX4_here 57 = .ok (.iaload, 1) := by decide +kernel
theorem dX4_here_58 : decode cX4_here 58 = .ok (.goto 4, 3) := by decide +kernel
theorem dX4_here_61 : decode cX4_here 61 = .ok (.iconst (-1), 1) := by decide +kernel
theorem dX4_here_62 : decode cX4_here 62 = .ok (.ireturn, 1) := by decide +kernel
set_option maxRecDepth 20000 in
theorem ggX4_isDigit_X4_in : GoodIn wsX4_isDigit wsX4_in := goodIn_r _ [9] (by decide +kernel) (by decide +kernel)
set_option maxRecDepth 20000 in
theorem gX4_isDigit_X4_in : GoodIn wsX4_isDigit (va_wsS RX4 41 yX4_in wsX4_in) := goodIn_app (goodIn_of _ (by decide +kernel)) ggX4_isDigit_X4_in
theorem dX4_isDigit_0 : decode cX4_isDigit 0 = .ok (.aload_n 0, 1) := by decide +kernel
theorem dX4_isDigit_1 : decode cX4_isDigit 1 = .ok (.getfield 122, 3) := by decide +kernel
theorem dX4_isDigit_4 : decode cX4_isDigit 4 = .ok (.aload_n 0, 1) := by decide +kernel
theorem dX4_isDigit_5 : decode cX4_isDigit 5 = .ok (.getfield 119, 3) := by decide +kernel
theorem dX4_isDigit_8 : decode cX4_isDigit 8 = .ok (.if_icmp .ge 29, 3) := by decide +kernel
theorem dX4_isDigit_11 : decode cX4_isDigit 11 = .ok (.aload_n 0, 1) := by decide +kernel
theorem dX4_isDigit_12 : decode cX4_isDigit 12 = .ok (.getfield 22, 3) := by decide +kernel
theorem dX4_isDigit_15 : decode cX4_isDigit 15 = .ok (.aload_n 0, 1) := by decide +kernel
theorem dX4_isDigit_16 : decode cX4_isDigit 16 = .ok (.getfield 122, 3) := by decide +kernel
theorem dX4_isDigit_19 : decode cX4_isDigit 19 = .ok (.iaload, 1) := by decide +kernel
theorem dX4_isDigit_20 : decode cX4_isDigit 20 = .ok (.i2l, 1) := by decide +kernel
theorem dX4_isDigit_21 : decode cX4_isDigit 21 = .ok (.ldc2_w 125, 3) := by decide +kernel
theorem dX4_isDigit_24 : decode cX4_isDigit 24 = .ok (.ldc2_w 127, 3) := by decide +kernel
theorem dX4_isDigit_27 : decode cX4_isDigit 27 = .ok (.invokestatic 41, 3) := by decide +kernel
theorem dX4_isDigit_30 : decode cX4_isDigit 30 = .ok (.ifCond .eq 7, 3) := by decide +kernel
theorem dX4_isDigit_33 : decode cX4_isDigit 33 = .ok (.iconst 1, 1) := by decide +kernel
theorem dX4_isDigit_34 : decode cX4_isDigit 34 = .ok (.goto 4, 3) := by decide +kernel
theorem dX4_isDigit_37 : decode cX4_isDigit 37 = .ok (.iconst 0, 1) := by decide +kernel
theorem dX4_isDigit_38 : decode cX4_isDigit 38 = .ok (.ireturn, 1) := by decide +kernel
set_option maxRecDepth 20000 in
theorem ggX4_takesNumber_X4_here : GoodIn wsX4_takesNumber wsX4_here := goodIn_r _ [10, 5, 11, 4, 19, 20, 21, 22, 23, 24, 25, 26, 27, 28] (by decide +kernel) (by decide +kernel)
set_option maxRecDepth 20000 in
theorem gX4_takesNumber_X4_here : GoodIn wsX4_takesNumber (wsV RX4 129 RX4 yX4_here wsX4_here) := goodIn_app (goodIn_of _ (by decide +kernel)) ggX4_takesNumber_X4_here
set_option maxRecDepth 20000 in
theorem ggX4_takesNumber_X4_in : GoodIn wsX4_takesNumber wsX4_in := goodIn_r _ [14] (by decide +kernel) (by decide +kernel)
set_option maxRecDepth 20000 in
theorem gX4_takesNumber_X4_in : GoodIn wsX4_takesNumber (va_wsS RX4 41 yX4_in wsX4_in) := goodIn_app (goodIn_of _ (by decide +kernel)) ggX4_takesNumber_X4_in
set_option maxRecDepth 20000 in
theorem ggX4_takesNumber_X4_isDigit : GoodIn wsX4_takesNumber wsX4_isDigit := goodIn_r _ [18, 5, 11, 4, 1, 2, 12, 13, 9, 14, 19, 20, 21, 22, 23, 24, 25, 26, 27, 28] (by decide +kernel) (by decide +kernel)
set_option maxRecDepth 20000 in
theorem gX4_takesNumber_X4_isDigit : GoodIn wsX4_takesNumber (wsV RX4 133 RX4 yX4_isDigit wsX4_isDigit) := goodIn_app (goodIn_of _ (by decide +kernel)) ggX4_takesNumber_X4_isDigit
theorem dX4_takesNumber_0 : decode cX4_takesNumber 0 = .ok (.aload_n 0, 1) := by decide +kernel
theorem dX4_takesNumber_1 : decode cX4_takesNumber 1 = .ok (.invokevirtual 129, 3) := by decide +kernel
theorem dX4_takesNumber_4 : decode cX4_takesNumber 4 = .ok (.istore_n 2, 1) := by decide +kernel
theorem dX4_takesNumber_5 : decode cX4_takesNumber 5 = .ok (.iload_n 2, 1) := by decide +kernel
theorem dX4_takesNumber_6 : decode cX4_takesNumber 6 = .ok (.i2l, 1) := by decide +kernel
theorem dX4_takesNumber_7 : decode cX4_takesNumber 7 = .ok (.ldc2_w 125, 3) := by decide +kernel
theorem dX4_takesNumber_10 : decode cX4_takesNumber 10 = .ok (.ldc2_w 127, 3) := by decide +kernel
theorem dX4_takesNumber_13 : decode cX4_takesNumber 13 = .ok (.invokestatic 41, 3) := by decide +kernel
theorem dX4_takesNumber_16 : decode cX4_takesNumber 16 = .ok (.ifCond .ne 5, 3) := by decide +kernel
theorem dX4_takesNumber_19 : decode cX4_takesNumber 19 = .ok (.iconst 0, 1) := by decide +kernel
theorem dX4_takesNumber_20 : decode cX4_takesNumber 20 = .ok (.ireturn, 1) := by decide +kernel
theorem dX4_takesNumber_21 : decode cX4_takesNumber 21 = .ok (.aload_n 0, 1) := by decide +kernel
theorem dX4_takesNumber_22 : decode cX4_takesNumber 22 = .ok (.getfield 25, 3) := by decide +kernel
theorem dX4_takesNumber_25 : decode cX4_takesNumber 25 = .ok (.iload_n 1, 1) := by decide +kernel
theorem dX4_takesNumber_26 : decode cX4_takesNumber 26 = .ok (.iconst 0, 1) := by decide +kernel
theorem dX4_takesNumber_27 : decode cX4_takesNumber 27 = .ok (.iastore, 1) := by decide +kernel
theorem dX4_takesNumber_28 : decode cX4_takesNumber 28 = .ok (.iconst 0, 1) := by decide +kernel
theorem dX4_takesNumber_29 : decode cX4_takesNumber 29 = .ok (.istore_n 3, 1) := by decide +kernel
theorem dX4_takesNumber_30 : decode cX4_takesNumber 30 = .ok (.iload_n 3, 1) := by decide +kernel
theorem dX4_takesNumber_31 : decode cX4_takesNumber 31 = .ok (.iconst 2, 1) := by decide +kernel
theorem dX4_takesNumber_32 : decode cX4_takesNumber 32 = .ok (.if_icmp .ge 54, 3) := by decide +kernel
theorem dX4_takesNumber_35 : decode cX4_takesNumber 35 = .ok (.aload_n 0, 1) := by decide +kernel
theorem dX4_takesNumber_36 : decode cX4_takesNumber 36 = .ok (.invokevirtual 133, 3) := by decide +kernel
theorem dX4_takesNumber_39 : decode cX4_takesNumber 39 = .ok (.ifCond .eq 47, 3) := by decide +kernel
theorem dX4_takesNumber_42 : decode cX4_takesNumber 42 = .ok (.aload_n 0, 1) := by decide +kernel
theorem dX4_takesNumber_43 : decode cX4_takesNumber 43 = .ok (.getfield 25, 3) := by decide +kernel
theorem dX4_takesNumber_46 : decode cX4_takesNumber 46 = .ok (.iload_n 1, 1) := by decide +kernel
theorem dX4_takesNumber_47 : decode cX4_takesNumber 47 = .ok (.bipush 10, 2) := by decide +kernel
theorem dX4_takesNumber_49 : decode cX4_takesNumber 49 = .ok (.aload_n 0, 1) := by decide +kernel
theorem dX4_takesNumber_50 : decode cX4_takesNumber 50 = .ok (.getfield 25, 3) := by decide +kernel
theorem dX4_takesNumber_53 : decode cX4_takesNumber 53 = .ok (.iload_n 1, 1) := by decide +kernel
theorem dX4_takesNumber_54 : decode cX4_takesNumber 54 = .ok (.iaload, 1) := by decide +kernel
theorem dX4_takesNumber_55 : decode cX4_takesNumber 55 = .ok (.imul, 1) := by decide +kernel
theorem dX4_takesNumber_56 : decode cX4_takesNumber 56 = .ok (.aload_n 0, 1) := by decide +kernel
theorem dX4_takesNumber_57 : decode cX4_takesNumber 57 = .ok (.getfield 22, 3) := by decide +kernel
theorem dX4_takesNumber_60 : decode cX4_takesNumber 60 = .ok (.aload_n 0, 1) := by decide +kernel
theorem dX4_takesNumber_61 : decode cX4_takesNumber 61 = .ok (.getfield 122, 3) := by decide +kernel
theorem dX4_takesNumber_64 : decode cX4_takesNumber 64 = .ok (.iaload, 1) := by decide +kernel
theorem dX4_takesNumber_65 : decode cX4_takesNumber 65 = .ok (.iadd, 1) := by decide +kernel
theorem dX4_takesNumber_66 : decode cX4_takesNumber 66 = .ok (.bipush 48, 2) := by decide +kernel
theorem dX4_takesNumber_68 : decode cX4_takesNumber 68 = .ok (.isub, 1) := by decide +kernel
theorem dX4_takesNumber_69 : decode cX4_takesNumber 69 = .ok (.iastore, 1) := by decide +kernel
theorem dX4_takesNumber_70 : decode cX4_takesNumber 70 = .ok (.aload_n 0, 1) := by decide +kernel
theorem dX4_takesNumber_71 : decode cX4_takesNumber 71 = .ok (.dup, 1) := by decide +kernel
theorem dX4_takesNumber_72 : decode cX4_takesNumber 72 = .ok (.getfield 122, 3) := by decide +kernel
theorem dX4_takesNumber_75 : decode cX4_takesNumber 75 = .ok (.iconst 1, 1) := by decide +kernel
theorem dX4_takesNumber_76 : decode cX4_takesNumber 76 = .ok (.iadd, 1) := by decide +kernel
theorem dX4_takesNumber_77 : decode cX4_takesNumber 77 = .ok (.putfield 122, 3) := by decide +kernel
theorem dX4_takesNumber_80 : decode cX4_takesNumber 80 = .ok (.iinc 3 1, 3) := by decide +kernel
theorem dX4_takesNumber_83 : decode cX4_takesNumber 83 = .ok (.goto (-53), 3) := by decide +kernel
theorem dX4_takesNumber_86 : decode cX4_takesNumber 86 = .ok (.aload_n 0, 1) := by decide +kernel
theorem dX4_takesNumber_87 : decode cX4_takesNumber 87 = .ok (.invokevirtual 133, 3) := by decide +kernel
theorem dX4_takesNumber_90 : decode cX4_takesNumber 90 = .ok (.ifCond .ne 7, 3) := by decide +kernel
theorem dX4_takesNumber_93 : decode cX4_takesNumber 93 = .ok (.iconst 1, 1) := by decide +kernel
theorem dX4_takesNumber_94 : decode cX4_takesNumber 94 = .ok (.goto 4, 3) := by decide +kernel
theorem dX4_takesNumber_97 : decode cX4_takesNumber 97 = .ok (.iconst 0, 1) := by decide +kernel
theorem dX4_takesNumber_98 : decode cX4_takesNumber 98 = .ok (.ireturn, 1) := by decide +kernel
theorem dX4_numbersOf_0 : decode cX4_numbersOf 0 = .ok (.iload_n 0, 1) := by decide +kernel
theorem dX4_numbersOf_1 : decode cX4_numbersOf 1 = .ok (.bipush 102, 2) := by decide +kernel
theorem dX4_numbersOf_3 : decode cX4_numbersOf 3 = .ok (.if_icmp .ne 7, 3) := by decide +kernel
theorem dX4_numbersOf_6 : decode cX4_numbersOf 6 = .ok (.iconst 1, 1) := by decide +kernel
theorem dX4_numbersOf_7 : decode cX4_numbersOf 7 = .ok (.goto 40, 3) := by decide +kernel
theorem dX4_numbersOf_10 : decode cX4_numbersOf 10 = .ok (.iload_n 0, 1) := by decide +kernel
theorem dX4_numbersOf_11 : decode cX4_numbersOf 11 = .ok (.bipush 103, 2) := by decide +kernel
theorem dX4_numbersOf_13 : decode cX4_numbersOf 13 = .ok (.if_icmp .eq 9, 3) := by decide +kernel
theorem dX4_numbersOf_16 : decode cX4_numbersOf 16 = .ok (.iload_n 0, 1) := by decide +kernel
theorem dX4_numbersOf_17 : decode cX4_numbersOf 17 = .ok (.bipush 115, 2) := by decide +kernel
theorem dX4_numbersOf_19 : decode cX4_numbersOf 19 = .ok (.if_icmp .ne 7, 3) := by decide +kernel
theorem dX4_numbersOf_22 : decode cX4_numbersOf 22 = .ok (.iconst 2, 1) := by decide +kernel
theorem dX4_numbersOf_23 : decode cX4_numbersOf 23 = .ok (.goto 24, 3) := by decide +kernel
theorem dX4_numbersOf_26 : decode cX4_numbersOf 26 = .ok (.iload_n 0, 1) := by decide +kernel
theorem dX4_numbersOf_27 : decode cX4_numbersOf 27 = .ok (.bipush 114, 2) := by decide +kernel
theorem dX4_numbersOf_29 : decode cX4_numbersOf 29 = .ok (.if_icmp .ne 7, 3) := by decide +kernel
theorem dX4_numbersOf_32 : decode cX4_numbersOf 32 = .ok (.iconst 3, 1) := by decide +kernel
theorem dX4_numbersOf_33 : decode cX4_numbersOf 33 = .ok (.goto 14, 3) := by decide +kernel
theorem dX4_numbersOf_36 : decode cX4_numbersOf 36 = .ok (.iload_n 0, 1) := by decide +kernel
theorem dX4_numbersOf_37 : decode cX4_numbersOf 37 = .ok (.bipush 119, 2) := by decide +kernel
theorem dX4_numbersOf_39 : decode cX4_numbersOf 39 = .ok (.if_icmp .ne 7, 3) := by decide +kernel
theorem dX4_numbersOf_42 : decode cX4_numbersOf 42 = .ok (.iconst 4, 1) := by decide +kernel
theorem dX4_numbersOf_43 : decode cX4_numbersOf 43 = .ok (.goto 4, 3) := by decide +kernel
theorem dX4_numbersOf_46 : decode cX4_numbersOf 46 = .ok (.iconst (-1), 1) := by decide +kernel
theorem dX4_numbersOf_47 : decode cX4_numbersOf 47 = .ok (.ireturn, 1) := by decide +kernel
set_option maxRecDepth 20000 in
theorem ggX4_takesCommand_X4_here : GoodIn wsX4_takesCommand wsX4_here := goodIn_r _ [7, 2, 8, 9, 27, 28, 29, 30, 31, 32, 33, 34, 35, 36] (by decide +kernel) (by decide +kernel)
set_option maxRecDepth 20000 in
theorem gX4_takesCommand_X4_here : GoodIn wsX4_takesCommand (wsV RX4 129 RX4 yX4_here wsX4_here) := goodIn_app (goodIn_of _ (by decide +kernel)) ggX4_takesCommand_X4_here
set_option maxRecDepth 20000 in
theorem ggX4_takesCommand_X4_numbersOf : GoodIn wsX4_takesCommand wsX4_numbersOf := goodIn_r _ [12] (by decide +kernel) (by decide +kernel)
set_option maxRecDepth 20000 in
theorem gX4_takesCommand_X4_numbersOf : GoodIn wsX4_takesCommand (va_wsS RX4 140 yX4_numbersOf wsX4_numbersOf) := goodIn_app (goodIn_of _ (by decide +kernel)) ggX4_takesCommand_X4_numbersOf
set_option maxRecDepth 20000 in
theorem ggX4_takesCommand_X4_takesNumber : GoodIn wsX4_takesCommand wsX4_takesNumber := goodIn_r _ [16, 17, 18, 19, 9, 2, 3, 4, 5, 6, 7, 8, 20, 21, 22, 23, 24, 25, 26, 27, 28, 29, 30, 31, 32, 33, 34, 35, 36] (by decide +kernel) (by decide +kernel)
set_option maxRecDepth 20000 in
theorem gX4_takesCommand_X4_takesNumber : GoodIn wsX4_takesCommand (wsV RX4 143 RX4 yX4_takesNumber wsX4_takesNumber) := goodIn_app (goodIn_of _ (by decide +kernel)) ggX4_takesCommand_X4_takesNumber
theorem dX4_takesCommand_0 : decode cX4_takesCommand 0 = .ok (.aload_n 0, 1) := by decide +kernel
theorem dX4_takesCommand_1 : decode cX4_takesCommand 1 = .ok (.aload_n 0, 1) := by decide +kernel
theorem dX4_takesCommand_2 : decode cX4_takesCommand 2 = .ok (.invokevirtual 129, 3) := by decide +kernel
theorem dX4_takesCommand_5 : decode cX4_takesCommand 5 = .ok (.putfield 137, 3) := by decide +kernel
theorem dX4_takesCommand_8 : decode cX4_takesCommand 8 = .ok (.aload_n 0, 1) := by decide +kernel
theorem dX4_takesCommand_9 : decode cX4_takesCommand 9 = .ok (.getfield 137, 3) := by decide +kernel
theorem dX4_takesCommand_12 : decode cX4_takesCommand 12 = .ok (.invokestatic 140, 3) := by decide +kernel
theorem dX4_takesCommand_15 : decode cX4_takesCommand 15 = .ok (.istore_n 1, 1) := by decide +kernel
theorem dX4_takesCommand_16 : decode cX4_takesCommand 16 = .ok (.iload_n 1, 1) := by decide +kernel
theorem dX4_takesCommand_17 : decode cX4_takesCommand 17 = .ok (.iconst (-1), 1) := by decide +kernel
theorem dX4_takesCommand_18 : decode cX4_takesCommand 18 = .ok (.if_icmp .ne 5, 3) := by decide +kernel
theorem dX4_takesCommand_21 : decode cX4_takesCommand 21 = .ok (.iconst 0, 1) := by decide +kernel
theorem dX4_takesCommand_22 : decode cX4_takesCommand 22 = .ok (.ireturn, 1) := by decide +kernel
theorem dX4_takesCommand_23 : decode cX4_takesCommand 23 = .ok (.aload_n 0, 1) := by decide +kernel
theorem dX4_takesCommand_24 : decode cX4_takesCommand 24 = .ok (.dup, 1) := by decide +kernel
theorem dX4_takesCommand_25 : decode cX4_takesCommand 25 = .ok (.getfield 122, 3) := by decide +kernel
theorem dX4_takesCommand_28 : decode cX4_takesCommand 28 = .ok (.iconst 1, 1) := by decide +kernel
theorem dX4_takesCommand_29 : decode cX4_takesCommand 29 = .ok (.iadd, 1) := by decide +kernel
theorem dX4_takesCommand_30 : decode cX4_takesCommand 30 = .ok (.putfield 122, 3) := by decide +kernel
theorem dX4_takesCommand_33 : decode cX4_takesCommand 33 = .ok (.iconst 0, 1) := by decide +kernel
theorem dX4_takesCommand_34 : decode cX4_takesCommand 34 = .ok (.istore_n 2, 1) := by decide +kernel
theorem dX4_takesCommand_35 : decode cX4_takesCommand 35 = .ok (.iload_n 2, 1) := by decide +kernel
theorem dX4_takesCommand_36 : decode cX4_takesCommand 36 = .ok (.iload_n 1, 1) := by decide +kernel
theorem dX4_takesCommand_37 : decode cX4_takesCommand 37 = .ok (.if_icmp .ge 19, 3) := by decide +kernel
theorem dX4_takesCommand_40 : decode cX4_takesCommand 40 = .ok (.aload_n 0, 1) := by decide +kernel
theorem dX4_takesCommand_41 : decode cX4_takesCommand 41 = .ok (.iload_n 2, 1) := by decide +kernel
theorem dX4_takesCommand_42 : decode cX4_takesCommand 42 = .ok (.invokevirtual 143, 3) := by decide +kernel
theorem dX4_takesCommand_45 : decode cX4_takesCommand 45 = .ok (.ifCond .ne 5, 3) := by decide +kernel
theorem dX4_takesCommand_48 : decode cX4_takesCommand 48 = .ok (.iconst 0, 1) := by decide +kernel
theorem dX4_takesCommand_49 : decode cX4_takesCommand 49 = .ok (.ireturn, 1) := by decide +kernel
theorem dX4_takesCommand_50 : decode cX4_takesCommand 50 = .ok (.iinc 2 1, 3) := by decide +kernel
theorem dX4_takesCommand_53 : decode cX4_takesCommand 53 = .ok (.goto (-18), 3) := by decide +kernel
theorem dX4_takesCommand_56 : decode cX4_takesCommand 56 = .ok (.aload_n 0, 1) := by decide +kernel
theorem dX4_takesCommand_57 : decode cX4_takesCommand 57 = .ok (.invokevirtual 129, 3) := by decide +kernel
theorem dX4_takesCommand_60 : decode cX4_takesCommand 60 = .ok (.bipush 59, 2) := by decide +kernel
theorem dX4_takesCommand_62 : decode cX4_takesCommand 62 = .ok (.if_icmp .eq 5, 3) := by decide +kernel
theorem dX4_takesCommand_65 : decode cX4_takesCommand 65 = .ok (.iconst 0, 1) := by decide +kernel
theorem dX4_takesCommand_66 : decode cX4_takesCommand 66 = .ok (.ireturn, 1) := by decide +kernel
theorem dX4_takesCommand_67 : decode cX4_takesCommand 67 = .ok (.aload_n 0, 1) := by decide +kernel
theorem dX4_takesCommand_68 : decode cX4_takesCommand 68 = .ok (.dup, 1) := by decide +kernel
theorem dX4_takesCommand_69 : decode cX4_takesCommand 69 = .ok (.getfield 122, 3) := by decide +kernel
theorem dX4_takesCommand_72 : decode cX4_takesCommand 72 = .ok (.iconst 1, 1) := by decide +kernel
theorem dX4_takesCommand_73 : decode cX4_takesCommand 73 = .ok (.iadd, 1) := by decide +kernel
theorem dX4_takesCommand_74 : decode cX4_takesCommand 74 = .ok (.putfield 122, 3) := by decide +kernel
theorem dX4_takesCommand_77 : decode cX4_takesCommand 77 = .ok (.iconst 1, 1) := by decide +kernel
theorem dX4_takesCommand_78 : decode cX4_takesCommand 78 = .ok (.ireturn, 1) := by decide +kernel
set_option maxRecDepth 20000 in
theorem ggX4_doesCommand_X4_doesForget : GoodIn wsX4_doesCommand wsX4_doesForget := goodIn_r _ [7, 8, 9, 10, 6, 11, 12, 13, 14, 15, 69, 70, 71, 72, 73, 74, 75, 76, 77, 78] (by decide +kernel) (by decide +kernel)
set_option maxRecDepth 20000 in
theorem gX4_doesCommand_X4_doesForget : GoodIn wsX4_doesCommand (wsV RX4 66 RX4 yX4_doesForget wsX4_doesForget) := goodIn_app (goodIn_of _ (by decide +kernel)) ggX4_doesCommand_X4_doesForget
set_option maxRecDepth 20000 in
theorem ggX4_doesCommand_X4_doesSet : GoodIn wsX4_doesCommand wsX4_doesSet := goodIn_r _ [19, 20, 8, 9, 10, 6, 11, 12, 13, 14, 15, 21, 22, 23, 24, 69, 70, 71, 72, 73, 74, 75, 76, 77, 78] (by decide +kernel) (by decide +kernel)
set_option maxRecDepth 20000 in
theorem gX4_doesCommand_X4_doesSet : GoodIn wsX4_doesCommand (wsV RX4 59 RX4 yX4_doesSet wsX4_doesSet) := goodIn_app (goodIn_of _ (by decide +kernel)) ggX4_doesCommand_X4_doesSet
set_option maxRecDepth 20000 in
theorem ggX4_doesCommand_X4_doesSync : GoodIn wsX4_doesCommand wsX4_doesSync := goodIn_r _ [28, 8, 29, 30, 6, 31, 32, 13, 14, 15, 69, 70, 71, 72, 73, 74, 75, 76, 77, 78] (by decide +kernel) (by decide +kernel)
set_option maxRecDepth 20000 in
theorem gX4_doesCommand_X4_doesSync : GoodIn wsX4_doesCommand (wsV RX4 105 RX4 yX4_doesSync wsX4_doesSync) := goodIn_app (goodIn_of _ (by decide +kernel)) ggX4_doesCommand_X4_doesSync
set_option maxRecDepth 20000 in
theorem ggX4_doesCommand_X4_doesRead : GoodIn wsX4_doesCommand wsX4_doesRead := goodIn_r _ [36, 8, 9, 10, 6, 11, 12, 13, 14, 15, 29, 30, 31, 32, 37, 38, 39, 40, 41, 42, 43, 44, 45, 46, 47, 21, 22, 23, 24, 48, 49, 50, 51, 52, 53, 54, 55, 56, 57, 58, 59, 69, 70, 71, 72, 73, 74, 75, 76, 77, 78] (by decide +kernel) (by decide +kernel)
set_option maxRecDepth 20000 in
theorem gX4_doesCommand_X4_doesRead : GoodIn wsX4_doesCommand (wsV RX4 92 RX4 yX4_doesRead wsX4_doesRead) := goodIn_app (goodIn_of _ (by decide +kernel)) ggX4_doesCommand_X4_doesRead
set_option maxRecDepth 20000 in
theorem ggX4_doesCommand_X4_doesWrite : GoodIn wsX4_doesCommand wsX4_doesWrite := goodIn_r _ [63, 64, 8, 9, 10, 6, 11, 12, 13, 14, 15, 29, 30, 31, 32, 37, 38, 39, 65, 66, 67, 68, 44, 45, 46, 47, 21, 22, 23, 24, 48, 49, 50, 51, 69, 70, 71, 72, 73, 74, 75, 76, 77, 78] (by decide +kernel) (by decide +kernel)
set_option maxRecDepth 20000 in
theorem gX4_doesCommand_X4_doesWrite : GoodIn wsX4_doesCommand (wsV RX4 101 RX4 yX4_doesWrite wsX4_doesWrite) := goodIn_app (goodIn_of _ (by decide +kernel)) ggX4_doesCommand_X4_doesWrite
theorem dX4_doesCommand_0 : decode cX4_doesCommand 0 = .ok (.aload_n 0, 1) := by decide +kernel
theorem dX4_doesCommand_1 : decode cX4_doesCommand 1 = .ok (.getfield 25, 3) := by decide +kernel
theorem dX4_doesCommand_4 : decode cX4_doesCommand 4 = .ok (.iconst 0, 1) := by decide +kernel
theorem dX4_doesCommand_5 : decode cX4_doesCommand 5 = .ok (.iaload, 1) := by decide +kernel
theorem dX4_doesCommand_6 : decode cX4_doesCommand 6 = .ok (.istore_n 1, 1) := by decide +kernel
theorem dX4_doesCommand_7 : decode cX4_doesCommand 7 = .ok (.aload_n 0, 1) := by decide +kernel
theorem dX4_doesCommand_8 : decode cX4_doesCommand 8 = .ok (.getfield 25, 3) := by decide +kernel
theorem dX4_doesCommand_11 : decode cX4_doesCommand 11 = .ok (.iconst 1, 1) := by decide +kernel
theorem dX4_doesCommand_12 : decode cX4_doesCommand 12 = .ok (.iaload, 1) := by decide +kernel
theorem dX4_doesCommand_13 : decode cX4_doesCommand 13 = .ok (.istore_n 2, 1) := by decide +kernel
theorem dX4_doesCommand_14 : decode cX4_doesCommand 14 = .ok (.aload_n 0, 1) := by decide +kernel
theorem dX4_doesCommand_15 : decode cX4_doesCommand 15 = .ok (.getfield 137, 3) := by decide +kernel
theorem dX4_doesCommand_18 : decode cX4_doesCommand 18 = .ok (.lookupswitch 75 #[(102, 42), (103, 48), (114, 62), (115, 55)], 42) := by decide +kernel
theorem dX4_doesCommand_60 : decode cX4_doesCommand 60 = .ok (.aload_n 0, 1) := by decide +kernel
theorem dX4_doesCommand_61 : decode cX4_doesCommand 61 = .ok (.iload_n 1, 1) := by decide +kernel
theorem dX4_doesCommand_62 : decode cX4_doesCommand 62 = .ok (.invokevirtual 66, 3) := by decide +kernel
theorem dX4_doesCommand_65 : decode cX4_doesCommand 65 = .ok (.ireturn, 1) := by decide +kernel
theorem dX4_doesCommand_66 : decode cX4_doesCommand 66 = .ok (.aload_n 0, 1) := by decide +kernel
theorem dX4_doesCommand_67 : decode cX4_doesCommand 67 = .ok (.iload_n 1, 1) := by decide +kernel
theorem dX4_doesCommand_68 : decode cX4_doesCommand 68 = .ok (.iload_n 2, 1) := by decide +kernel
theorem dX4_doesCommand_69 : decode cX4_doesCommand 69 = .ok (.invokevirtual 59, 3) := by decide +kernel
theorem dX4_doesCommand_72 : decode cX4_doesCommand 72 = .ok (.ireturn, 1) := by decide +kernel
theorem dX4_doesCommand_73 : decode cX4_doesCommand 73 = .ok (.aload_n 0, 1) := by decide +kernel
theorem dX4_doesCommand_74 : decode cX4_doesCommand 74 = .ok (.iload_n 1, 1) := by decide +kernel
theorem dX4_doesCommand_75 : decode cX4_doesCommand 75 = .ok (.iload_n 2, 1) := by decide +kernel
theorem dX4_doesCommand_76 : decode cX4_doesCommand 76 = .ok (.invokevirtual 105, 3) := by decide +kernel
theorem dX4_doesCommand_79 : decode cX4_doesCommand 79 = .ok (.ireturn, 1) := by decide +kernel
theorem dX4_doesCommand_80 : decode cX4_doesCommand 80 = .ok (.aload_n 0, 1) := by decide +kernel
theorem dX4_doesCommand_81 : decode cX4_doesCommand 81 = .ok (.iload_n 1, 1) := by decide +kernel
theorem dX4_doesCommand_82 : decode cX4_doesCommand 82 = .ok (.iload_n 2, 1) := by decide +kernel
theorem dX4_doesCommand_83 : decode cX4_doesCommand 83 = .ok (.aload_n 0, 1) := by decide +kernel
theorem dX4_doesCommand_84 : decode cX4_doesCommand 84 = .ok (.getfield 25, 3) := by decide +kernel
theorem dX4_doesCommand_87 : decode cX4_doesCommand 87 = .ok (.iconst 2, 1) := by decide +kernel
theorem dX4_doesCommand_88 : decode cX4_doesCommand 88 = .ok (.iaload, 1) := by decide +kernel
theorem dX4_doesCommand_89 : decode cX4_doesCommand 89 = .ok (.invokevirtual 92, 3) := by decide +kernel
theorem dX4_doesCommand_92 : decode cX4_doesCommand 92 = .ok (.ireturn, 1) := by decide +kernel
theorem dX4_doesCommand_93 : decode cX4_doesCommand 93 = .ok (.aload_n 0, 1) := by decide +kernel
theorem dX4_doesCommand_94 : decode cX4_doesCommand 94 = .ok (.iload_n 1, 1) := by decide +kernel
theorem dX4_doesCommand_95 : decode cX4_doesCommand 95 = .ok (.iload_n 2, 1) := by decide +kernel
theorem dX4_doesCommand_96 : decode cX4_doesCommand 96 = .ok (.aload_n 0, 1) := by decide +kernel
theorem dX4_doesCommand_97 : decode cX4_doesCommand 97 = .ok (.getfield 25, 3) := by decide +kernel
theorem dX4_doesCommand_100 : decode cX4_doesCommand 100 = .ok (.iconst 2, 1) := by decide +kernel
theorem dX4_doesCommand_101 : decode cX4_doesCommand 101 = .ok (.iaload, 1) := by decide +kernel
theorem dX4_doesCommand_102 : decode cX4_doesCommand 102 = .ok (.aload_n 0, 1) := by decide +kernel
theorem dX4_doesCommand_103 : decode cX4_doesCommand 103 = .ok (.getfield 25, 3) := by decide +kernel
theorem dX4_doesCommand_106 : decode cX4_doesCommand 106 = .ok (.iconst 3, 1) := by decide +kernel
theorem dX4_doesCommand_107 : decode cX4_doesCommand 107 = .ok (.iaload, 1) := by decide +kernel
theorem dX4_doesCommand_108 : decode cX4_doesCommand 108 = .ok (.invokevirtual 101, 3) := by decide +kernel
theorem dX4_doesCommand_111 : decode cX4_doesCommand 111 = .ok (.ireturn, 1) := by decide +kernel
set_option maxRecDepth 20000 in
theorem ggX4_execute_X4_takesCommand : GoodIn wsX4_execute wsX4_takesCommand := goodIn_r _ [8, 9, 1, 10, 11, 12, 7, 13, 14, 15, 16, 17, 18, 19, 20, 21, 22, 23, 24, 25, 26, 27, 28, 29, 30, 31, 32, 108, 109, 110, 111, 112, 113, 114, 115, 116, 117] (by decide +kernel) (by decide +kernel)
set_option maxRecDepth 20000 in
theorem gX4_execute_X4_takesCommand : GoodIn wsX4_execute (wsV RX4 146 RX4 yX4_takesCommand wsX4_takesCommand) := goodIn_app (goodIn_of _ (by decide +kernel)) ggX4_execute_X4_takesCommand
set_option maxRecDepth 20000 in
theorem ggX4_execute_X4_here : GoodIn wsX4_execute wsX4_here := goodIn_r _ [13, 1, 14, 15, 108, 109, 110, 111, 112, 113, 114, 115, 116, 117] (by decide +kernel) (by decide +kernel)
set_option maxRecDepth 20000 in
theorem gX4_execute_X4_here : GoodIn wsX4_execute (wsV RX4 129 RX4 yX4_here wsX4_here) := goodIn_app (goodIn_of _ (by decide +kernel)) ggX4_execute_X4_here
set_option maxRecDepth 20000 in
theorem ggX4_execute_X4_putsAside : GoodIn wsX4_execute wsX4_putsAside := goodIn_r _ [36, 3, 2, 108, 109, 110, 111, 112, 113, 114, 115, 116, 117] (by decide +kernel) (by decide +kernel)
set_option maxRecDepth 20000 in
theorem gX4_execute_X4_putsAside : GoodIn wsX4_execute (wsV RX4 56 RX4 yX4_putsAside wsX4_putsAside) := goodIn_app (goodIn_of _ (by decide +kernel)) ggX4_execute_X4_putsAside
set_option maxRecDepth 20000 in
theorem ggX4_execute_X4_doesCommand : GoodIn wsX4_execute wsX4_doesCommand := goodIn_r _ [40, 25, 9, 41, 42, 43, 7, 44, 2, 45, 46, 47, 48, 26, 27, 28, 49, 50, 51, 52, 53, 54, 55, 56, 57, 58, 59, 60, 61, 62, 63, 64, 65, 66, 67, 68, 69, 70, 71, 72, 73, 74, 75, 76, 77, 78, 79, 80, 81, 82, 83, 84, 85, 86, 87, 88, 89, 90, 91, 92, 93, 94, 95, 96, 97, 98, 99, 100, 101, 108, 109, 110, 111, 112, 113, 114, 115, 116, 117] (by decide +kernel) (by decide +kernel)
set_option maxRecDepth 20000 in
theorem gX4_execute_X4_doesCommand : GoodIn wsX4_execute (wsV RX4 149 RX4 yX4_doesCommand wsX4_doesCommand) := goodIn_app (goodIn_of _ (by decide +kernel)) ggX4_execute_X4_doesCommand
set_option maxRecDepth 20000 in
theorem ggX4_execute_X4_savesAside : GoodIn wsX4_execute wsX4_savesAside := goodIn_r _ [105, 106, 107, 3, 108, 109, 110, 111, 112, 113, 114, 115, 116, 117] (by decide +kernel) (by decide +kernel)
set_option maxRecDepth 20000 in
theorem gX4_execute_X4_savesAside : GoodIn wsX4_execute (wsV RX4 32 RX4 yX4_savesAside wsX4_savesAside) := goodIn_app (goodIn_of _ (by decide +kernel)) ggX4_execute_X4_savesAside
theorem dX4_execute_0 : decode cX4_execute 0 = .ok (.aload_n 0, 1) := by decide +kernel
theorem dX4_execute_1 : decode cX4_execute 1 = .ok (.iconst 0, 1) := by decide +kernel
theorem dX4_execute_2 : decode cX4_execute 2 = .ok (.putfield 122, 3) := by decide +kernel
theorem dX4_execute_5 : decode cX4_execute 5 = .ok (.iconst 0, 1) := by decide +kernel
theorem dX4_execute_6 : decode cX4_execute 6 = .ok (.istore_n 1, 1) := by decide +kernel
theorem dX4_execute_7 : decode cX4_execute 7 = .ok (.aload_n 0, 1) := by decide +kernel
theorem dX4_execute_8 : decode cX4_execute 8 = .ok (.invokevirtual 146, 3) := by decide +kernel
theorem dX4_execute_11 : decode cX4_execute 11 = .ok (.ifCond .ne 11, 3) := by decide +kernel
theorem dX4_execute_14 : decode cX4_execute 14 = .ok (.bipush (-10), 2) := by decide +kernel
theorem dX4_execute_16 : decode cX4_execute 16 = .ok (.aload_n 0, 1) := by decide +kernel
theorem dX4_execute_17 : decode cX4_execute 17 = .ok (.getfield 122, 3) := by decide +kernel
theorem dX4_execute_20 : decode cX4_execute 20 = .ok (.isub, 1) := by decide +kernel
theorem dX4_execute_21 : decode cX4_execute 21 = .ok (.ireturn, 1) := by decide +kernel
theorem dX4_execute_22 : decode cX4_execute 22 = .ok (.iinc 1 1, 3) := by decide +kernel
theorem dX4_execute_25 : decode cX4_execute 25 = .ok (.aload_n 0, 1) := by decide +kernel
theorem dX4_execute_26 : decode cX4_execute 26 = .ok (.invokevirtual 129, 3) := by decide +kernel
theorem dX4_execute_29 : decode cX4_execute 29 = .ok (.iconst (-1), 1) := by decide +kernel
theorem dX4_execute_30 : decode cX4_execute 30 = .ok (.if_icmp .ne (-23), 3) := by decide +kernel
theorem dX4_execute_33 : decode cX4_execute 33 = .ok (.aload_n 0, 1) := by decide +kernel
theorem dX4_execute_34 : decode cX4_execute 34 = .ok (.invokevirtual 56, 3) := by decide +kernel
theorem dX4_execute_37 : decode cX4_execute 37 = .ok (.aload_n 0, 1) := by decide +kernel
theorem dX4_execute_38 : decode cX4_execute 38 = .ok (.iconst 0, 1) := by decide +kernel
theorem dX4_execute_39 : decode cX4_execute 39 = .ok (.putfield 122, 3) := by decide +kernel
theorem dX4_execute_42 : decode cX4_execute 42 = .ok (.iconst 0, 1) := by decide +kernel
theorem dX4_execute_43 : decode cX4_execute 43 = .ok (.istore_n 2, 1) := by decide +kernel
theorem dX4_execute_44 : decode cX4_execute 44 = .ok (.iconst 0, 1) := by decide +kernel
theorem dX4_execute_45 : decode cX4_execute 45 = .ok (.istore_n 3, 1) := by decide +kernel
theorem dX4_execute_46 : decode cX4_execute 46 = .ok (.iload_n 3, 1) := by decide +kernel
theorem dX4_execute_47 : decode cX4_execute 47 = .ok (.iload_n 1, 1) := by decide +kernel
theorem dX4_execute_48 : decode cX4_execute 48 = .ok (.if_icmp .ge 87, 3) := by decide +kernel
theorem dX4_execute_51 : decode cX4_execute 51 = .ok (.aload_n 0, 1) := by decide +kernel
theorem dX4_execute_52 : decode cX4_execute 52 = .ok (.invokevirtual 146, 3) := by decide +kernel
theorem dX4_execute_55 : decode cX4_execute 55 = .ok (.istore 4, 2) := by decide +kernel
theorem dX4_execute_57 : decode cX4_execute 57 = .ok (.aload_n 0, 1) := by decide +kernel
theorem dX4_execute_58 : decode cX4_execute 58 = .ok (.invokevirtual 149, 3) := by decide +kernel
theorem dX4_execute_61 : decode cX4_execute 61 = .ok (.istore 5, 2) := by decide +kernel
theorem dX4_execute_63 : decode cX4_execute 63 = .ok (.iload 5, 2) := by decide +kernel
theorem dX4_execute_65 : decode cX4_execute 65 = .ok (.bipush (-2), 2) := by decide +kernel
theorem dX4_execute_67 : decode cX4_execute 67 = .ok (.if_icmp .eq 10, 3) := by decide +kernel
theorem dX4_execute_70 : decode cX4_execute 70 = .ok (.iload 5, 2) := by decide +kernel
theorem dX4_execute_72 : decode cX4_execute 72 = .ok (.bipush (-4), 2) := by decide +kernel
theorem dX4_execute_74 : decode cX4_execute 74 = .ok (.if_icmp .ne 40, 3) := by decide +kernel
theorem dX4_execute_77 : decode cX4_execute 77 = .ok (.iconst 0, 1) := by decide +kernel
theorem dX4_execute_78 : decode cX4_execute 78 = .ok (.istore 6, 2) := by decide +kernel
theorem dX4_execute_80 : decode cX4_execute 80 = .ok (.iload 6, 2) := by decide +kernel
theorem dX4_execute_82 : decode cX4_execute 82 = .ok (.sipush 345, 3) := by decide +kernel
theorem dX4_execute_85 : decode cX4_execute 85 = .ok (.if_icmp .ge 23, 3) := by decide +kernel
theorem dX4_execute_88 : decode cX4_execute 88 = .ok (.aload_n 0, 1) := by decide +kernel
theorem dX4_execute_89 : decode cX4_execute 89 = .ok (.getfield 7, 3) := by decide +kernel
theorem dX4_execute_92 : decode cX4_execute 92 = .ok (.iload 6, 2) := by decide +kernel
theorem dX4_execute_94 : decode cX4_execute 94 = .ok (.aload_n 0, 1) := by decide +kernel
theorem dX4_execute_95 : decode cX4_execute 95 = .ok (.getfield 16, 3) := by decide +kernel
theorem dX4_execute_98 : decode cX4_execute 98 = .ok (.iload 6, 2) := by decide +kernel
theorem dX4_execute_100 : decode cX4_execute 100 = .ok (.iaload, 1) := by decide +kernel
theorem dX4_execute_101 : decode cX4_execute 101 = .ok (.iastore, 1) := by decide +kernel
theorem dX4_execute_102 : decode cX4_execute 102 = .ok (.iinc 6 1, 3) := by decide +kernel
theorem dX4_execute_105 : decode cX4_execute 105 = .ok (.goto (-25), 3) := by decide +kernel
theorem dX4_execute_108 : decode cX4_execute 108 = .ok (.sipush (-1000), 3) := by decide +kernel
theorem dX4_execute_111 : decode cX4_execute 111 = .ok (.iload_n 3, 1) := by decide +kernel
theorem dX4_execute_112 : decode cX4_execute 112 = .ok (.isub, 1) := by decide +kernel
theorem dX4_execute_113 : decode cX4_execute 113 = .ok (.ireturn, 1) := by decide +kernel
theorem dX4_execute_114 : decode cX4_execute 114 = .ok (.iload_n 2, 1) := by decide +kernel
theorem dX4_execute_115 : decode cX4_execute 115 = .ok (.iload 5, 2) := by decide +kernel
theorem dX4_execute_117 : decode cX4_execute 117 = .ok (.bipush (-3), 2) := by decide +kernel
theorem dX4_execute_119 : decode cX4_execute 119 = .ok (.if_icmp .ne 7, 3) := by decide +kernel
theorem dX4_execute_122 : decode cX4_execute 122 = .ok (.iconst 0, 1) := by decide +kernel
theorem dX4_execute_123 : decode cX4_execute 123 = .ok (.goto 4, 3) := by decide +kernel
theorem dX4_execute_126 : decode cX4_execute 126 = .ok (.iconst 1, 1) := by decide +kernel
theorem dX4_execute_127 : decode cX4_execute 127 = .ok (.iadd, 1) := by decide +kernel
theorem dX4_execute_128 : decode cX4_execute 128 = .ok (.istore_n 2, 1) := by decide +kernel
theorem dX4_execute_129 : decode cX4_execute 129 = .ok (.iinc 3 1, 3) := by decide +kernel
theorem dX4_execute_132 : decode cX4_execute 132 = .ok (.goto (-86), 3) := by decide +kernel
theorem dX4_execute_135 : decode cX4_execute 135 = .ok (.aload_n 0, 1) := by decide +kernel
theorem dX4_execute_136 : decode cX4_execute 136 = .ok (.invokevirtual 32, 3) := by decide +kernel
theorem dX4_execute_139 : decode cX4_execute 139 = .ok (.iload_n 2, 1) := by decide +kernel
theorem dX4_execute_140 : decode cX4_execute 140 = .ok (.ireturn, 1) := by decide +kernel
set_option maxRecDepth 20000 in
theorem ggX4_undo_X4_error : GoodIn wsX4_undo wsX4_error := goodIn_r _ [8, 9, 10, 11, 12, 13, 14, 15, 16, 17, 18, 19] (by decide +kernel) (by decide +kernel)
set_option maxRecDepth 20000 in
theorem gX4_undo_X4_error : GoodIn wsX4_undo (wsV RX4 28 RX4 yX4_error wsX4_error) := goodIn_app (goodIn_of _ (by decide +kernel)) ggX4_undo_X4_error
theorem dX4_undo_0 : decode cX4_undo 0 = .ok (.aload_n 0, 1) := by decide +kernel
theorem dX4_undo_1 : decode cX4_undo 1 = .ok (.getfield 35, 3) := by decide +kernel
theorem dX4_undo_4 : decode cX4_undo 4 = .ok (.ifCond .ne 10, 3) := by decide +kernel
theorem dX4_undo_7 : decode cX4_undo 7 = .ok (.aload_n 0, 1) := by decide +kernel
theorem dX4_undo_8 : decode cX4_undo 8 = .ok (.bipush (-6), 2) := by decide +kernel
theorem dX4_undo_10 : decode cX4_undo 10 = .ok (.invokevirtual 28, 3) := by decide +kernel
theorem dX4_undo_13 : decode cX4_undo 13 = .ok (.ireturn, 1) := by decide +kernel
theorem dX4_undo_14 : decode cX4_undo 14 = .ok (.aload_n 0, 1) := by decide +kernel
theorem dX4_undo_15 : decode cX4_undo 15 = .ok (.dup, 1) := by decide +kernel
theorem dX4_undo_16 : decode cX4_undo 16 = .ok (.getfield 35, 3) := by decide +kernel
theorem dX4_undo_19 : decode cX4_undo 19 = .ok (.iconst 1, 1) := by decide +kernel
theorem dX4_undo_20 : decode cX4_undo 20 = .ok (.isub, 1) := by decide +kernel
theorem dX4_undo_21 : decode cX4_undo 21 = .ok (.putfield 35, 3) := by decide +kernel
theorem dX4_undo_24 : decode cX4_undo 24 = .ok (.iconst 0, 1) := by decide +kernel
theorem dX4_undo_25 : decode cX4_undo 25 = .ok (.istore_n 1, 1) := by decide +kernel
theorem dX4_undo_26 : decode cX4_undo 26 = .ok (.iload_n 1, 1) := by decide +kernel
theorem dX4_undo_27 : decode cX4_undo 27 = .ok (.sipush 345, 3) := by decide +kernel
theorem dX4_undo_30 : decode cX4_undo 30 = .ok (.if_icmp .ge 30, 3) := by decide +kernel
theorem dX4_undo_33 : decode cX4_undo 33 = .ok (.aload_n 0, 1) := by decide +kernel
theorem dX4_undo_34 : decode cX4_undo 34 = .ok (.getfield 7, 3) := by decide +kernel
theorem dX4_undo_37 : decode cX4_undo 37 = .ok (.iload_n 1, 1) := by decide +kernel
theorem dX4_undo_38 : decode cX4_undo 38 = .ok (.aload_n 0, 1) := by decide +kernel
theorem dX4_undo_39 : decode cX4_undo 39 = .ok (.getfield 13, 3) := by decide +kernel
theorem dX4_undo_42 : decode cX4_undo 42 = .ok (.sipush 345, 3) := by decide +kernel
theorem dX4_undo_45 : decode cX4_undo 45 = .ok (.aload_n 0, 1) := by decide +kernel
theorem dX4_undo_46 : decode cX4_undo 46 = .ok (.getfield 35, 3) := by decide +kernel
theorem dX4_undo_49 : decode cX4_undo 49 = .ok (.imul, 1) := by decide +kernel
theorem dX4_undo_50 : decode cX4_undo 50 = .ok (.iload_n 1, 1) := by decide +kernel
theorem dX4_undo_51 : decode cX4_undo 51 = .ok (.iadd, 1) := by decide +kernel
theorem dX4_undo_52 : decode cX4_undo 52 = .ok (.iaload, 1) := by decide +kernel
theorem dX4_undo_53 : decode cX4_undo 53 = .ok (.iastore, 1) := by decide +kernel
theorem dX4_undo_54 : decode cX4_undo 54 = .ok (.iinc 1 1, 3) := by decide +kernel
theorem dX4_undo_57 : decode cX4_undo 57 = .ok (.goto (-31), 3) := by decide +kernel
theorem dX4_undo_60 : decode cX4_undo 60 = .ok (.aload_n 0, 1) := by decide +kernel
theorem dX4_undo_61 : decode cX4_undo 61 = .ok (.getfield 35, 3) := by decide +kernel
theorem dX4_undo_64 : decode cX4_undo 64 = .ok (.ireturn, 1) := by decide +kernel
set_option maxRecDepth 20000 in
theorem ggX4_errorCount_X4_in : GoodIn wsX4_errorCount wsX4_in := goodIn_r _ [7] (by decide +kernel) (by decide +kernel)
set_option maxRecDepth 20000 in
theorem gX4_errorCount_X4_in : GoodIn wsX4_errorCount (va_wsS RX4 41 yX4_in wsX4_in) := goodIn_app (goodIn_of _ (by decide +kernel)) ggX4_errorCount_X4_in
set_option maxRecDepth 20000 in
theorem ggX4_errorCount_X4_error : GoodIn wsX4_errorCount wsX4_error := goodIn_r _ [11, 3, 12, 13, 14, 15, 16, 17, 18, 19, 20, 21] (by decide +kernel) (by decide +kernel)
set_option maxRecDepth 20000 in
theorem gX4_errorCount_X4_error : GoodIn wsX4_errorCount (wsV RX4 28 RX4 yX4_error wsX4_error) := goodIn_app (goodIn_of _ (by decide +kernel)) ggX4_errorCount_X4_error
theorem dX4_errorCount_0 : decode cX4_errorCount 0 = .ok (.iload_n 1, 1) := by decide +kernel
theorem dX4_errorCount_1 : decode cX4_errorCount 1 = .ok (.i2l, 1) := by decide +kernel
theorem dX4_errorCount_2 : decode cX4_errorCount 2 = .ok (.ldc2_w 152, 3) := by decide +kernel
theorem dX4_errorCount_5 : decode cX4_errorCount 5 = .ok (.ldc2_w 154, 3) := by decide +kernel
theorem dX4_errorCount_8 : decode cX4_errorCount 8 = .ok (.invokestatic 41, 3) := by decide +kernel
theorem dX4_errorCount_11 : decode cX4_errorCount 11 = .ok (.ifCond .eq 15, 3) := by decide +kernel
theorem dX4_errorCount_14 : decode cX4_errorCount 14 = .ok (.aload_n 0, 1) := by decide +kernel
theorem dX4_errorCount_15 : decode cX4_errorCount 15 = .ok (.getfield 19, 3) := by decide +kernel
theorem dX4_errorCount_18 : decode cX4_errorCount 18 = .ok (.bipush (-2), 2) := by decide +kernel
theorem dX4_errorCount_20 : decode cX4_errorCount 20 = .ok (.iload_n 1, 1) := by decide +kernel
theorem dX4_errorCount_21 : decode cX4_errorCount 21 = .ok (.isub, 1) := by decide +kernel
