set_option maxRecDepth 20000 in
theorem gX4_writeCount_X4_error : GoodIn wsX4_writeCount (wsV RX4 28 RX4 yX4_error wsX4_error) := goodIn_app (goodIn_of _ (by decide +kernel)) ggX4_writeCount_X4_error
theorem dX4_writeCount_0 : decode cX4_writeCount 0 = .ok (.iload_n 1, 1) := by decide +kernel
theorem dX4_writeCount_1 : decode cX4_writeCount 1 = .ok (.invokestatic 47, 3) := by decide +kernel
theorem dX4_writeCount_4 : decode cX4_writeCount 4 = .ok (.ifCond .eq 30, 3) := by decide +kernel
theorem dX4_writeCount_7 : decode cX4_writeCount 7 = .ok (.iload_n 2, 1) := by decide +kernel
theorem dX4_writeCount_8 : decode cX4_writeCount 8 = .ok (.invokestatic 69, 3) := by decide +kernel
theorem dX4_writeCount_11 : decode cX4_writeCount 11 = .ok (.ifCond .eq 23, 3) := by decide +kernel
theorem dX4_writeCount_14 : decode cX4_writeCount 14 = .ok (.aload_n 0, 1) := by decide +kernel
theorem dX4_writeCount_15 : decode cX4_writeCount 15 = .ok (.getfield 7, 3) := by decide +kernel
theorem dX4_writeCount_18 : decode cX4_writeCount 18 = .ok (.sipush 313, 3) := by decide +kernel
theorem dX4_writeCount_21 : decode cX4_writeCount 21 = .ok (.bipush 7, 2) := by decide +kernel
theorem dX4_writeCount_23 : decode cX4_writeCount 23 = .ok (.iload_n 1, 1) := by decide +kernel
theorem dX4_writeCount_24 : decode cX4_writeCount 24 = .ok (.imul, 1) := by decide +kernel
theorem dX4_writeCount_25 : decode cX4_writeCount 25 = .ok (.iadd, 1) := by decide +kernel
theorem dX4_writeCount_26 : decode cX4_writeCount 26 = .ok (.iconst 4, 1) := by decide +kernel
theorem dX4_writeCount_27 : decode cX4_writeCount 27 = .ok (.iadd, 1) := by decide +kernel
theorem dX4_writeCount_28 : decode cX4_writeCount 28 = .ok (.iload_n 2, 1) := by decide +kernel
theorem dX4_writeCount_29 : decode cX4_writeCount 29 = .ok (.iadd, 1) := by decide +kernel
theorem dX4_writeCount_30 : decode cX4_writeCount 30 = .ok (.iaload, 1) := by decide +kernel
theorem dX4_writeCount_31 : decode cX4_writeCount 31 = .ok (.goto 9, 3) := by decide +kernel
theorem dX4_writeCount_34 : decode cX4_writeCount 34 = .ok (.aload_n 0, 1) := by decide +kernel
theorem dX4_writeCount_35 : decode cX4_writeCount 35 = .ok (.bipush (-2), 2) := by decide +kernel
theorem dX4_writeCount_37 : decode cX4_writeCount 37 = .ok (.invokevirtual 28, 3) := by decide +kernel
theorem dX4_writeCount_40 : decode cX4_writeCount 40 = .ok (.ireturn, 1) := by decide +kernel
theorem dX4_covers_0 : decode cX4_covers 0 = .ok (.iconst 1, 1) := by decide +kernel
theorem dX4_covers_1 : decode cX4_covers 1 = .ok (.istore_n 3, 1) := by decide +kernel
theorem dX4_covers_2 : decode cX4_covers 2 = .ok (.iconst 0, 1) := by decide +kernel
theorem dX4_covers_3 : decode cX4_covers 3 = .ok (.istore 4, 2) := by decide +kernel
theorem dX4_covers_5 : decode cX4_covers 5 = .ok (.iload 4, 2) := by decide +kernel
theorem dX4_covers_7 : decode cX4_covers 7 = .ok (.iconst 3, 1) := by decide +kernel
theorem dX4_covers_8 : decode cX4_covers 8 = .ok (.if_icmp .ge 40, 3) := by decide +kernel
theorem dX4_covers_11 : decode cX4_covers 11 = .ok (.iload_n 3, 1) := by decide +kernel
theorem dX4_covers_12 : decode cX4_covers 12 = .ok (.ifCond .eq 28, 3) := by decide +kernel
theorem dX4_covers_15 : decode cX4_covers 15 = .ok (.aload_n 0, 1) := by decide +kernel
theorem dX4_covers_16 : decode cX4_covers 16 = .ok (.getfield 7, 3) := by decide +kernel
theorem dX4_covers_19 : decode cX4_covers 19 = .ok (.iload_n 2, 1) := by decide +kernel
theorem dX4_covers_20 : decode cX4_covers 20 = .ok (.iload 4, 2) := by decide +kernel
theorem dX4_covers_22 : decode cX4_covers 22 = .ok (.iadd, 1) := by decide +kernel
theorem dX4_covers_23 : decode cX4_covers 23 = .ok (.iaload, 1) := by decide +kernel
theorem dX4_covers_24 : decode cX4_covers 24 = .ok (.aload_n 0, 1) := by decide +kernel
theorem dX4_covers_25 : decode cX4_covers 25 = .ok (.getfield 7, 3) := by decide +kernel
theorem dX4_covers_28 : decode cX4_covers 28 = .ok (.iload_n 1, 1) := by decide +kernel
theorem dX4_covers_29 : decode cX4_covers 29 = .ok (.iload 4, 2) := by decide +kernel
theorem dX4_covers_31 : decode cX4_covers 31 = .ok (.iadd, 1) := by decide +kernel
theorem dX4_covers_32 : decode cX4_covers 32 = .ok (.iaload, 1) := by decide +kernel
theorem dX4_covers_33 : decode cX4_covers 33 = .ok (.if_icmp .gt 7, 3) := by decide +kernel
theorem dX4_covers_36 : decode cX4_covers 36 = .ok (.iconst 1, 1) := by decide +kernel
theorem dX4_covers_37 : decode cX4_covers 37 = .ok (.goto 4, 3) := by decide +kernel
theorem dX4_covers_40 : decode cX4_covers 40 = .ok (.iconst 0, 1) := by decide +kernel
theorem dX4_covers_41 : decode cX4_covers 41 = .ok (.istore_n 3, 1) := by decide +kernel
theorem dX4_covers_42 : decode cX4_covers 42 = .ok (.iinc 4 1, 3) := by decide +kernel
theorem dX4_covers_45 : decode cX4_covers 45 = .ok (.goto (-40), 3) := by decide +kernel
theorem dX4_covers_48 : decode cX4_covers 48 = .ok (.iload_n 3, 1) := by decide +kernel
theorem dX4_covers_49 : decode cX4_covers 49 = .ok (.ireturn, 1) := by decide +kernel
set_option maxRecDepth 20000 in
theorem ggX4_breachesOfRead_X4_covers : GoodIn wsX4_breachesOfRead wsX4_covers := goodIn_r _ [5, 6, 7, 8, 9, 10, 11, 12, 13, 14, 15, 16] (by decide +kernel) (by decide +kernel)
set_option maxRecDepth 20000 in
theorem gX4_breachesOfRead_X4_covers : GoodIn wsX4_breachesOfRead (wsV RX4 72 RX4 yX4_covers wsX4_covers) := goodIn_app (goodIn_of _ (by decide +kernel)) ggX4_breachesOfRead_X4_covers
theorem dX4_breachesOfRead_0 : decode cX4_breachesOfRead 0 = .ok (.sipush 313, 3) := by decide +kernel
theorem dX4_breachesOfRead_3 : decode cX4_breachesOfRead 3 = .ok (.bipush 7, 2) := by decide +kernel
theorem dX4_breachesOfRead_5 : decode cX4_breachesOfRead 5 = .ok (.iload_n 1, 1) := by decide +kernel
theorem dX4_breachesOfRead_6 : decode cX4_breachesOfRead 6 = .ok (.imul, 1) := by decide +kernel
theorem dX4_breachesOfRead_7 : decode cX4_breachesOfRead 7 = .ok (.iadd, 1) := by decide +kernel
theorem dX4_breachesOfRead_8 : decode cX4_breachesOfRead 8 = .ok (.istore_n 3, 1) := by decide +kernel
theorem dX4_breachesOfRead_9 : decode cX4_breachesOfRead 9 = .ok (.aload_n 0, 1) := by decide +kernel
theorem dX4_breachesOfRead_10 : decode cX4_breachesOfRead 10 = .ok (.iconst 3, 1) := by decide +kernel
theorem dX4_breachesOfRead_11 : decode cX4_breachesOfRead 11 = .ok (.iload_n 2, 1) := by decide +kernel
theorem dX4_breachesOfRead_12 : decode cX4_breachesOfRead 12 = .ok (.imul, 1) := by decide +kernel
theorem dX4_breachesOfRead_13 : decode cX4_breachesOfRead 13 = .ok (.iload_n 3, 1) := by decide +kernel
theorem dX4_breachesOfRead_14 : decode cX4_breachesOfRead 14 = .ok (.iconst 4, 1) := by decide +kernel
theorem dX4_breachesOfRead_15 : decode cX4_breachesOfRead 15 = .ok (.iadd, 1) := by decide +kernel
theorem dX4_breachesOfRead_16 : decode cX4_breachesOfRead 16 = .ok (.invokevirtual 72, 3) := by decide +kernel
theorem dX4_breachesOfRead_19 : decode cX4_breachesOfRead 19 = .ok (.ifCond .eq 7, 3) := by decide +kernel
theorem dX4_breachesOfRead_22 : decode cX4_breachesOfRead 22 = .ok (.iconst 0, 1) := by decide +kernel
theorem dX4_breachesOfRead_23 : decode cX4_breachesOfRead 23 = .ok (.goto 4, 3) := by decide +kernel
theorem dX4_breachesOfRead_26 : decode cX4_breachesOfRead 26 = .ok (.iconst 1, 1) := by decide +kernel
theorem dX4_breachesOfRead_27 : decode cX4_breachesOfRead 27 = .ok (.aload_n 0, 1) := by decide +kernel
theorem dX4_breachesOfRead_28 : decode cX4_breachesOfRead 28 = .ok (.iconst 3, 1) := by decide +kernel
theorem dX4_breachesOfRead_29 : decode cX4_breachesOfRead 29 = .ok (.iload_n 2, 1) := by decide +kernel
theorem dX4_breachesOfRead_30 : decode cX4_breachesOfRead 30 = .ok (.imul, 1) := by decide +kernel
theorem dX4_breachesOfRead_31 : decode cX4_breachesOfRead 31 = .ok (.iload_n 3, 1) := by decide +kernel
theorem dX4_breachesOfRead_32 : decode cX4_breachesOfRead 32 = .ok (.iconst 1, 1) := by decide +kernel
theorem dX4_breachesOfRead_33 : decode cX4_breachesOfRead 33 = .ok (.iadd, 1) := by decide +kernel
theorem dX4_breachesOfRead_34 : decode cX4_breachesOfRead 34 = .ok (.invokevirtual 72, 3) := by decide +kernel
theorem dX4_breachesOfRead_37 : decode cX4_breachesOfRead 37 = .ok (.ifCond .eq 7, 3) := by decide +kernel
theorem dX4_breachesOfRead_40 : decode cX4_breachesOfRead 40 = .ok (.iconst 0, 1) := by decide +kernel
theorem dX4_breachesOfRead_41 : decode cX4_breachesOfRead 41 = .ok (.goto 4, 3) := by decide +kernel
theorem dX4_breachesOfRead_44 : decode cX4_breachesOfRead 44 = .ok (.iconst 2, 1) := by decide +kernel
theorem dX4_breachesOfRead_45 : decode cX4_breachesOfRead 45 = .ok (.ior, 1) := by decide +kernel
theorem dX4_breachesOfRead_46 : decode cX4_breachesOfRead 46 = .ok (.ireturn, 1) := by decide +kernel
set_option maxRecDepth 20000 in
theorem ggX4_breachesOfWrite_X4_covers : GoodIn wsX4_breachesOfWrite wsX4_covers := goodIn_r _ [5, 6, 7, 8, 9, 10, 11, 12, 13, 14, 15, 16] (by decide +kernel) (by decide +kernel)
set_option maxRecDepth 20000 in
theorem gX4_breachesOfWrite_X4_covers : GoodIn wsX4_breachesOfWrite (wsV RX4 72 RX4 yX4_covers wsX4_covers) := goodIn_app (goodIn_of _ (by decide +kernel)) ggX4_breachesOfWrite_X4_covers
theorem dX4_breachesOfWrite_0 : decode cX4_breachesOfWrite 0 = .ok (.sipush 313, 3) := by decide +kernel
theorem dX4_breachesOfWrite_3 : decode cX4_breachesOfWrite 3 = .ok (.bipush 7, 2) := by decide +kernel
theorem dX4_breachesOfWrite_5 : decode cX4_breachesOfWrite 5 = .ok (.iload_n 1, 1) := by decide +kernel
theorem dX4_breachesOfWrite_6 : decode cX4_breachesOfWrite 6 = .ok (.imul, 1) := by decide +kernel
theorem dX4_breachesOfWrite_7 : decode cX4_breachesOfWrite 7 = .ok (.iadd, 1) := by decide +kernel
theorem dX4_breachesOfWrite_8 : decode cX4_breachesOfWrite 8 = .ok (.istore_n 3, 1) := by decide +kernel
theorem dX4_breachesOfWrite_9 : decode cX4_breachesOfWrite 9 = .ok (.aload_n 0, 1) := by decide +kernel
theorem dX4_breachesOfWrite_10 : decode cX4_breachesOfWrite 10 = .ok (.iconst 3, 1) := by decide +kernel
theorem dX4_breachesOfWrite_11 : decode cX4_breachesOfWrite 11 = .ok (.iload_n 2, 1) := by decide +kernel
theorem dX4_breachesOfWrite_12 : decode cX4_breachesOfWrite 12 = .ok (.imul, 1) := by decide +kernel
theorem dX4_breachesOfWrite_13 : decode cX4_breachesOfWrite 13 = .ok (.iload_n 3, 1) := by decide +kernel
theorem dX4_breachesOfWrite_14 : decode cX4_breachesOfWrite 14 = .ok (.iconst 1, 1) := by decide +kernel
theorem dX4_breachesOfWrite_15 : decode cX4_breachesOfWrite 15 = .ok (.iadd, 1) := by decide +kernel
theorem dX4_breachesOfWrite_16 : decode cX4_breachesOfWrite 16 = .ok (.invokevirtual 72, 3) := by decide +kernel
theorem dX4_breachesOfWrite_19 : decode cX4_breachesOfWrite 19 = .ok (.ifCond .eq 7, 3) := by decide +kernel
theorem dX4_breachesOfWrite_22 : decode cX4_breachesOfWrite 22 = .ok (.iconst 0, 1) := by decide +kernel
theorem dX4_breachesOfWrite_23 : decode cX4_breachesOfWrite 23 = .ok (.goto 4, 3) := by decide +kernel
theorem dX4_breachesOfWrite_26 : decode cX4_breachesOfWrite 26 = .ok (.iconst 4, 1) := by decide +kernel
theorem dX4_breachesOfWrite_27 : decode cX4_breachesOfWrite 27 = .ok (.aload_n 0, 1) := by decide +kernel
theorem dX4_breachesOfWrite_28 : decode cX4_breachesOfWrite 28 = .ok (.iconst 3, 1) := by decide +kernel
theorem dX4_breachesOfWrite_29 : decode cX4_breachesOfWrite 29 = .ok (.iload_n 2, 1) := by decide +kernel
theorem dX4_breachesOfWrite_30 : decode cX4_breachesOfWrite 30 = .ok (.imul, 1) := by decide +kernel
theorem dX4_breachesOfWrite_31 : decode cX4_breachesOfWrite 31 = .ok (.iload_n 3, 1) := by decide +kernel
theorem dX4_breachesOfWrite_32 : decode cX4_breachesOfWrite 32 = .ok (.iconst 4, 1) := by decide +kernel
theorem dX4_breachesOfWrite_33 : decode cX4_breachesOfWrite 33 = .ok (.iadd, 1) := by decide +kernel
theorem dX4_breachesOfWrite_34 : decode cX4_breachesOfWrite 34 = .ok (.invokevirtual 72, 3) := by decide +kernel
theorem dX4_breachesOfWrite_37 : decode cX4_breachesOfWrite 37 = .ok (.ifCond .eq 7, 3) := by decide +kernel
theorem dX4_breachesOfWrite_40 : decode cX4_breachesOfWrite 40 = .ok (.iconst 0, 1) := by decide +kernel
theorem dX4_breachesOfWrite_41 : decode cX4_breachesOfWrite 41 = .ok (.goto 5, 3) := by decide +kernel
theorem dX4_breachesOfWrite_44 : decode cX4_breachesOfWrite 44 = .ok (.bipush 8, 2) := by decide +kernel
theorem dX4_breachesOfWrite_46 : decode cX4_breachesOfWrite 46 = .ok (.ior, 1) := by decide +kernel
theorem dX4_breachesOfWrite_47 : decode cX4_breachesOfWrite 47 = .ok (.ireturn, 1) := by decide +kernel
theorem dX4_countsBreaches_0 : decode cX4_countsBreaches 0 = .ok (.iconst 0, 1) := by decide +kernel
theorem dX4_countsBreaches_1 : decode cX4_countsBreaches 1 = .ok (.istore_n 2, 1) := by decide +kernel
theorem dX4_countsBreaches_2 : decode cX4_countsBreaches 2 = .ok (.iload_n 2, 1) := by decide +kernel
theorem dX4_countsBreaches_3 : decode cX4_countsBreaches 3 = .ok (.iconst 4, 1) := by decide +kernel
theorem dX4_countsBreaches_4 : decode cX4_countsBreaches 4 = .ok (.if_icmp .ge 27, 3) := by decide +kernel
theorem dX4_countsBreaches_7 : decode cX4_countsBreaches 7 = .ok (.aload_n 0, 1) := by decide +kernel
theorem dX4_countsBreaches_8 : decode cX4_countsBreaches 8 = .ok (.getfield 7, 3) := by decide +kernel
theorem dX4_countsBreaches_11 : decode cX4_countsBreaches 11 = .ok (.sipush 341, 3) := by decide +kernel
theorem dX4_countsBreaches_14 : decode cX4_countsBreaches 14 = .ok (.iload_n 2, 1) := by decide +kernel
theorem dX4_countsBreaches_15 : decode cX4_countsBreaches 15 = .ok (.iadd, 1) := by decide +kernel
theorem dX4_countsBreaches_16 : decode cX4_countsBreaches 16 = .ok (.dup2, 1) := by decide +kernel
theorem dX4_countsBreaches_17 : decode cX4_countsBreaches 17 = .ok (.iaload, 1) := by decide +kernel
theorem dX4_countsBreaches_18 : decode cX4_countsBreaches 18 = .ok (.iload_n 1, 1) := by decide +kernel
theorem dX4_countsBreaches_19 : decode cX4_countsBreaches 19 = .ok (.iload_n 2, 1) := by decide +kernel
theorem dX4_countsBreaches_20 : decode cX4_countsBreaches 20 = .ok (.ishr, 1) := by decide +kernel
theorem dX4_countsBreaches_21 : decode cX4_countsBreaches 21 = .ok (.iconst 1, 1) := by decide +kernel
theorem dX4_countsBreaches_22 : decode cX4_countsBreaches 22 = .ok (.iand, 1) := by decide +kernel
theorem dX4_countsBreaches_23 : decode cX4_countsBreaches 23 = .ok (.iadd, 1) := by decide +kernel
theorem dX4_countsBreaches_24 : decode cX4_countsBreaches 24 = .ok (.iastore, 1) := by decide +kernel
theorem dX4_countsBreaches_25 : decode cX4_countsBreaches 25 = .ok (.iinc 2 1, 3) := by decide +kernel
theorem dX4_countsBreaches_28 : decode cX4_countsBreaches 28 = .ok (.goto (-26), 3) := by decide +kernel
theorem dX4_countsBreaches_31 : decode cX4_countsBreaches 31 = .ok (.return_, 1) := by decide +kernel
theorem dX4_isLater_0 : decode cX4_isLater 0 = .ok (.bipush 13, 2) := by decide +kernel
theorem dX4_isLater_2 : decode cX4_isLater 2 = .ok (.iconst 5, 1) := by decide +kernel
theorem dX4_isLater_3 : decode cX4_isLater 3 = .ok (.iload_n 1, 1) := by decide +kernel
theorem dX4_isLater_4 : decode cX4_isLater 4 = .ok (.imul, 1) := by decide +kernel
theorem dX4_isLater_5 : decode cX4_isLater 5 = .ok (.iadd, 1) := by decide +kernel
theorem dX4_isLater_6 : decode cX4_isLater 6 = .ok (.istore_n 3, 1) := by decide +kernel
theorem dX4_isLater_7 : decode cX4_isLater 7 = .ok (.bipush 13, 2) := by decide +kernel
theorem dX4_isLater_9 : decode cX4_isLater 9 = .ok (.iconst 5, 1) := by decide +kernel
theorem dX4_isLater_10 : decode cX4_isLater 10 = .ok (.iload_n 2, 1) := by decide +kernel
theorem dX4_isLater_11 : decode cX4_isLater 11 = .ok (.imul, 1) := by decide +kernel
theorem dX4_isLater_12 : decode cX4_isLater 12 = .ok (.iadd, 1) := by decide +kernel
theorem dX4_isLater_13 : decode cX4_isLater 13 = .ok (.istore 4, 2) := by decide +kernel
theorem dX4_isLater_15 : decode cX4_isLater 15 = .ok (.aload_n 0, 1) := by decide +kernel
theorem dX4_isLater_16 : decode cX4_isLater 16 = .ok (.getfield 7, 3) := by decide +kernel
theorem dX4_isLater_19 : decode cX4_isLater 19 = .ok (.iload_n 3, 1) := by decide +kernel
theorem dX4_isLater_20 : decode cX4_isLater 20 = .ok (.iconst 4, 1) := by decide +kernel
theorem dX4_isLater_21 : decode cX4_isLater 21 = .ok (.iadd, 1) := by decide +kernel
theorem dX4_isLater_22 : decode cX4_isLater 22 = .ok (.iaload, 1) := by decide +kernel
theorem dX4_isLater_23 : decode cX4_isLater 23 = .ok (.aload_n 0, 1) := by decide +kernel
theorem dX4_isLater_24 : decode cX4_isLater 24 = .ok (.getfield 7, 3) := by decide +kernel
theorem dX4_isLater_27 : decode cX4_isLater 27 = .ok (.iload 4, 2) := by decide +kernel
theorem dX4_isLater_29 : decode cX4_isLater 29 = .ok (.iconst 4, 1) := by decide +kernel
theorem dX4_isLater_30 : decode cX4_isLater 30 = .ok (.iadd, 1) := by decide +kernel
theorem dX4_isLater_31 : decode cX4_isLater 31 = .ok (.iaload, 1) := by decide +kernel
theorem dX4_isLater_32 : decode cX4_isLater 32 = .ok (.if_icmp .gt 39, 3) := by decide +kernel
theorem dX4_isLater_35 : decode cX4_isLater 35 = .ok (.aload_n 0, 1) := by decide +kernel
theorem dX4_isLater_36 : decode cX4_isLater 36 = .ok (.getfield 7, 3) := by decide +kernel
theorem dX4_isLater_39 : decode cX4_isLater 39 = .ok (.iload_n 3, 1) := by decide +kernel
theorem dX4_isLater_40 : decode cX4_isLater 40 = .ok (.iconst 4, 1) := by decide +kernel
theorem dX4_isLater_41 : decode cX4_isLater 41 = .ok (.iadd, 1) := by decide +kernel
theorem dX4_isLater_42 : decode cX4_isLater 42 = .ok (.iaload, 1) := by decide +kernel
theorem dX4_isLater_43 : decode cX4_isLater 43 = .ok (.aload_n 0, 1) := by decide +kernel
theorem dX4_isLater_44 : decode cX4_isLater 44 = .ok (.getfield 7, 3) := by decide +kernel
theorem dX4_isLater_47 : decode cX4_isLater 47 = .ok (.iload 4, 2) := by decide +kernel
theorem dX4_isLater_49 : decode cX4_isLater 49 = .ok (.iconst 4, 1) := by decide +kernel
theorem dX4_isLater_50 : decode cX4_isLater 50 = .ok (.iadd, 1) := by decide +kernel
theorem dX4_isLater_51 : decode cX4_isLater 51 = .ok (.iaload, 1) := by decide +kernel
theorem dX4_isLater_52 : decode cX4_isLater 52 = .ok (.if_icmp .ne 23, 3) := by decide +kernel
theorem dX4_isLater_55 : decode cX4_isLater 55 = .ok (.aload_n 0, 1) := by decide +kernel
theorem dX4_isLater_56 : decode cX4_isLater 56 = .ok (.getfield 7, 3) := by decide +kernel
theorem dX4_isLater_59 : decode cX4_isLater 59 = .ok (.iload_n 3, 1) := by decide +kernel
theorem dX4_isLater_60 : decode cX4_isLater 60 = .ok (.iaload, 1) := by decide +kernel
theorem dX4_isLater_61 : decode cX4_isLater 61 = .ok (.aload_n 0, 1) := by decide +kernel
theorem dX4_isLater_62 : decode cX4_isLater 62 = .ok (.getfield 7, 3) := by decide +kernel
theorem dX4_isLater_65 : decode cX4_isLater 65 = .ok (.iload 4, 2) := by decide +kernel
theorem dX4_isLater_67 : decode cX4_isLater 67 = .ok (.iaload, 1) := by decide +kernel
theorem dX4_isLater_68 : decode cX4_isLater 68 = .ok (.if_icmp .le 7, 3) := by decide +kernel
theorem dX4_isLater_71 : decode cX4_isLater 71 = .ok (.iconst 1, 1) := by decide +kernel
theorem dX4_isLater_72 : decode cX4_isLater 72 = .ok (.goto 4, 3) := by decide +kernel
theorem dX4_isLater_75 : decode cX4_isLater 75 = .ok (.iconst 0, 1) := by decide +kernel
theorem dX4_isLater_76 : decode cX4_isLater 76 = .ok (.ireturn, 1) := by decide +kernel
set_option maxRecDepth 20000 in
theorem ggX4_valueAt_X4_isLater : GoodIn wsX4_valueAt wsX4_isLater := goodIn_r _ [6, 1, 7, 8, 9, 10, 11, 12, 13, 14, 15, 16] (by decide +kernel) (by decide +kernel)
set_option maxRecDepth 20000 in
theorem gX4_valueAt_X4_isLater : GoodIn wsX4_valueAt (wsV RX4 76 RX4 yX4_isLater wsX4_isLater) := goodIn_app (goodIn_of _ (by decide +kernel)) ggX4_valueAt_X4_isLater
theorem dX4_valueAt_0 : decode cX4_valueAt 0 = .ok (.iconst (-1), 1) := by decide +kernel
theorem dX4_valueAt_1 : decode cX4_valueAt 1 = .ok (.istore_n 3, 1) := by decide +kernel
theorem dX4_valueAt_2 : decode cX4_valueAt 2 = .ok (.iconst 0, 1) := by decide +kernel
theorem dX4_valueAt_3 : decode cX4_valueAt 3 = .ok (.istore 4, 2) := by decide +kernel
theorem dX4_valueAt_5 : decode cX4_valueAt 5 = .ok (.iload 4, 2) := by decide +kernel
theorem dX4_valueAt_7 : decode cX4_valueAt 7 = .ok (.aload_n 0, 1) := by decide +kernel
theorem dX4_valueAt_8 : decode cX4_valueAt 8 = .ok (.getfield 7, 3) := by decide +kernel
theorem dX4_valueAt_11 : decode cX4_valueAt 11 = .ok (.bipush 12, 2) := by decide +kernel
theorem dX4_valueAt_13 : decode cX4_valueAt 13 = .ok (.iaload, 1) := by decide +kernel
theorem dX4_valueAt_14 : decode cX4_valueAt 14 = .ok (.if_icmp .ge 89, 3) := by decide +kernel
theorem dX4_valueAt_17 : decode cX4_valueAt 17 = .ok (.bipush 13, 2) := by decide +kernel
theorem dX4_valueAt_19 : decode cX4_valueAt 19 = .ok (.iconst 5, 1) := by decide +kernel
theorem dX4_valueAt_20 : decode cX4_valueAt 20 = .ok (.iload 4, 2) := by decide +kernel
theorem dX4_valueAt_22 : decode cX4_valueAt 22 = .ok (.imul, 1) := by decide +kernel
theorem dX4_valueAt_23 : decode cX4_valueAt 23 = .ok (.iadd, 1) := by decide +kernel
theorem dX4_valueAt_24 : decode cX4_valueAt 24 = .ok (.istore 5, 2) := by decide +kernel
theorem dX4_valueAt_26 : decode cX4_valueAt 26 = .ok (.aload_n 0, 1) := by decide +kernel
theorem dX4_valueAt_27 : decode cX4_valueAt 27 = .ok (.getfield 7, 3) := by decide +kernel
theorem dX4_valueAt_30 : decode cX4_valueAt 30 = .ok (.iload 5, 2) := by decide +kernel
theorem dX4_valueAt_32 : decode cX4_valueAt 32 = .ok (.iconst 1, 1) := by decide +kernel
theorem dX4_valueAt_33 : decode cX4_valueAt 33 = .ok (.iadd, 1) := by decide +kernel
theorem dX4_valueAt_34 : decode cX4_valueAt 34 = .ok (.iaload, 1) := by decide +kernel
theorem dX4_valueAt_35 : decode cX4_valueAt 35 = .ok (.aload_n 0, 1) := by decide +kernel
theorem dX4_valueAt_36 : decode cX4_valueAt 36 = .ok (.getfield 7, 3) := by decide +kernel
theorem dX4_valueAt_39 : decode cX4_valueAt 39 = .ok (.iconst 3, 1) := by decide +kernel
theorem dX4_valueAt_40 : decode cX4_valueAt 40 = .ok (.iload_n 1, 1) := by decide +kernel
theorem dX4_valueAt_41 : decode cX4_valueAt 41 = .ok (.imul, 1) := by decide +kernel
theorem dX4_valueAt_42 : decode cX4_valueAt 42 = .ok (.aload_n 0, 1) := by decide +kernel
theorem dX4_valueAt_43 : decode cX4_valueAt 43 = .ok (.getfield 7, 3) := by decide +kernel
theorem dX4_valueAt_46 : decode cX4_valueAt 46 = .ok (.iload 5, 2) := by decide +kernel
theorem dX4_valueAt_48 : decode cX4_valueAt 48 = .ok (.iaload, 1) := by decide +kernel
theorem dX4_valueAt_49 : decode cX4_valueAt 49 = .ok (.iadd, 1) := by decide +kernel
theorem dX4_valueAt_50 : decode cX4_valueAt 50 = .ok (.iaload, 1) := by decide +kernel
theorem dX4_valueAt_51 : decode cX4_valueAt 51 = .ok (.if_icmp .gt 7, 3) := by decide +kernel
theorem dX4_valueAt_54 : decode cX4_valueAt 54 = .ok (.iconst 1, 1) := by decide +kernel
theorem dX4_valueAt_55 : decode cX4_valueAt 55 = .ok (.goto 4, 3) := by decide +kernel
theorem dX4_valueAt_58 : decode cX4_valueAt 58 = .ok (.iconst 0, 1) := by decide +kernel
theorem dX4_valueAt_59 : decode cX4_valueAt 59 = .ok (.istore 6, 2) := by decide +kernel
theorem dX4_valueAt_61 : decode cX4_valueAt 61 = .ok (.iload 6, 2) := by decide +kernel
theorem dX4_valueAt_63 : decode cX4_valueAt 63 = .ok (.ifCond .eq 34, 3) := by decide +kernel
theorem dX4_valueAt_66 : decode cX4_valueAt 66 = .ok (.aload_n 0, 1) := by decide +kernel
theorem dX4_valueAt_67 : decode cX4_valueAt 67 = .ok (.getfield 7, 3) := by decide +kernel
theorem dX4_valueAt_70 : decode cX4_valueAt 70 = .ok (.iload 5, 2) := by decide +kernel
theorem dX4_valueAt_72 : decode cX4_valueAt 72 = .ok (.iconst 2, 1) := by decide +kernel
theorem dX4_valueAt_73 : decode cX4_valueAt 73 = .ok (.iadd, 1) := by decide +kernel
theorem dX4_valueAt_74 : decode cX4_valueAt 74 = .ok (.iaload, 1) := by decide +kernel
theorem dX4_valueAt_75 : decode cX4_valueAt 75 = .ok (.iload_n 2, 1) := by decide +kernel
theorem dX4_valueAt_76 : decode cX4_valueAt 76 = .ok (.if_icmp .ne 21, 3) := by decide +kernel
theorem dX4_valueAt_79 : decode cX4_valueAt 79 = .ok (.iload_n 3, 1) := by decide +kernel
theorem dX4_valueAt_80 : decode cX4_valueAt 80 = .ok (.iconst (-1), 1) := by decide +kernel
theorem dX4_valueAt_81 : decode cX4_valueAt 81 = .ok (.if_icmp .eq 13, 3) := by decide +kernel
theorem dX4_valueAt_84 : decode cX4_valueAt 84 = .ok (.aload_n 0, 1) := by decide +kernel
theorem dX4_valueAt_85 : decode cX4_valueAt 85 = .ok (.iload 4, 2) := by decide +kernel
theorem dX4_valueAt_87 : decode cX4_valueAt 87 = .ok (.iload_n 3, 1) := by decide +kernel
theorem dX4_valueAt_88 : decode cX4_valueAt 88 = .ok (.invokevirtual 76, 3) := by decide +kernel
theorem dX4_valueAt_91 : decode cX4_valueAt 91 = .ok (.ifCond .eq 6, 3) := by decide +kernel
theorem dX4_valueAt_94 : decode cX4_valueAt 94 = .ok (.iload 4, 2) := by decide +kernel
theorem dX4_valueAt_96 : decode cX4_valueAt 96 = .ok (.istore_n 3, 1) := by decide +kernel
theorem dX4_valueAt_97 : decode cX4_valueAt 97 = .ok (.iinc 4 1, 3) := by decide +kernel
theorem dX4_valueAt_100 : decode cX4_valueAt 100 = .ok (.goto (-95), 3) := by decide +kernel
theorem dX4_valueAt_103 : decode cX4_valueAt 103 = .ok (.iload_n 3, 1) := by decide +kernel
theorem dX4_valueAt_104 : decode cX4_valueAt 104 = .ok (.iconst (-1), 1) := by decide +kernel
theorem dX4_valueAt_105 : decode cX4_valueAt 105 = .ok (.if_icmp .ne 8, 3) := by decide +kernel
theorem dX4_valueAt_108 : decode cX4_valueAt 108 = .ok (.bipush 100, 2) := by decide +kernel
theorem dX4_valueAt_110 : decode cX4_valueAt 110 = .ok (.goto 16, 3) := by decide +kernel
theorem dX4_valueAt_113 : decode cX4_valueAt 113 = .ok (.aload_n 0, 1) := by decide +kernel
theorem dX4_valueAt_114 : decode cX4_valueAt 114 = .ok (.getfield 7, 3) := by decide +kernel
theorem dX4_valueAt_117 : decode cX4_valueAt 117 = .ok (.bipush 13, 2) := by decide +kernel
theorem dX4_valueAt_119 : decode cX4_valueAt 119 = .ok (.iconst 5, 1) := by decide +kernel
theorem dX4_valueAt_120 : decode cX4_valueAt 120 = .ok (.iload_n 3, 1) := by decide +kernel
theorem dX4_valueAt_121 : decode cX4_valueAt 121 = .ok (.imul, 1) := by decide +kernel
theorem dX4_valueAt_122 : decode cX4_valueAt 122 = .ok (.iadd, 1) := by decide +kernel
theorem dX4_valueAt_123 : decode cX4_valueAt 123 = .ok (.iconst 3, 1) := by decide +kernel
theorem dX4_valueAt_124 : decode cX4_valueAt 124 = .ok (.iadd, 1) := by decide +kernel
theorem dX4_valueAt_125 : decode cX4_valueAt 125 = .ok (.iaload, 1) := by decide +kernel
theorem dX4_valueAt_126 : decode cX4_valueAt 126 = .ok (.ireturn, 1) := by decide +kernel
set_option maxRecDepth 20000 in
theorem ggX4_doesRead_X4_isClient : GoodIn wsX4_doesRead wsX4_isClient := goodIn_r _ [5, 6, 7, 8, 4, 9] (by decide +kernel) (by decide +kernel)
set_option maxRecDepth 20000 in
theorem gX4_doesRead_X4_isClient : GoodIn wsX4_doesRead (va_wsS RX4 47 yX4_isClient wsX4_isClient) := goodIn_app (goodIn_of _ (by decide +kernel)) ggX4_doesRead_X4_isClient
set_option maxRecDepth 20000 in
theorem ggX4_doesRead_X4_isReplica : GoodIn wsX4_doesRead wsX4_isReplica := goodIn_r _ [12, 13, 7, 8, 4, 9] (by decide +kernel) (by decide +kernel)
set_option maxRecDepth 20000 in
theorem gX4_doesRead_X4_isReplica : GoodIn wsX4_doesRead (va_wsS RX4 69 yX4_isReplica wsX4_isReplica) := goodIn_app (goodIn_of _ (by decide +kernel)) ggX4_doesRead_X4_isReplica
set_option maxRecDepth 20000 in
theorem ggX4_doesRead_X4_isKey : GoodIn wsX4_doesRead wsX4_isKey := goodIn_r _ [16, 6, 7, 8, 4, 9] (by decide +kernel) (by decide +kernel)
set_option maxRecDepth 20000 in
theorem gX4_doesRead_X4_isKey : GoodIn wsX4_doesRead (va_wsS RX4 79 yX4_isKey wsX4_isKey) := goodIn_app (goodIn_of _ (by decide +kernel)) ggX4_doesRead_X4_isKey
set_option maxRecDepth 20000 in
theorem ggX4_doesRead_X4_breachesOfRead : GoodIn wsX4_doesRead wsX4_breachesOfRead := goodIn_r _ [20, 21, 22, 23, 4, 24, 1, 41, 42, 43, 44, 45, 46, 47, 48, 49, 50] (by decide +kernel) (by decide +kernel)
set_option maxRecDepth 20000 in
theorem gX4_doesRead_X4_breachesOfRead : GoodIn wsX4_doesRead (wsV RX4 82 RX4 yX4_breachesOfRead wsX4_breachesOfRead) := goodIn_app (goodIn_of _ (by decide +kernel)) ggX4_doesRead_X4_breachesOfRead
set_option maxRecDepth 20000 in
theorem ggX4_doesRead_X4_guarantees : GoodIn wsX4_doesRead wsX4_guarantees := goodIn_r _ [28, 1, 41, 42, 43, 44, 45, 46, 47, 48, 49, 50] (by decide +kernel) (by decide +kernel)
set_option maxRecDepth 20000 in
theorem gX4_doesRead_X4_guarantees : GoodIn wsX4_doesRead (wsV RX4 53 RX4 yX4_guarantees wsX4_guarantees) := goodIn_app (goodIn_of _ (by decide +kernel)) ggX4_doesRead_X4_guarantees
set_option maxRecDepth 20000 in
theorem ggX4_doesRead_X4_countsBreaches : GoodIn wsX4_doesRead wsX4_countsBreaches := goodIn_r _ [32, 1, 41, 42, 43, 44, 45, 46, 47, 48, 49, 50] (by decide +kernel) (by decide +kernel)
set_option maxRecDepth 20000 in
theorem gX4_doesRead_X4_countsBreaches : GoodIn wsX4_doesRead (wsV RX4 85 RX4 yX4_countsBreaches wsX4_countsBreaches) := goodIn_app (goodIn_of _ (by decide +kernel)) ggX4_doesRead_X4_countsBreaches
set_option maxRecDepth 20000 in
theorem ggX4_doesRead_X4_valueAt : GoodIn wsX4_doesRead wsX4_valueAt := goodIn_r _ [36, 1, 37, 38, 39, 4, 40, 41, 42, 43, 44, 45, 46, 47, 48, 49, 50] (by decide +kernel) (by decide +kernel)
set_option maxRecDepth 20000 in
theorem gX4_doesRead_X4_valueAt : GoodIn wsX4_doesRead (wsV RX4 89 RX4 yX4_valueAt wsX4_valueAt) := goodIn_app (goodIn_of _ (by decide +kernel)) ggX4_doesRead_X4_valueAt
theorem dX4_doesRead_0 : decode cX4_doesRead 0 = .ok (.iload_n 1, 1) := by decide +kernel
theorem dX4_doesRead_1 : decode cX4_doesRead 1 = .ok (.invokestatic 47, 3) := by decide +kernel
theorem dX4_doesRead_4 : decode cX4_doesRead 4 = .ok (.ifCond .eq 17, 3) := by decide +kernel
theorem dX4_doesRead_7 : decode cX4_doesRead 7 = .ok (.iload_n 2, 1) := by decide +kernel
theorem dX4_doesRead_8 : decode cX4_doesRead 8 = .ok (.invokestatic 69, 3) := by decide +kernel
theorem dX4_doesRead_11 : decode cX4_doesRead 11 = .ok (.ifCond .eq 10, 3) := by decide +kernel
theorem dX4_doesRead_14 : decode cX4_doesRead 14 = .ok (.iload_n 3, 1) := by decide +kernel
theorem dX4_doesRead_15 : decode cX4_doesRead 15 = .ok (.invokestatic 79, 3) := by decide +kernel
theorem dX4_doesRead_18 : decode cX4_doesRead 18 = .ok (.ifCond .ne 6, 3) := by decide +kernel
theorem dX4_doesRead_21 : decode cX4_doesRead 21 = .ok (.bipush (-2), 2) := by decide +kernel
theorem dX4_doesRead_23 : decode cX4_doesRead 23 = .ok (.ireturn, 1) := by decide +kernel
theorem dX4_doesRead_24 : decode cX4_doesRead 24 = .ok (.aload_n 0, 1) := by decide +kernel
theorem dX4_doesRead_25 : decode cX4_doesRead 25 = .ok (.iload_n 1, 1) := by decide +kernel
theorem dX4_doesRead_26 : decode cX4_doesRead 26 = .ok (.iload_n 2, 1) := by decide +kernel
theorem dX4_doesRead_27 : decode cX4_doesRead 27 = .ok (.invokevirtual 82, 3) := by decide +kernel
theorem dX4_doesRead_30 : decode cX4_doesRead 30 = .ok (.istore 4, 2) := by decide +kernel
theorem dX4_doesRead_32 : decode cX4_doesRead 32 = .ok (.iload 4, 2) := by decide +kernel
theorem dX4_doesRead_34 : decode cX4_doesRead 34 = .ok (.aload_n 0, 1) := by decide +kernel
theorem dX4_doesRead_35 : decode cX4_doesRead 35 = .ok (.iload_n 1, 1) := by decide +kernel
theorem dX4_doesRead_36 : decode cX4_doesRead 36 = .ok (.invokevirtual 53, 3) := by decide +kernel
theorem dX4_doesRead_39 : decode cX4_doesRead 39 = .ok (.iand, 1) := by decide +kernel
theorem dX4_doesRead_40 : decode cX4_doesRead 40 = .ok (.ifCond .eq 6, 3) := by decide +kernel
theorem dX4_doesRead_43 : decode cX4_doesRead 43 = .ok (.bipush (-3), 2) := by decide +kernel
theorem dX4_doesRead_45 : decode cX4_doesRead 45 = .ok (.ireturn, 1) := by decide +kernel
theorem dX4_doesRead_46 : decode cX4_doesRead 46 = .ok (.aload_n 0, 1) := by decide +kernel
theorem dX4_doesRead_47 : decode cX4_doesRead 47 = .ok (.iload 4, 2) := by decide +kernel
theorem dX4_doesRead_49 : decode cX4_doesRead 49 = .ok (.invokevirtual 85, 3) := by decide +kernel
theorem dX4_doesRead_52 : decode cX4_doesRead 52 = .ok (.sipush 313, 3) := by decide +kernel
theorem dX4_doesRead_55 : decode cX4_doesRead 55 = .ok (.bipush 7, 2) := by decide +kernel
theorem dX4_doesRead_57 : decode cX4_doesRead 57 = .ok (.iload_n 1, 1) := by decide +kernel
theorem dX4_doesRead_58 : decode cX4_doesRead 58 = .ok (.imul, 1) := by decide +kernel
theorem dX4_doesRead_59 : decode cX4_doesRead 59 = .ok (.iadd, 1) := by decide +kernel
theorem dX4_doesRead_60 : decode cX4_doesRead 60 = .ok (.iconst 1, 1) := by decide +kernel
theorem dX4_doesRead_61 : decode cX4_doesRead 61 = .ok (.iadd, 1) := by decide +kernel
theorem dX4_doesRead_62 : decode cX4_doesRead 62 = .ok (.istore 5, 2) := by decide +kernel
theorem dX4_doesRead_64 : decode cX4_doesRead 64 = .ok (.iconst 0, 1) := by decide +kernel
theorem dX4_doesRead_65 : decode cX4_doesRead 65 = .ok (.istore 6, 2) := by decide +kernel
theorem dX4_doesRead_67 : decode cX4_doesRead 67 = .ok (.iload 6, 2) := by decide +kernel
theorem dX4_doesRead_69 : decode cX4_doesRead 69 = .ok (.iconst 3, 1) := by decide +kernel
theorem dX4_doesRead_70 : decode cX4_doesRead 70 = .ok (.if_icmp .ge 62, 3) := by decide +kernel
theorem dX4_doesRead_73 : decode cX4_doesRead 73 = .ok (.aload_n 0, 1) := by decide +kernel
theorem dX4_doesRead_74 : decode cX4_doesRead 74 = .ok (.getfield 7, 3) := by decide +kernel
theorem dX4_doesRead_77 : decode cX4_doesRead 77 = .ok (.iconst 3, 1) := by decide +kernel
theorem dX4_doesRead_78 : decode cX4_doesRead 78 = .ok (.iload_n 2, 1) := by decide +kernel
theorem dX4_doesRead_79 : decode cX4_doesRead 79 = .ok (.imul, 1) := by decide +kernel
theorem dX4_doesRead_80 : decode cX4_doesRead 80 = .ok (.iload 6, 2) := by decide +kernel
theorem dX4_doesRead_82 : decode cX4_doesRead 82 = .ok (.iadd, 1) := by decide +kernel
theorem dX4_doesRead_83 : decode cX4_doesRead 83 = .ok (.iaload, 1) := by decide +kernel
theorem dX4_doesRead_84 : decode cX4_doesRead 84 = .ok (.istore 7, 2) := by decide +kernel
theorem dX4_doesRead_86 : decode cX4_doesRead 86 = .ok (.aload_n 0, 1) := by decide +kernel
theorem dX4_doesRead_87 : decode cX4_doesRead 87 = .ok (.getfield 7, 3) := by decide +kernel
theorem dX4_doesRead_90 : decode cX4_doesRead 90 = .ok (.iload 5, 2) := by decide +kernel
theorem dX4_doesRead_92 : decode cX4_doesRead 92 = .ok (.iload 6, 2) := by decide +kernel
theorem dX4_doesRead_94 : decode cX4_doesRead 94 = .ok (.iadd, 1) := by decide +kernel
theorem dX4_doesRead_95 : decode cX4_doesRead 95 = .ok (.iload 7, 2) := by decide +kernel
theorem dX4_doesRead_97 : decode cX4_doesRead 97 = .ok (.aload_n 0, 1) := by decide +kernel
theorem dX4_doesRead_98 : decode cX4_doesRead 98 = .ok (.getfield 7, 3) := by decide +kernel
theorem dX4_doesRead_101 : decode cX4_doesRead 101 = .ok (.iload 5, 2) := by decide +kernel
theorem dX4_doesRead_103 : decode cX4_doesRead 103 = .ok (.iload 6, 2) := by decide +kernel
theorem dX4_doesRead_105 : decode cX4_doesRead 105 = .ok (.iadd, 1) := by decide +kernel
theorem dX4_doesRead_106 : decode cX4_doesRead 106 = .ok (.iaload, 1) := by decide +kernel
theorem dX4_doesRead_107 : decode cX4_doesRead 107 = .ok (.if_icmp .le 8, 3) := by decide +kernel
theorem dX4_doesRead_110 : decode cX4_doesRead 110 = .ok (.iload 7, 2) := by decide +kernel
theorem dX4_doesRead_112 : decode cX4_doesRead 112 = .ok (.goto 13, 3) := by decide +kernel
theorem dX4_doesRead_115 : decode cX4_doesRead 115 = .ok (.aload_n 0, 1) := by decide +kernel
theorem dX4_doesRead_116 : decode cX4_doesRead 116 = .ok (.getfield 7, 3) := by decide +kernel
theorem dX4_doesRead_119 : decode cX4_doesRead 119 = .ok (.iload 5, 2) := by decide +kernel
theorem dX4_doesRead_121 : decode cX4_doesRead 121 = .ok (.iload 6, 2) := by decide +kernel
theorem dX4_doesRead_123 : decode cX4_doesRead 123 = .ok (.iadd, 1) := by decide +kernel
theorem dX4_doesRead_124 : decode cX4_doesRead 124 = .ok (.iaload, 1) := by decide +kernel
theorem dX4_doesRead_125 : decode cX4_doesRead 125 = .ok (.iastore, 1) := by decide +kernel
theorem dX4_doesRead_126 : decode cX4_doesRead 126 = .ok (.iinc 6 1, 3) := by decide +kernel
theorem dX4_doesRead_129 : decode cX4_doesRead 129 = .ok (.goto (-62), 3) := by decide +kernel
theorem dX4_doesRead_132 : decode cX4_doesRead 132 = .ok (.aload_n 0, 1) := by decide +kernel
theorem dX4_doesRead_133 : decode cX4_doesRead 133 = .ok (.iload_n 2, 1) := by decide +kernel
theorem dX4_doesRead_134 : decode cX4_doesRead 134 = .ok (.iload_n 3, 1) := by decide +kernel
theorem dX4_doesRead_135 : decode cX4_doesRead 135 = .ok (.invokevirtual 89, 3) := by decide +kernel
theorem dX4_doesRead_138 : decode cX4_doesRead 138 = .ok (.ireturn, 1) := by decide +kernel
set_option maxRecDepth 20000 in
theorem ggX4_read_X4_putsAside : GoodIn wsX4_read wsX4_putsAside := goodIn_r _ [5, 6, 7, 65, 66, 67, 68, 69, 70, 71, 72, 73, 74] (by decide +kernel) (by decide +kernel)
set_option maxRecDepth 20000 in
theorem gX4_read_X4_putsAside : GoodIn wsX4_read (wsV RX4 56 RX4 yX4_putsAside wsX4_putsAside) := goodIn_app (goodIn_of _ (by decide +kernel)) ggX4_read_X4_putsAside
set_option maxRecDepth 20000 in
theorem ggX4_read_X4_doesRead : GoodIn wsX4_read wsX4_doesRead := goodIn_r _ [11, 7, 12, 13, 4, 14, 15, 16, 17, 18, 19, 20, 21, 22, 23, 24, 25, 26, 27, 28, 29, 30, 31, 32, 33, 34, 35, 36, 37, 38, 39, 40, 41, 42, 43, 44, 45, 46, 47, 48, 49, 65, 66, 67, 68, 69, 70, 71, 72, 73, 74] (by decide +kernel) (by decide +kernel)
set_option maxRecDepth 20000 in
theorem gX4_read_X4_doesRead : GoodIn wsX4_read (wsV RX4 92 RX4 yX4_doesRead wsX4_doesRead) := goodIn_app (goodIn_of _ (by decide +kernel)) ggX4_read_X4_doesRead
set_option maxRecDepth 20000 in
theorem ggX4_read_X4_answered : GoodIn wsX4_read wsX4_answered := goodIn_r _ [53, 54, 55, 56, 4, 57, 58, 59, 60, 61, 62, 63, 64, 6, 65, 66, 67, 68, 69, 70, 71, 72, 73, 74] (by decide +kernel) (by decide +kernel)
set_option maxRecDepth 20000 in
theorem gX4_read_X4_answered : GoodIn wsX4_read (wsV RX4 63 RX4 yX4_answered wsX4_answered) := goodIn_app (goodIn_of _ (by decide +kernel)) ggX4_read_X4_answered
theorem dX4_read_0 : decode cX4_read 0 = .ok (.aload_n 0, 1) := by decide +kernel
theorem dX4_read_1 : decode cX4_read 1 = .ok (.invokevirtual 56, 3) := by decide +kernel
theorem dX4_read_4 : decode cX4_read 4 = .ok (.aload_n 0, 1) := by decide +kernel
theorem dX4_read_5 : decode cX4_read 5 = .ok (.aload_n 0, 1) := by decide +kernel
theorem dX4_read_6 : decode cX4_read 6 = .ok (.iload_n 1, 1) := by decide +kernel
theorem dX4_read_7 : decode cX4_read 7 = .ok (.iload_n 2, 1) := by decide +kernel
theorem dX4_read_8 : decode cX4_read 8 = .ok (.iload_n 3, 1) := by decide +kernel
theorem dX4_read_9 : decode cX4_read 9 = .ok (.invokevirtual 92, 3) := by decide +kernel
theorem dX4_read_12 : decode cX4_read 12 = .ok (.invokevirtual 63, 3) := by decide +kernel
theorem dX4_read_15 : decode cX4_read 15 = .ok (.ireturn, 1) := by decide +kernel
set_option maxRecDepth 20000 in
theorem ggX4_doesWrite_X4_isClient : GoodIn wsX4_doesWrite wsX4_isClient := goodIn_r _ [6, 7, 8, 9, 5, 10] (by decide +kernel) (by decide +kernel)
set_option maxRecDepth 20000 in
theorem gX4_doesWrite_X4_isClient : GoodIn wsX4_doesWrite (va_wsS RX4 47 yX4_isClient wsX4_isClient) := goodIn_app (goodIn_of _ (by decide +kernel)) ggX4_doesWrite_X4_isClient
set_option maxRecDepth 20000 in
theorem ggX4_doesWrite_X4_isReplica : GoodIn wsX4_doesWrite wsX4_isReplica := goodIn_r _ [13, 14, 8, 9, 5, 10] (by decide +kernel) (by decide +kernel)
set_option maxRecDepth 20000 in
theorem gX4_doesWrite_X4_isReplica : GoodIn wsX4_doesWrite (va_wsS RX4 69 yX4_isReplica wsX4_isReplica) := goodIn_app (goodIn_of _ (by decide +kernel)) ggX4_doesWrite_X4_isReplica
set_option maxRecDepth 20000 in
theorem ggX4_doesWrite_X4_isKey : GoodIn wsX4_doesWrite wsX4_isKey := goodIn_r _ [17, 7, 8, 9, 5, 10] (by decide +kernel) (by decide +kernel)
set_option maxRecDepth 20000 in
theorem gX4_doesWrite_X4_isKey : GoodIn wsX4_doesWrite (va_wsS RX4 79 yX4_isKey wsX4_isKey) := goodIn_app (goodIn_of _ (by decide +kernel)) ggX4_doesWrite_X4_isKey
set_option maxRecDepth 20000 in
theorem ggX4_doesWrite_X4_in : GoodIn wsX4_doesWrite wsX4_in := goodIn_r _ [10] (by decide +kernel) (by decide +kernel)
set_option maxRecDepth 20000 in
theorem gX4_doesWrite_X4_in : GoodIn wsX4_doesWrite (va_wsS RX4 41 yX4_in wsX4_in) := goodIn_app (goodIn_of _ (by decide +kernel)) ggX4_doesWrite_X4_in
set_option maxRecDepth 20000 in
theorem ggX4_doesWrite_X4_breachesOfWrite : GoodIn wsX4_doesWrite wsX4_breachesOfWrite := goodIn_r _ [21, 22, 23, 24, 5, 25, 2, 34, 35, 36, 37, 38, 39, 40, 41, 42, 43] (by decide +kernel) (by decide +kernel)
set_option maxRecDepth 20000 in
theorem gX4_doesWrite_X4_breachesOfWrite : GoodIn wsX4_doesWrite (wsV RX4 98 RX4 yX4_breachesOfWrite wsX4_breachesOfWrite) := goodIn_app (goodIn_of _ (by decide +kernel)) ggX4_doesWrite_X4_breachesOfWrite
set_option maxRecDepth 20000 in
theorem ggX4_doesWrite_X4_guarantees : GoodIn wsX4_doesWrite wsX4_guarantees := goodIn_r _ [29, 2, 34, 35, 36, 37, 38, 39, 40, 41, 42, 43] (by decide +kernel) (by decide +kernel)
set_option maxRecDepth 20000 in
theorem gX4_doesWrite_X4_guarantees : GoodIn wsX4_doesWrite (wsV RX4 53 RX4 yX4_guarantees wsX4_guarantees) := goodIn_app (goodIn_of _ (by decide +kernel)) ggX4_doesWrite_X4_guarantees
set_option maxRecDepth 20000 in
theorem ggX4_doesWrite_X4_countsBreaches : GoodIn wsX4_doesWrite wsX4_countsBreaches := goodIn_r _ [33, 2, 34, 35, 36, 37, 38, 39, 40, 41, 42, 43] (by decide +kernel) (by decide +kernel)
set_option maxRecDepth 20000 in
theorem gX4_doesWrite_X4_countsBreaches : GoodIn wsX4_doesWrite (wsV RX4 85 RX4 yX4_countsBreaches wsX4_countsBreaches) := goodIn_app (goodIn_of _ (by decide +kernel)) ggX4_doesWrite_X4_countsBreaches
theorem dX4_doesWrite_0 : decode cX4_doesWrite 0 = .ok (.iload_n 1, 1) := by decide +kernel
theorem dX4_doesWrite_1 : decode cX4_doesWrite 1 = .ok (.invokestatic 47, 3) := by decide +kernel
theorem dX4_doesWrite_4 : decode cX4_doesWrite 4 = .ok (.ifCond .eq 30, 3) := by decide +kernel
theorem dX4_doesWrite_7 : decode cX4_doesWrite 7 = .ok (.iload_n 2, 1) := by decide +kernel
theorem dX4_doesWrite_8 : decode cX4_doesWrite 8 = .ok (.invokestatic 69, 3) := by decide +kernel
theorem dX4_doesWrite_11 : decode cX4_doesWrite 11 = .ok (.ifCond .eq 23, 3) := by decide +kernel
theorem dX4_doesWrite_14 : decode cX4_doesWrite 14 = .ok (.iload_n 3, 1) := by decide +kernel
theorem dX4_doesWrite_15 : decode cX4_doesWrite 15 = .ok (.invokestatic 79, 3) := by decide +kernel
theorem dX4_doesWrite_18 : decode cX4_doesWrite 18 = .ok (.ifCond .eq 16, 3) := by decide +kernel
theorem dX4_doesWrite_21 : decode cX4_doesWrite 21 = .ok (.iload 4, 2) := by decide +kernel
theorem dX4_doesWrite_23 : decode cX4_doesWrite 23 = .ok (.i2l, 1) := by decide +kernel
theorem dX4_doesWrite_24 : decode cX4_doesWrite 24 = .ok (.lconst 0, 1) := by decide +kernel
theorem dX4_doesWrite_25 : decode cX4_doesWrite 25 = .ok (.ldc2_w 96, 3) := by decide +kernel
theorem dX4_doesWrite_28 : decode cX4_doesWrite 28 = .ok (.invokestatic 41, 3) := by decide +kernel
theorem dX4_doesWrite_31 : decode cX4_doesWrite 31 = .ok (.ifCond .ne 6, 3) := by decide +kernel
theorem dX4_doesWrite_34 : decode cX4_doesWrite 34 = .ok (.bipush (-2), 2) := by decide +kernel
theorem dX4_doesWrite_36 : decode cX4_doesWrite 36 = .ok (.ireturn, 1) := by decide +kernel
theorem dX4_doesWrite_37 : decode cX4_doesWrite 37 = .ok (.aload_n 0, 1) := by decide +kernel
theorem dX4_doesWrite_38 : decode cX4_doesWrite 38 = .ok (.iload_n 1, 1) := by decide +kernel
theorem dX4_doesWrite_39 : decode cX4_doesWrite 39 = .ok (.iload_n 2, 1) := by decide +kernel
theorem dX4_doesWrite_40 : decode cX4_doesWrite 40 = .ok (.invokevirtual 98, 3) := by decide +kernel
theorem dX4_doesWrite_43 : decode cX4_doesWrite 43 = .ok (.istore 5, 2) := by decide +kernel
theorem dX4_doesWrite_45 : decode cX4_doesWrite 45 = .ok (.iload 5, 2) := by decide +kernel
theorem dX4_doesWrite_47 : decode cX4_doesWrite 47 = .ok (.aload_n 0, 1) := by decide +kernel
theorem dX4_doesWrite_48 : decode cX4_doesWrite 48 = .ok (.iload_n 1, 1) := by decide +kernel
theorem dX4_doesWrite_49 : decode cX4_doesWrite 49 = .ok (.invokevirtual 53, 3) := by decide +kernel
theorem dX4_doesWrite_52 : decode cX4_doesWrite 52 = .ok (.iand, 1) := by decide +kernel
theorem dX4_doesWrite_53 : decode cX4_doesWrite 53 = .ok (.ifCond .eq 6, 3) := by decide +kernel
theorem dX4_doesWrite_56 : decode cX4_doesWrite 56 = .ok (.bipush (-3), 2) := by decide +kernel
theorem dX4_doesWrite_58 : decode cX4_doesWrite 58 = .ok (.ireturn, 1) := by decide +kernel
theorem dX4_doesWrite_59 : decode cX4_doesWrite 59 = .ok (.aload_n 0, 1) := by decide +kernel
theorem dX4_doesWrite_60 : decode cX4_doesWrite 60 = .ok (.getfield 7, 3) := by decide +kernel
theorem dX4_doesWrite_63 : decode cX4_doesWrite 63 = .ok (.bipush 12, 2) := by decide +kernel
theorem dX4_doesWrite_65 : decode cX4_doesWrite 65 = .ok (.iaload, 1) := by decide +kernel
theorem dX4_doesWrite_66 : decode cX4_doesWrite 66 = .ok (.bipush 60, 2) := by decide +kernel
theorem dX4_doesWrite_68 : decode cX4_doesWrite 68 = .ok (.if_icmp .ne 6, 3) := by decide +kernel
theorem dX4_doesWrite_71 : decode cX4_doesWrite 71 = .ok (.bipush (-4), 2) := by decide +kernel
theorem dX4_doesWrite_73 : decode cX4_doesWrite 73 = .ok (.ireturn, 1) := by decide +kernel
theorem dX4_doesWrite_74 : decode cX4_doesWrite 74 = .ok (.aload_n 0, 1) := by decide +kernel
theorem dX4_doesWrite_75 : decode cX4_doesWrite 75 = .ok (.iload 5, 2) := by decide +kernel
theorem dX4_doesWrite_77 : decode cX4_doesWrite 77 = .ok (.invokevirtual 85, 3) := by decide +kernel
theorem dX4_doesWrite_80 : decode cX4_doesWrite 80 = .ok (.aload_n 0, 1) := by decide +kernel
theorem dX4_doesWrite_81 : decode cX4_doesWrite 81 = .ok (.getfield 7, 3) := by decide +kernel
theorem dX4_doesWrite_84 : decode cX4_doesWrite 84 = .ok (.bipush 9, 2) := by decide +kernel
theorem dX4_doesWrite_86 : decode cX4_doesWrite 86 = .ok (.iload_n 2, 1) := by decide +kernel
theorem dX4_doesWrite_87 : decode cX4_doesWrite 87 = .ok (.iadd, 1) := by decide +kernel
theorem dX4_doesWrite_88 : decode cX4_doesWrite 88 = .ok (.dup2, 1) := by decide +kernel
theorem dX4_doesWrite_89 : decode cX4_doesWrite 89 = .ok (.iaload, 1) := by decide +kernel
theorem dX4_doesWrite_90 : decode cX4_doesWrite 90 = .ok (.iconst 1, 1) := by decide +kernel
theorem dX4_doesWrite_91 : decode cX4_doesWrite 91 = .ok (.iadd, 1) := by decide +kernel
theorem dX4_doesWrite_92 : decode cX4_doesWrite 92 = .ok (.iastore, 1) := by decide +kernel
theorem dX4_doesWrite_93 : decode cX4_doesWrite 93 = .ok (.aload_n 0, 1) := by decide +kernel
theorem dX4_doesWrite_94 : decode cX4_doesWrite 94 = .ok (.getfield 7, 3) := by decide +kernel
theorem dX4_doesWrite_97 : decode cX4_doesWrite 97 = .ok (.iconst 4, 1) := by decide +kernel
theorem dX4_doesWrite_98 : decode cX4_doesWrite 98 = .ok (.iload_n 2, 1) := by decide +kernel
theorem dX4_doesWrite_99 : decode cX4_doesWrite 99 = .ok (.imul, 1) := by decide +kernel
theorem dX4_doesWrite_100 : decode cX4_doesWrite 100 = .ok (.dup2, 1) := by decide +kernel
theorem dX4_doesWrite_101 : decode cX4_doesWrite 101 = .ok (.iaload, 1) := by decide +kernel
theorem dX4_doesWrite_102 : decode cX4_doesWrite 102 = .ok (.iconst 1, 1) := by decide +kernel
theorem dX4_doesWrite_103 : decode cX4_doesWrite 103 = .ok (.iadd, 1) := by decide +kernel
theorem dX4_doesWrite_104 : decode cX4_doesWrite 104 = .ok (.iastore, 1) := by decide +kernel
theorem dX4_doesWrite_105 : decode cX4_doesWrite 105 = .ok (.aload_n 0, 1) := by decide +kernel
theorem dX4_doesWrite_106 : decode cX4_doesWrite 106 = .ok (.getfield 7, 3) := by decide +kernel
theorem dX4_doesWrite_109 : decode cX4_doesWrite 109 = .ok (.iconst 4, 1) := by decide +kernel
theorem dX4_doesWrite_110 : decode cX4_doesWrite 110 = .ok (.iload_n 2, 1) := by decide +kernel
theorem dX4_doesWrite_111 : decode cX4_doesWrite 111 = .ok (.imul, 1) := by decide +kernel
theorem dX4_doesWrite_112 : decode cX4_doesWrite 112 = .ok (.iaload, 1) := by decide +kernel
theorem dX4_doesWrite_113 : decode cX4_doesWrite 113 = .ok (.istore 6, 2) := by decide +kernel
theorem dX4_doesWrite_115 : decode cX4_doesWrite 115 = .ok (.bipush 13, 2) := by decide +kernel
theorem dX4_doesWrite_117 : decode cX4_doesWrite 117 = .ok (.iconst 5, 1) := by decide +kernel
theorem dX4_doesWrite_118 : decode cX4_doesWrite 118 = .ok (.aload_n 0, 1) := by decide +kernel
theorem dX4_doesWrite_119 : decode cX4_doesWrite 119 = .ok (.getfield 7, 3) := by decide +kernel
theorem dX4_doesWrite_122 : decode cX4_doesWrite 122 = .ok (.bipush 12, 2) := by decide +kernel
theorem dX4_doesWrite_124 : decode cX4_doesWrite 124 = .ok (.iaload, 1) := by decide +kernel
theorem dX4_doesWrite_125 : decode cX4_doesWrite 125 = .ok (.imul, 1) := by decide +kernel
theorem dX4_doesWrite_126 : decode cX4_doesWrite 126 = .ok (.iadd, 1) := by decide +kernel
theorem dX4_doesWrite_127 : decode cX4_doesWrite 127 = .ok (.istore 7, 2) := by decide +kernel
theorem dX4_doesWrite_129 : decode cX4_doesWrite 129 = .ok (.aload_n 0, 1) := by decide +kernel
theorem dX4_doesWrite_130 : decode cX4_doesWrite 130 = .ok (.getfield 7, 3) := by decide +kernel
theorem dX4_doesWrite_133 : decode cX4_doesWrite 133 = .ok (.iload 7, 2) := by decide +kernel
theorem dX4_doesWrite_135 : decode cX4_doesWrite 135 = .ok (.iload_n 2, 1) := by decide +kernel
theorem dX4_doesWrite_136 : decode cX4_doesWrite 136 = .ok (.iastore, 1) := by decide +kernel
theorem dX4_doesWrite_137 : decode cX4_doesWrite 137 = .ok (.aload_n 0, 1) := by decide +kernel
theorem dX4_doesWrite_138 : decode cX4_doesWrite 138 = .ok (.getfield 7, 3) := by decide +kernel
theorem dX4_doesWrite_141 : decode cX4_doesWrite 141 = .ok (.iload 7, 2) := by decide +kernel
theorem dX4_doesWrite_143 : decode cX4_doesWrite 143 = .ok (.iconst 1, 1) := by decide +kernel
theorem dX4_doesWrite_144 : decode cX4_doesWrite 144 = .ok (.iadd, 1) := by decide +kernel
theorem dX4_doesWrite_145 : decode cX4_doesWrite 145 = .ok (.iload 6, 2) := by decide +kernel
theorem dX4_doesWrite_147 : decode cX4_doesWrite 147 = .ok (.iastore, 1) := by decide +kernel
theorem dX4_doesWrite_148 : decode cX4_doesWrite 148 = .ok (.aload_n 0, 1) := by decide +kernel
theorem dX4_doesWrite_149 : decode cX4_doesWrite 149 = .ok (.getfield 7, 3) := by decide +kernel
theorem dX4_doesWrite_152 : decode cX4_doesWrite 152 = .ok (.iload 7, 2) := by decide +kernel
theorem dX4_doesWrite_154 : decode cX4_doesWrite 154 = .ok (.iconst 2, 1) := by decide +kernel
theorem dX4_doesWrite_155 : decode cX4_doesWrite 155 = .ok (.iadd, 1) := by decide +kernel
theorem dX4_doesWrite_156 : decode cX4_doesWrite 156 = .ok (.iload_n 3, 1) := by decide +kernel
theorem dX4_doesWrite_157 : decode cX4_doesWrite 157 = .ok (.iastore, 1) := by decide +kernel
theorem dX4_doesWrite_158 : decode cX4_doesWrite 158 = .ok (.aload_n 0, 1) := by decide +kernel
theorem dX4_doesWrite_159 : decode cX4_doesWrite 159 = .ok (.getfield 7, 3) := by decide +kernel
theorem dX4_doesWrite_162 : decode cX4_doesWrite 162 = .ok (.iload 7, 2) := by decide +kernel
theorem dX4_doesWrite_164 : decode cX4_doesWrite 164 = .ok (.iconst 3, 1) := by decide +kernel
theorem dX4_doesWrite_165 : decode cX4_doesWrite 165 = .ok (.iadd, 1) := by decide +kernel
theorem dX4_doesWrite_166 : decode cX4_doesWrite 166 = .ok (.iload 4, 2) := by decide +kernel
theorem dX4_doesWrite_168 : decode cX4_doesWrite 168 = .ok (.iastore, 1) := by decide +kernel
theorem dX4_doesWrite_169 : decode cX4_doesWrite 169 = .ok (.aload_n 0, 1) := by decide +kernel
theorem dX4_doesWrite_170 : decode cX4_doesWrite 170 = .ok (.getfield 7, 3) := by decide +kernel
theorem dX4_doesWrite_173 : decode cX4_doesWrite 173 = .ok (.iload 7, 2) := by decide +kernel
theorem dX4_doesWrite_175 : decode cX4_doesWrite 175 = .ok (.iconst 4, 1) := by decide +kernel
theorem dX4_doesWrite_176 : decode cX4_doesWrite 176 = .ok (.iadd, 1) := by decide +kernel
theorem dX4_doesWrite_177 : decode cX4_doesWrite 177 = .ok (.aload_n 0, 1) := by decide +kernel
theorem dX4_doesWrite_178 : decode cX4_doesWrite 178 = .ok (.getfield 7, 3) := by decide +kernel
theorem dX4_doesWrite_181 : decode cX4_doesWrite 181 = .ok (.bipush 9, 2) := by decide +kernel
theorem dX4_doesWrite_183 : decode cX4_doesWrite 183 = .ok (.iload_n 2, 1) := by decide +kernel
theorem dX4_doesWrite_184 : decode cX4_doesWrite 184 = .ok (.iadd, 1) := by decide +kernel
theorem dX4_doesWrite_185 : decode cX4_doesWrite 185 = .ok (.iaload, 1) := by decide +kernel
theorem dX4_doesWrite_186 : decode cX4_doesWrite 186 = .ok (.iastore, 1) := by decide +kernel
theorem dX4_doesWrite_187 : decode cX4_doesWrite 187 = .ok (.aload_n 0, 1) := by decide +kernel
theorem dX4_doesWrite_188 : decode cX4_doesWrite 188 = .ok (.getfield 7, 3) := by decide +kernel
theorem dX4_doesWrite_191 : decode cX4_doesWrite 191 = .ok (.bipush 12, 2) := by decide +kernel
theorem dX4_doesWrite_193 : decode cX4_doesWrite 193 = .ok (.dup2, 1) := by decide +kernel
theorem dX4_doesWrite_194 : decode cX4_doesWrite 194 = .ok (.iaload, 1) := by decide +kernel
theorem dX4_doesWrite_195 : decode cX4_doesWrite 195 = .ok (.iconst 1, 1) := by decide +kernel
theorem dX4_doesWrite_196 : decode cX4_doesWrite 196 = .ok (.iadd, 1) := by decide +kernel
theorem dX4_doesWrite_197 : decode cX4_doesWrite 197 = .ok (.iastore, 1) := by decide +kernel
theorem dX4_doesWrite_198 : decode cX4_doesWrite 198 = .ok (.aload_n 0, 1) := by decide +kernel
theorem dX4_doesWrite_199 : decode cX4_doesWrite 199 = .ok (.getfield 7, 3) := by decide +kernel
theorem dX4_doesWrite_202 : decode cX4_doesWrite 202 = .ok (.sipush 313, 3) := by decide +kernel
theorem dX4_doesWrite_205 : decode cX4_doesWrite 205 = .ok (.bipush 7, 2) := by decide +kernel
theorem dX4_doesWrite_207 : decode cX4_doesWrite 207 = .ok (.iload_n 1, 1) := by decide +kernel
theorem dX4_doesWrite_208 : decode cX4_doesWrite 208 = .ok (.imul, 1) := by decide +kernel
theorem dX4_doesWrite_209 : decode cX4_doesWrite 209 = .ok (.iadd, 1) := by decide +kernel
theorem dX4_doesWrite_210 : decode cX4_doesWrite 210 = .ok (.iconst 4, 1) := by decide +kernel
theorem dX4_doesWrite_211 : decode cX4_doesWrite 211 = .ok (.iadd, 1) := by decide +kernel
theorem dX4_doesWrite_212 : decode cX4_doesWrite 212 = .ok (.iload_n 2, 1) := by decide +kernel
theorem dX4_doesWrite_213 : decode cX4_doesWrite 213 = .ok (.iadd, 1) := by decide +kernel
theorem dX4_doesWrite_214 : decode cX4_doesWrite 214 = .ok (.iload 6, 2) := by decide +kernel
theorem dX4_doesWrite_216 : decode cX4_doesWrite 216 = .ok (.iastore, 1) := by decide +kernel
theorem dX4_doesWrite_217 : decode cX4_doesWrite 217 = .ok (.iload 6, 2) := by decide +kernel
theorem dX4_doesWrite_219 : decode cX4_doesWrite 219 = .ok (.ireturn, 1) := by decide +kernel
set_option maxRecDepth 20000 in
theorem ggX4_write_X4_putsAside : GoodIn wsX4_write wsX4_putsAside := goodIn_r _ [5, 6, 7, 58, 59, 60, 61, 62, 63, 64, 65, 66, 67] (by decide +kernel) (by decide +kernel)
set_option maxRecDepth 20000 in
theorem gX4_write_X4_putsAside : GoodIn wsX4_write (wsV RX4 56 RX4 yX4_putsAside wsX4_putsAside) := goodIn_app (goodIn_of _ (by decide +kernel)) ggX4_write_X4_putsAside
set_option maxRecDepth 20000 in
theorem ggX4_write_X4_doesWrite : GoodIn wsX4_write wsX4_doesWrite := goodIn_r _ [11, 12, 7, 13, 14, 4, 15, 16, 17, 18, 19, 20, 21, 22, 23, 24, 25, 26, 27, 28, 29, 30, 31, 32, 33, 34, 35, 36, 37, 38, 39, 40, 41, 42, 58, 59, 60, 61, 62, 63, 64, 65, 66, 67] (by decide +kernel) (by decide +kernel)
set_option maxRecDepth 20000 in
theorem gX4_write_X4_doesWrite : GoodIn wsX4_write (wsV RX4 101 RX4 yX4_doesWrite wsX4_doesWrite) := goodIn_app (goodIn_of _ (by decide +kernel)) ggX4_write_X4_doesWrite
set_option maxRecDepth 20000 in
theorem ggX4_write_X4_answered : GoodIn wsX4_write wsX4_answered := goodIn_r _ [46, 47, 48, 49, 4, 50, 51, 52, 53, 54, 55, 56, 57, 6, 58, 59, 60, 61, 62, 63, 64, 65, 66, 67] (by decide +kernel) (by decide +kernel)
set_option maxRecDepth 20000 in
theorem gX4_write_X4_answered : GoodIn wsX4_write (wsV RX4 63 RX4 yX4_answered wsX4_answered) := goodIn_app (goodIn_of _ (by decide +kernel)) ggX4_write_X4_answered
theorem dX4_write_0 : decode cX4_write 0 = .ok (.aload_n 0, 1) := by decide +kernel
theorem dX4_write_1 : decode cX4_write 1 = .ok (.invokevirtual 56, 3) := by decide +kernel
theorem dX4_write_4 : decode cX4_write 4 = .ok (.aload_n 0, 1) := by decide +kernel
theorem dX4_write_5 : decode cX4_write 5 = .ok (.aload_n 0, 1) := by decide +kernel
theorem dX4_write_6 : decode cX4_write 6 = .ok (.iload_n 1, 1) := by decide +kernel
theorem dX4_write_7 : decode cX4_write 7 = .ok (.iload_n 2, 1) := by decide +kernel
theorem dX4_write_8 : decode cX4_write 8 = .ok (.iload_n 3, 1) := by decide +kernel
theorem dX4_write_9 : decode cX4_write 9 = .ok (.iload 4, 2) := by decide +kernel
theorem dX4_write_11 : decode cX4_write 11 = .ok (.invokevirtual 101, 3) := by decide +kernel
theorem dX4_write_14 : decode cX4_write 14 = .ok (.invokevirtual 63, 3) := by decide +kernel
theorem dX4_write_17 : decode cX4_write 17 = .ok (.ireturn, 1) := by decide +kernel
set_option maxRecDepth 20000 in
theorem ggX4_doesSync_X4_isReplica : GoodIn wsX4_doesSync wsX4_isReplica := goodIn_r _ [5, 6, 7, 8, 4, 9] (by decide +kernel) (by decide +kernel)
set_option maxRecDepth 20000 in
theorem gX4_doesSync_X4_isReplica : GoodIn wsX4_doesSync (va_wsS RX4 69 yX4_isReplica wsX4_isReplica) := goodIn_app (goodIn_of _ (by decide +kernel)) ggX4_doesSync_X4_isReplica
theorem dX4_doesSync_0 : decode cX4_doesSync 0 = .ok (.iload_n 1, 1) := by decide +kernel
theorem dX4_doesSync_1 : decode cX4_doesSync 1 = .ok (.invokestatic 69, 3) := by decide +kernel
theorem dX4_doesSync_4 : decode cX4_doesSync 4 = .ok (.ifCond .eq 15, 3) := by decide +kernel
theorem dX4_doesSync_7 : decode cX4_doesSync 7 = .ok (.iload_n 2, 1) := by decide +kernel
theorem dX4_doesSync_8 : decode cX4_doesSync 8 = .ok (.invokestatic 69, 3) := by decide +kernel
theorem dX4_doesSync_11 : decode cX4_doesSync 11 = .ok (.ifCond .eq 8, 3) := by decide +kernel
theorem dX4_doesSync_14 : decode cX4_doesSync 14 = .ok (.iload_n 1, 1) := by decide +kernel
theorem dX4_doesSync_15 : decode cX4_doesSync 15 = .ok (.iload_n 2, 1) := by decide +kernel
theorem dX4_doesSync_16 : decode cX4_doesSync 16 = .ok (.if_icmp .ne 6, 3) := by decide +kernel
theorem dX4_doesSync_19 : decode cX4_doesSync 19 = .ok (.bipush (-2), 2) := by decide +kernel
theorem dX4_doesSync_21 : decode cX4_doesSync 21 = .ok (.ireturn, 1) := by decide +kernel
theorem dX4_doesSync_22 : decode cX4_doesSync 22 = .ok (.iconst 0, 1) := by decide +kernel
theorem dX4_doesSync_23 : decode cX4_doesSync 23 = .ok (.istore_n 3, 1) := by decide +kernel
theorem dX4_doesSync_24 : decode cX4_doesSync 24 = .ok (.iconst 0, 1) := by decide +kernel
theorem dX4_doesSync_25 : decode cX4_doesSync 25 = .ok (.istore 4, 2) := by decide +kernel
theorem dX4_doesSync_27 : decode cX4_doesSync 27 = .ok (.iload 4, 2) := by decide +kernel
theorem dX4_doesSync_29 : decode cX4_doesSync 29 = .ok (.aload_n 0, 1) := by decide +kernel
theorem dX4_doesSync_30 : decode cX4_doesSync 30 = .ok (.getfield 7, 3) := by decide +kernel
theorem dX4_doesSync_33 : decode cX4_doesSync 33 = .ok (.bipush 12, 2) := by decide +kernel
theorem dX4_doesSync_35 : decode cX4_doesSync 35 = .ok (.iaload, 1) := by decide +kernel
theorem dX4_doesSync_36 : decode cX4_doesSync 36 = .ok (.if_icmp .ge 125, 3) := by decide +kernel
theorem dX4_doesSync_39 : decode cX4_doesSync 39 = .ok (.bipush 13, 2) := by decide +kernel
theorem dX4_doesSync_41 : decode cX4_doesSync 41 = .ok (.iconst 5, 1) := by decide +kernel
theorem dX4_doesSync_42 : decode cX4_doesSync 42 = .ok (.iload 4, 2) := by decide +kernel
theorem dX4_doesSync_44 : decode cX4_doesSync 44 = .ok (.imul, 1) := by decide +kernel
theorem dX4_doesSync_45 : decode cX4_doesSync 45 = .ok (.iadd, 1) := by decide +kernel
theorem dX4_doesSync_46 : decode cX4_doesSync 46 = .ok (.istore 5, 2) := by decide +kernel
theorem dX4_doesSync_48 : decode cX4_doesSync 48 = .ok (.aload_n 0, 1) := by decide +kernel
theorem dX4_doesSync_49 : decode cX4_doesSync 49 = .ok (.getfield 7, 3) := by decide +kernel
theorem dX4_doesSync_52 : decode cX4_doesSync 52 = .ok (.iload 5, 2) := by decide +kernel
theorem dX4_doesSync_54 : decode cX4_doesSync 54 = .ok (.iconst 1, 1) := by decide +kernel
theorem dX4_doesSync_55 : decode cX4_doesSync 55 = .ok (.iadd, 1) := by decide +kernel
theorem dX4_doesSync_56 : decode cX4_doesSync 56 = .ok (.iaload, 1) := by decide +kernel
theorem dX4_doesSync_57 : decode cX4_doesSync 57 = .ok (.istore 6, 2) := by decide +kernel
theorem dX4_doesSync_59 : decode cX4_doesSync 59 = .ok (.iload 6, 2) := by decide +kernel
theorem dX4_doesSync_61 : decode cX4_doesSync 61 = .ok (.aload_n 0, 1) := by decide +kernel
theorem dX4_doesSync_62 : decode cX4_doesSync 62 = .ok (.getfield 7, 3) := by decide +kernel
theorem dX4_doesSync_65 : decode cX4_doesSync 65 = .ok (.iconst 3, 1) := by decide +kernel
theorem dX4_doesSync_66 : decode cX4_doesSync 66 = .ok (.iload_n 1, 1) := by decide +kernel
theorem dX4_doesSync_67 : decode cX4_doesSync 67 = .ok (.imul, 1) := by decide +kernel
theorem dX4_doesSync_68 : decode cX4_doesSync 68 = .ok (.aload_n 0, 1) := by decide +kernel
theorem dX4_doesSync_69 : decode cX4_doesSync 69 = .ok (.getfield 7, 3) := by decide +kernel
theorem dX4_doesSync_72 : decode cX4_doesSync 72 = .ok (.iload 5, 2) := by decide +kernel
theorem dX4_doesSync_74 : decode cX4_doesSync 74 = .ok (.iaload, 1) := by decide +kernel
theorem dX4_doesSync_75 : decode cX4_doesSync 75 = .ok (.iadd, 1) := by decide +kernel
theorem dX4_doesSync_76 : decode cX4_doesSync 76 = .ok (.iaload, 1) := by decide +kernel
theorem dX4_doesSync_77 : decode cX4_doesSync 77 = .ok (.if_icmp .gt 78, 3) := by decide +kernel
theorem dX4_doesSync_80 : decode cX4_doesSync 80 = .ok (.iload 6, 2) := by decide +kernel
theorem dX4_doesSync_82 : decode cX4_doesSync 82 = .ok (.aload_n 0, 1) := by decide +kernel
theorem dX4_doesSync_83 : decode cX4_doesSync 83 = .ok (.getfield 7, 3) := by decide +kernel
theorem dX4_doesSync_86 : decode cX4_doesSync 86 = .ok (.iconst 3, 1) := by decide +kernel
theorem dX4_doesSync_87 : decode cX4_doesSync 87 = .ok (.iload_n 2, 1) := by decide +kernel
theorem dX4_doesSync_88 : decode cX4_doesSync 88 = .ok (.imul, 1) := by decide +kernel
theorem dX4_doesSync_89 : decode cX4_doesSync 89 = .ok (.aload_n 0, 1) := by decide +kernel
theorem dX4_doesSync_90 : decode cX4_doesSync 90 = .ok (.getfield 7, 3) := by decide +kernel
theorem dX4_doesSync_93 : decode cX4_doesSync 93 = .ok (.iload 5, 2) := by decide +kernel
theorem dX4_doesSync_95 : decode cX4_doesSync 95 = .ok (.iaload, 1) := by decide +kernel
theorem dX4_doesSync_96 : decode cX4_doesSync 96 = .ok (.iadd, 1) := by decide +kernel
theorem dX4_doesSync_97 : decode cX4_doesSync 97 = .ok (.iaload, 1) := by decide +kernel
theorem dX4_doesSync_98 : decode cX4_doesSync 98 = .ok (.if_icmp .le 57, 3) := by decide +kernel
theorem dX4_doesSync_101 : decode cX4_doesSync 101 = .ok (.iinc 3 1, 3) := by decide +kernel
theorem dX4_doesSync_104 : decode cX4_doesSync 104 = .ok (.aload_n 0, 1) := by decide +kernel
theorem dX4_doesSync_105 : decode cX4_doesSync 105 = .ok (.getfield 7, 3) := by decide +kernel
theorem dX4_doesSync_108 : decode cX4_doesSync 108 = .ok (.bipush 9, 2) := by decide +kernel
theorem dX4_doesSync_110 : decode cX4_doesSync 110 = .ok (.iload_n 2, 1) := by decide +kernel
theorem dX4_doesSync_111 : decode cX4_doesSync 111 = .ok (.iadd, 1) := by decide +kernel
theorem dX4_doesSync_112 : decode cX4_doesSync 112 = .ok (.aload_n 0, 1) := by decide +kernel
theorem dX4_doesSync_113 : decode cX4_doesSync 113 = .ok (.getfield 7, 3) := by decide +kernel
theorem dX4_doesSync_116 : decode cX4_doesSync 116 = .ok (.iload 5, 2) := by decide +kernel
theorem dX4_doesSync_118 : decode cX4_doesSync 118 = .ok (.iconst 4, 1) := by decide +kernel
theorem dX4_doesSync_119 : decode cX4_doesSync 119 = .ok (.iadd, 1) := by decide +kernel
theorem dX4_doesSync_120 : decode cX4_doesSync 120 = .ok (.iaload, 1) := by decide +kernel
theorem dX4_doesSync_121 : decode cX4_doesSync 121 = .ok (.aload_n 0, 1) := by decide +kernel
theorem dX4_doesSync_122 : decode cX4_doesSync 122 = .ok (.getfield 7, 3) := by decide +kernel
theorem dX4_doesSync_125 : decode cX4_doesSync 125 = .ok (.bipush 9, 2) := by decide +kernel
theorem dX4_doesSync_127 : decode cX4_doesSync 127 = .ok (.iload_n 2, 1) := by decide +kernel
theorem dX4_doesSync_128 : decode cX4_doesSync 128 = .ok (.iadd, 1) := by decide +kernel
theorem dX4_doesSync_129 : decode cX4_doesSync 129 = .ok (.iaload, 1) := by decide +kernel
theorem dX4_doesSync_130 : decode cX4_doesSync 130 = .ok (.if_icmp .le 15, 3) := by decide +kernel
theorem dX4_doesSync_133 : decode cX4_doesSync 133 = .ok (.aload_n 0, 1) := by decide +kernel
theorem dX4_doesSync_134 : decode cX4_doesSync 134 = .ok (.getfield 7, 3) := by decide +kernel
theorem dX4_doesSync_137 : decode cX4_doesSync 137 = .ok (.iload 5, 2) := by decide +kernel
theorem dX4_doesSync_139 : decode cX4_doesSync 139 = .ok (.iconst 4, 1) := by decide +kernel
theorem dX4_doesSync_140 : decode cX4_doesSync 140 = .ok (.iadd, 1) := by decide +kernel
theorem dX4_doesSync_141 : decode cX4_doesSync 141 = .ok (.iaload, 1) := by decide +kernel
theorem dX4_doesSync_142 : decode cX4_doesSync 142 = .ok (.goto 12, 3) := by decide +kernel
theorem dX4_doesSync_145 : decode cX4_doesSync 145 = .ok (.aload_n 0, 1) := by decide +kernel
theorem dX4_doesSync_146 : decode cX4_doesSync 146 = .ok (.getfield 7, 3) := by decide +kernel
theorem dX4_doesSync_149 : decode cX4_doesSync 149 = .ok (.bipush 9, 2) := by decide +kernel
theorem dX4_doesSync_151 : decode cX4_doesSync 151 = .ok (.iload_n 2, 1) := by decide +kernel
theorem dX4_doesSync_152 : decode cX4_doesSync 152 = .ok (.iadd, 1) := by decide +kernel
theorem dX4_doesSync_153 : decode cX4_doesSync 153 = .ok (.iaload, 1) := by decide +kernel
theorem dX4_doesSync_154 : decode cX4_doesSync 154 = .ok (.iastore, 1) := by decide +kernel
theorem dX4_doesSync_155 : decode cX4_doesSync 155 = .ok (.iinc 4 1, 3) := by decide +kernel
theorem dX4_doesSync_158 : decode cX4_doesSync 158 = .ok (.goto (-131), 3) := by decide +kernel
theorem dX4_doesSync_161 : decode cX4_doesSync 161 = .ok (.iconst 0, 1) := by decide +kernel
theorem dX4_doesSync_162 : decode cX4_doesSync 162 = .ok (.istore 4, 2) := by decide +kernel
theorem dX4_doesSync_164 : decode cX4_doesSync 164 = .ok (.iload 4, 2) := by decide +kernel
theorem dX4_doesSync_166 : decode cX4_doesSync 166 = .ok (.iconst 3, 1) := by decide +kernel
theorem dX4_doesSync_167 : decode cX4_doesSync 167 = .ok (.if_icmp .ge 65, 3) := by decide +kernel
theorem dX4_doesSync_170 : decode cX4_doesSync 170 = .ok (.aload_n 0, 1) := by decide +kernel
theorem dX4_doesSync_171 : decode cX4_doesSync 171 = .ok (.getfield 7, 3) := by decide +kernel
theorem dX4_doesSync_174 : decode cX4_doesSync 174 = .ok (.iconst 3, 1) := by decide +kernel
theorem dX4_doesSync_175 : decode cX4_doesSync 175 = .ok (.iload_n 1, 1) := by decide +kernel
theorem dX4_doesSync_176 : decode cX4_doesSync 176 = .ok (.imul, 1) := by decide +kernel
theorem dX4_doesSync_177 : decode cX4_doesSync 177 = .ok (.iload 4, 2) := by decide +kernel
theorem dX4_doesSync_179 : decode cX4_doesSync 179 = .ok (.iadd, 1) := by decide +kernel
theorem dX4_doesSync_180 : decode cX4_doesSync 180 = .ok (.iaload, 1) := by decide +kernel
theorem dX4_doesSync_181 : decode cX4_doesSync 181 = .ok (.istore 5, 2) := by decide +kernel
theorem dX4_doesSync_183 : decode cX4_doesSync 183 = .ok (.aload_n 0, 1) := by decide +kernel
theorem dX4_doesSync_184 : decode cX4_doesSync 184 = .ok (.getfield 7, 3) := by decide +kernel
theorem dX4_doesSync_187 : decode cX4_doesSync 187 = .ok (.iconst 3, 1) := by decide +kernel
theorem dX4_doesSync_188 : decode cX4_doesSync 188 = .ok (.iload_n 2, 1) := by decide +kernel
theorem dX4_doesSync_189 : decode cX4_doesSync 189 = .ok (.imul, 1) := by decide +kernel
theorem dX4_doesSync_190 : decode cX4_doesSync 190 = .ok (.iload 4, 2) := by decide +kernel
theorem dX4_doesSync_192 : decode cX4_doesSync 192 = .ok (.iadd, 1) := by decide +kernel
theorem dX4_doesSync_193 : decode cX4_doesSync 193 = .ok (.iload 5, 2) := by decide +kernel
theorem dX4_doesSync_195 : decode cX4_doesSync 195 = .ok (.aload_n 0, 1) := by decide +kernel
theorem dX4_doesSync_196 : decode cX4_doesSync 196 = .ok (.getfield 7, 3) := by decide +kernel
theorem dX4_doesSync_199 : decode cX4_doesSync 199 = .ok (.iconst 3, 1) := by decide +kernel
theorem dX4_doesSync_200 : decode cX4_doesSync 200 = .ok (.iload_n 2, 1) := by decide +kernel
theorem dX4_doesSync_201 : decode cX4_doesSync 201 = .ok (.imul, 1) := by decide +kernel
theorem dX4_doesSync_202 : decode cX4_doesSync 202 = .ok (.iload 4, 2) := by decide +kernel
theorem dX4_doesSync_204 : decode cX4_doesSync 204 = .ok (.iadd, 1) := by decide +kernel
theorem dX4_doesSync_205 : decode cX4_doesSync 205 = .ok (.iaload, 1) := by decide +kernel
theorem dX4_doesSync_206 : decode cX4_doesSync 206 = .ok (.if_icmp .le 8, 3) := by decide +kernel
theorem dX4_doesSync_209 : decode cX4_doesSync 209 = .ok (.iload 5, 2) := by decide +kernel
theorem dX4_doesSync_211 : decode cX4_doesSync 211 = .ok (.goto 14, 3) := by decide +kernel
theorem dX4_doesSync_214 : decode cX4_doesSync 214 = .ok (.aload_n 0, 1) := by decide +kernel
theorem dX4_doesSync_215 : decode cX4_doesSync 215 = .ok (.getfield 7, 3) := by decide +kernel
theorem dX4_doesSync_218 : decode cX4_doesSync 218 = .ok (.iconst 3, 1) := by decide +kernel
theorem dX4_doesSync_219 : decode cX4_doesSync 219 = .ok (.iload_n 2, 1) := by decide +kernel
theorem dX4_doesSync_220 : decode cX4_doesSync 220 = .ok (.imul, 1) := by decide +kernel
theorem dX4_doesSync_221 : decode cX4_doesSync 221 = .ok (.iload 4, 2) := by decide +kernel
theorem dX4_doesSync_223 : decode cX4_doesSync 223 = .ok (.iadd, 1) := by decide +kernel
theorem dX4_doesSync_224 : decode cX4_doesSync 224 = .ok (.iaload, 1) := by decide +kernel
theorem dX4_doesSync_225 : decode cX4_doesSync 225 = .ok (.iastore, 1) := by decide +kernel
theorem dX4_doesSync_226 : decode cX4_doesSync 226 = .ok (.iinc 4 1, 3) := by decide +kernel
theorem dX4_doesSync_229 : decode cX4_doesSync 229 = .ok (.goto (-65), 3) := by decide +kernel
theorem dX4_doesSync_232 : decode cX4_doesSync 232 = .ok (.iload_n 3, 1) := by decide +kernel
theorem dX4_doesSync_233 : decode cX4_doesSync 233 = .ok (.ireturn, 1) := by decide +kernel
set_option maxRecDepth 20000 in
theorem ggX4_sync_X4_putsAside : GoodIn wsX4_sync wsX4_putsAside := goodIn_r _ [5, 6, 7, 34, 35, 36, 37, 38, 39, 40, 41, 42, 43] (by decide +kernel) (by decide +kernel)
set_option maxRecDepth 20000 in
theorem gX4_sync_X4_putsAside : GoodIn wsX4_sync (wsV RX4 56 RX4 yX4_putsAside wsX4_putsAside) := goodIn_app (goodIn_of _ (by decide +kernel)) ggX4_sync_X4_putsAside
set_option maxRecDepth 20000 in
theorem ggX4_sync_X4_doesSync : GoodIn wsX4_sync wsX4_doesSync := goodIn_r _ [11, 7, 12, 13, 4, 14, 15, 16, 17, 18, 34, 35, 36, 37, 38, 39, 40, 41, 42, 43] (by decide +kernel) (by decide +kernel)
set_option maxRecDepth 20000 in
theorem gX4_sync_X4_doesSync : GoodIn wsX4_sync (wsV RX4 105 RX4 yX4_doesSync wsX4_doesSync) := goodIn_app (goodIn_of _ (by decide +kernel)) ggX4_sync_X4_doesSync
set_option maxRecDepth 20000 in
theorem ggX4_sync_X4_answered : GoodIn wsX4_sync wsX4_answered := goodIn_r _ [22, 23, 24, 25, 4, 26, 27, 28, 29, 30, 31, 32, 33, 6, 34, 35, 36, 37, 38, 39, 40, 41, 42, 43] (by decide +kernel) (by decide +kernel)
set_option maxRecDepth 20000 in
theorem gX4_sync_X4_answered : GoodIn wsX4_sync (wsV RX4 63 RX4 yX4_answered wsX4_answered) := goodIn_app (goodIn_of _ (by decide +kernel)) ggX4_sync_X4_answered
theorem dX4_sync_0 : decode cX4_sync 0 = .ok (.aload_n 0, 1) := by decide +kernel
theorem dX4_sync_1 : decode cX4_sync 1 = .ok (.invokevirtual 56, 3) := by decide +kernel
theorem dX4_sync_4 : decode cX4_sync 4 = .ok (.aload_n 0, 1) := by decide +kernel
theorem dX4_sync_5 : decode cX4_sync 5 = .ok (.aload_n 0, 1) := by decide +kernel
theorem dX4_sync_6 : decode cX4_sync 6 = .ok (.iload_n 1, 1) := by decide +kernel
theorem dX4_sync_7 : decode cX4_sync 7 = .ok (.iload_n 2, 1) := by decide +kernel
theorem dX4_sync_8 : decode cX4_sync 8 = .ok (.invokevirtual 105, 3) := by decide +kernel
theorem dX4_sync_11 : decode cX4_sync 11 = .ok (.invokevirtual 63, 3) := by decide +kernel
theorem dX4_sync_14 : decode cX4_sync 14 = .ok (.ireturn, 1) := by decide +kernel
set_option maxRecDepth 20000 in
theorem ggX4_readBreaches_X4_isClient : GoodIn wsX4_readBreaches wsX4_isClient := goodIn_r _ [4, 5, 6, 7, 3, 8] (by decide +kernel) (by decide +kernel)
set_option maxRecDepth 20000 in
theorem gX4_readBreaches_X4_isClient : GoodIn wsX4_readBreaches (va_wsS RX4 47 yX4_isClient wsX4_isClient) := goodIn_app (goodIn_of _ (by decide +kernel)) ggX4_readBreaches_X4_isClient
set_option maxRecDepth 20000 in
theorem ggX4_readBreaches_X4_isReplica : GoodIn wsX4_readBreaches wsX4_isReplica := goodIn_r _ [11, 12, 6, 7, 3, 8] (by decide +kernel) (by decide +kernel)
set_option maxRecDepth 20000 in
theorem gX4_readBreaches_X4_isReplica : GoodIn wsX4_readBreaches (va_wsS RX4 69 yX4_isReplica wsX4_isReplica) := goodIn_app (goodIn_of _ (by decide +kernel)) ggX4_readBreaches_X4_isReplica
set_option maxRecDepth 20000 in
theorem ggX4_readBreaches_X4_breachesOfRead : GoodIn wsX4_readBreaches wsX4_breachesOfRead := goodIn_r _ [16, 17, 18, 19, 3, 20, 21, 27, 28, 29, 30, 31, 32, 33, 34, 35, 36] (by decide +kernel) (by decide +kernel)
set_option maxRecDepth 20000 in
theorem gX4_readBreaches_X4_breachesOfRead : GoodIn wsX4_readBreaches (wsV RX4 82 RX4 yX4_breachesOfRead wsX4_breachesOfRead) := goodIn_app (goodIn_of _ (by decide +kernel)) ggX4_readBreaches_X4_breachesOfRead
set_option maxRecDepth 20000 in
theorem ggX4_readBreaches_X4_error : GoodIn wsX4_readBreaches wsX4_error := goodIn_r _ [25, 26, 27, 28, 29, 30, 31, 32, 33, 34, 35, 36] (by decide +kernel) (by decide +kernel)
set_option maxRecDepth 20000 in
theorem gX4_readBreaches_X4_error : GoodIn wsX4_readBreaches (wsV RX4 28 RX4 yX4_error wsX4_error) := goodIn_app (goodIn_of _ (by decide +kernel)) ggX4_readBreaches_X4_error
theorem dX4_readBreaches_0 : decode cX4_readBreaches 0 = .ok (.iload_n 1, 1) := by decide +kernel
theorem dX4_readBreaches_1 : decode cX4_readBreaches 1 = .ok (.invokestatic 47, 3) := by decide +kernel
theorem dX4_readBreaches_4 : decode cX4_readBreaches 4 = .ok (.ifCond .eq 19, 3) := by decide +kernel
theorem dX4_readBreaches_7 : decode cX4_readBreaches 7 = .ok (.iload_n 2, 1) := by decide +kernel
theorem dX4_readBreaches_8 : decode cX4_readBreaches 8 = .ok (.invokestatic 69, 3) := by decide +kernel
theorem dX4_readBreaches_11 : decode cX4_readBreaches 11 = .ok (.ifCond .eq 12, 3) := by decide +kernel
theorem dX4_readBreaches_14 : decode cX4_readBreaches 14 = .ok (.aload_n 0, 1) := by decide +kernel
theorem dX4_readBreaches_15 : decode cX4_readBreaches 15 = .ok (.iload_n 1, 1) := by decide +kernel
theorem dX4_readBreaches_16 : decode cX4_readBreaches 16 = .ok (.iload_n 2, 1) := by decide +kernel
theorem dX4_readBreaches_17 : decode cX4_readBreaches 17 = .ok (.invokevirtual 82, 3) := by decide +kernel
theorem dX4_readBreaches_20 : decode cX4_readBreaches 20 = .ok (.goto 9, 3) := by decide +kernel
theorem dX4_readBreaches_23 : decode cX4_readBreaches 23 = .ok (.aload_n 0, 1) := by decide +kernel
theorem dX4_readBreaches_24 : decode cX4_readBreaches 24 = .ok (.bipush (-2), 2) := by decide +kernel
theorem dX4_readBreaches_26 : decode cX4_readBreaches 26 = .ok (.invokevirtual 28, 3) := by decide +kernel
theorem dX4_readBreaches_29 : decode cX4_readBreaches 29 = .ok (.ireturn, 1) := by decide +kernel
set_option maxRecDepth 20000 in
theorem ggX4_writeBreaches_X4_isClient : GoodIn wsX4_writeBreaches wsX4_isClient := goodIn_r _ [4, 5, 6, 7, 3, 8] (by decide +kernel) (by decide +kernel)
set_option maxRecDepth 20000 in
theorem gX4_writeBreaches_X4_isClient : GoodIn wsX4_writeBreaches (va_wsS RX4 47 yX4_isClient wsX4_isClient) := goodIn_app (goodIn_of _ (by decide +kernel)) ggX4_writeBreaches_X4_isClient
set_option maxRecDepth 20000 in
theorem ggX4_writeBreaches_X4_isReplica : GoodIn wsX4_writeBreaches wsX4_isReplica := goodIn_r _ [11, 12, 6, 7, 3, 8] (by decide +kernel) (by decide +kernel)
set_option maxRecDepth 20000 in
theorem gX4_writeBreaches_X4_isReplica : GoodIn wsX4_writeBreaches (va_wsS RX4 69 yX4_isReplica wsX4_isReplica) := goodIn_app (goodIn_of _ (by decide +kernel)) ggX4_writeBreaches_X4_isReplica
set_option maxRecDepth 20000 in
theorem ggX4_writeBreaches_X4_breachesOfWrite : GoodIn wsX4_writeBreaches wsX4_breachesOfWrite := goodIn_r _ [16, 17, 18, 19, 3, 20, 21, 27, 28, 29, 30, 31, 32, 33, 34, 35, 36] (by decide +kernel) (by decide +kernel)
set_option maxRecDepth 20000 in
theorem gX4_writeBreaches_X4_breachesOfWrite : GoodIn wsX4_writeBreaches (wsV RX4 98 RX4 yX4_breachesOfWrite wsX4_breachesOfWrite) := goodIn_app (goodIn_of _ (by decide +kernel)) ggX4_writeBreaches_X4_breachesOfWrite
set_option maxRecDepth 20000 in
theorem ggX4_writeBreaches_X4_error : GoodIn wsX4_writeBreaches wsX4_error := goodIn_r _ [25, 26, 27, 28, 29, 30, 31, 32, 33, 34, 35, 36] (by decide +kernel) (by decide +kernel)
set_option maxRecDepth 20000 in
theorem gX4_writeBreaches_X4_error : GoodIn wsX4_writeBreaches (wsV RX4 28 RX4 yX4_error wsX4_error) := goodIn_app (goodIn_of _ (by decide +kernel)) ggX4_writeBreaches_X4_error
theorem dX4_writeBreaches_0 : decode cX4_writeBreaches 0 = .ok (.iload_n 1, 1) := by decide +kernel
theorem dX4_writeBreaches_1 : decode cX4_writeBreaches 1 = .ok (.invokestatic 47, 3) := by decide +kernel
theorem dX4_writeBreaches_4 : decode cX4_writeBreaches 4 = .ok (.ifCond .eq 19, 3) := by decide +kernel
theorem dX4_writeBreaches_7 : decode cX4_writeBreaches 7 = .ok (.iload_n 2, 1) := by decide +kernel
theorem dX4_writeBreaches_8 : decode cX4_writeBreaches 8 = .ok (.invokestatic 69, 3) := by decide +kernel
theorem dX4_writeBreaches_11 : decode cX4_writeBreaches 11 = .ok (.ifCond .eq 12, 3) := by decide +kernel
theorem dX4_writeBreaches_14 : decode cX4_writeBreaches 14 = .ok (.aload_n 0, 1) := by decide +kernel
theorem dX4_writeBreaches_15 : decode cX4_writeBreaches 15 = .ok (.iload_n 1, 1) := by decide +kernel
theorem dX4_writeBreaches_16 : decode cX4_writeBreaches 16 = .ok (.iload_n 2, 1) := by decide +kernel
theorem dX4_writeBreaches_17 : decode cX4_writeBreaches 17 = .ok (.invokevirtual 98, 3) := by decide +kernel
theorem dX4_writeBreaches_20 : decode cX4_writeBreaches 20 = .ok (.goto 9, 3) := by decide +kernel
theorem dX4_writeBreaches_23 : decode cX4_writeBreaches 23 = .ok (.aload_n 0, 1) := by decide +kernel
theorem dX4_writeBreaches_24 : decode cX4_writeBreaches 24 = .ok (.bipush (-2), 2) := by decide +kernel
theorem dX4_writeBreaches_26 : decode cX4_writeBreaches 26 = .ok (.invokevirtual 28, 3) := by decide +kernel
theorem dX4_writeBreaches_29 : decode cX4_writeBreaches 29 = .ok (.ireturn, 1) := by decide +kernel
set_option maxRecDepth 20000 in
theorem ggX4_readableReplica_X4_isClient : GoodIn wsX4_readableReplica wsX4_isClient := goodIn_r _ [4, 5, 6, 7, 3, 8] (by decide +kernel) (by decide +kernel)
set_option maxRecDepth 20000 in
theorem gX4_readableReplica_X4_isClient : GoodIn wsX4_readableReplica (va_wsS RX4 47 yX4_isClient wsX4_isClient) := goodIn_app (goodIn_of _ (by decide +kernel)) ggX4_readableReplica_X4_isClient
set_option maxRecDepth 20000 in
theorem ggX4_readableReplica_X4_error : GoodIn wsX4_readableReplica wsX4_error := goodIn_r _ [12, 13, 27, 28, 29, 30, 31, 32, 33, 34, 35, 36] (by decide +kernel) (by decide +kernel)
set_option maxRecDepth 20000 in
theorem gX4_readableReplica_X4_error : GoodIn wsX4_readableReplica (wsV RX4 28 RX4 yX4_error wsX4_error) := goodIn_app (goodIn_of _ (by decide +kernel)) ggX4_readableReplica_X4_error
set_option maxRecDepth 20000 in
theorem ggX4_readableReplica_X4_breachesOfRead : GoodIn wsX4_readableReplica wsX4_breachesOfRead := goodIn_r _ [17, 18, 19, 20, 3, 21, 22, 27, 28, 29, 30, 31, 32, 33, 34, 35, 36] (by decide +kernel) (by decide +kernel)
set_option maxRecDepth 20000 in
theorem gX4_readableReplica_X4_breachesOfRead : GoodIn wsX4_readableReplica (wsV RX4 82 RX4 yX4_breachesOfRead wsX4_breachesOfRead) := goodIn_app (goodIn_of _ (by decide +kernel)) ggX4_readableReplica_X4_breachesOfRead
set_option maxRecDepth 20000 in
theorem ggX4_readableReplica_X4_guarantees : GoodIn wsX4_readableReplica wsX4_guarantees := goodIn_r _ [26, 22, 27, 28, 29, 30, 31, 32, 33, 34, 35, 36] (by decide +kernel) (by decide +kernel)
set_option maxRecDepth 20000 in
theorem gX4_readableReplica_X4_guarantees : GoodIn wsX4_readableReplica (wsV RX4 53 RX4 yX4_guarantees wsX4_guarantees) := goodIn_app (goodIn_of _ (by decide +kernel)) ggX4_readableReplica_X4_guarantees
theorem dX4_readableReplica_0 : decode cX4_readableReplica 0 = .ok (.iload_n 1, 1) := by decide +kernel
theorem dX4_readableReplica_1 : decode cX4_readableReplica 1 = .ok (.invokestatic 47, 3) := by decide +kernel
theorem dX4_readableReplica_4 : decode cX4_readableReplica 4 = .ok (.ifCond .ne 10, 3) := by decide +kernel
theorem dX4_readableReplica_7 : decode cX4_readableReplica 7 = .ok (.aload_n 0, 1) := by decide +kernel
theorem dX4_readableReplica_8 : decode cX4_readableReplica 8 = .ok (.bipush (-2), 2) := by decide +kernel
theorem dX4_readableReplica_10 : decode cX4_readableReplica 10 = .ok (.invokevirtual 28, 3) := by decide +kernel
theorem dX4_readableReplica_13 : decode cX4_readableReplica 13 = .ok (.ireturn, 1) := by decide +kernel
theorem dX4_readableReplica_14 : decode cX4_readableReplica 14 = .ok (.iconst 0, 1) := by decide +kernel
theorem dX4_readableReplica_15 : decode cX4_readableReplica 15 = .ok (.istore_n 2, 1) := by decide +kernel
theorem dX4_readableReplica_16 : decode cX4_readableReplica 16 = .ok (.iload_n 2, 1) := by decide +kernel
theorem dX4_readableReplica_17 : decode cX4_readableReplica 17 = .ok (.iconst 3, 1) := by decide +kernel
theorem dX4_readableReplica_18 : decode cX4_readableReplica 18 = .ok (.if_icmp .ge 26, 3) := by decide +kernel
theorem dX4_readableReplica_21 : decode cX4_readableReplica 21 = .ok (.aload_n 0, 1) := by decide +kernel
theorem dX4_readableReplica_22 : decode cX4_readableReplica 22 = .ok (.iload_n 1, 1) := by decide +kernel
theorem dX4_readableReplica_23 : decode cX4_readableReplica 23 = .ok (.iload_n 2, 1) := by decide +kernel
theorem dX4_readableReplica_24 : decode cX4_readableReplica 24 = .ok (.invokevirtual 82, 3) := by decide +kernel
theorem dX4_readableReplica_27 : decode cX4_readableReplica 27 = .ok (.aload_n 0, 1) := by decide +kernel
theorem dX4_readableReplica_28 : decode cX4_readableReplica 28 = .ok (.iload_n 1, 1) := by decide +kernel
theorem dX4_readableReplica_29 : decode cX4_readableReplica 29 = .ok (.invokevirtual 53, 3) := by decide +kernel
theorem dX4_readableReplica_32 : decode cX4_readableReplica 32 = .ok (.iand, 1) := by decide +kernel
theorem dX4_readableReplica_33 : decode cX4_readableReplica 33 = .ok (.ifCond .ne 5, 3) := by decide +kernel
theorem dX4_readableReplica_36 : decode cX4_readableReplica 36 = .ok (.iload_n 2, 1) := by decide +kernel
theorem dX4_readableReplica_37 : decode cX4_readableReplica 37 = .ok (.ireturn, 1) := by decide +kernel
theorem dX4_readableReplica_38 : decode cX4_readableReplica 38 = .ok (.iinc 2 1, 3) := by decide +kernel
theorem dX4_readableReplica_41 : decode cX4_readableReplica 41 = .ok (.goto (-25), 3) := by decide +kernel
theorem dX4_readableReplica_44 : decode cX4_readableReplica 44 = .ok (.iconst (-1), 1) := by decide +kernel
theorem dX4_readableReplica_45 : decode cX4_readableReplica 45 = .ok (.ireturn, 1) := by decide +kernel
set_option maxRecDepth 20000 in
theorem ggX4_writableReplica_X4_isClient : GoodIn wsX4_writableReplica wsX4_isClient := goodIn_r _ [4, 5, 6, 7, 3, 8] (by decide +kernel) (by decide +kernel)
set_option maxRecDepth 20000 in
theorem gX4_writableReplica_X4_isClient : GoodIn wsX4_writableReplica (va_wsS RX4 47 yX4_isClient wsX4_isClient) := goodIn_app (goodIn_of _ (by decide +kernel)) ggX4_writableReplica_X4_isClient
set_option maxRecDepth 20000 in
theorem ggX4_writableReplica_X4_error : GoodIn wsX4_writableReplica wsX4_error := goodIn_r _ [12, 13, 27, 28, 29, 30, 31, 32, 33, 34, 35, 36] (by decide +kernel) (by decide +kernel)
set_option maxRecDepth 20000 in
theorem gX4_writableReplica_X4_error : GoodIn wsX4_writableReplica (wsV RX4 28 RX4 yX4_error wsX4_error) := goodIn_app (goodIn_of _ (by decide +kernel)) ggX4_writableReplica_X4_error
set_option maxRecDepth 20000 in
theorem ggX4_writableReplica_X4_breachesOfWrite : GoodIn wsX4_writableReplica wsX4_breachesOfWrite := goodIn_r _ [17, 18, 19, 20, 3, 21, 22, 27, 28, 29, 30, 31, 32, 33, 34, 35, 36] (by decide +kernel) (by decide +kernel)
set_option maxRecDepth 20000 in
theorem gX4_writableReplica_X4_breachesOfWrite : GoodIn wsX4_writableReplica (wsV RX4 98 RX4 yX4_breachesOfWrite wsX4_breachesOfWrite) := goodIn_app (goodIn_of _ (by decide +kernel)) ggX4_writableReplica_X4_breachesOfWrite
