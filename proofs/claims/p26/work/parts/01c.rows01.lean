theorem dX0_init_0 : decode cX0_init 0 = .ok (.aload_n 0, 1) := by decide +kernel
theorem dX0_init_1 : decode cX0_init 1 = .ok (.invokespecial 3, 3) := by decide +kernel
theorem dX0_init_4 : decode cX0_init 4 = .ok (.aload_n 0, 1) := by decide +kernel
theorem dX0_init_5 : decode cX0_init 5 = .ok (.bipush 12, 2) := by decide +kernel
theorem dX0_init_7 : decode cX0_init 7 = .ok (.newarray .int, 2) := by decide +kernel
theorem dX0_init_9 : decode cX0_init 9 = .ok (.putfield 9, 3) := by decide +kernel
theorem dX0_init_12 : decode cX0_init 12 = .ok (.aload_n 0, 1) := by decide +kernel
theorem dX0_init_13 : decode cX0_init 13 = .ok (.bipush 12, 2) := by decide +kernel
theorem dX0_init_15 : decode cX0_init 15 = .ok (.newarray .int, 2) := by decide +kernel
theorem dX0_init_17 : decode cX0_init 17 = .ok (.putfield 15, 3) := by decide +kernel
theorem dX0_init_20 : decode cX0_init 20 = .ok (.aload_n 0, 1) := by decide +kernel
theorem dX0_init_21 : decode cX0_init 21 = .ok (.bipush 12, 2) := by decide +kernel
theorem dX0_init_23 : decode cX0_init 23 = .ok (.newarray .int, 2) := by decide +kernel
theorem dX0_init_25 : decode cX0_init 25 = .ok (.putfield 18, 3) := by decide +kernel
theorem dX0_init_28 : decode cX0_init 28 = .ok (.aload_n 0, 1) := by decide +kernel
theorem dX0_init_29 : decode cX0_init 29 = .ok (.bipush 12, 2) := by decide +kernel
theorem dX0_init_31 : decode cX0_init 31 = .ok (.newarray .int, 2) := by decide +kernel
theorem dX0_init_33 : decode cX0_init 33 = .ok (.putfield 21, 3) := by decide +kernel
theorem dX0_init_36 : decode cX0_init 36 = .ok (.aload_n 0, 1) := by decide +kernel
theorem dX0_init_37 : decode cX0_init 37 = .ok (.bipush 12, 2) := by decide +kernel
theorem dX0_init_39 : decode cX0_init 39 = .ok (.newarray .int, 2) := by decide +kernel
theorem dX0_init_41 : decode cX0_init 41 = .ok (.putfield 24, 3) := by decide +kernel
theorem dX0_init_44 : decode cX0_init 44 = .ok (.aload_n 0, 1) := by decide +kernel
theorem dX0_init_45 : decode cX0_init 45 = .ok (.aload_n 1, 1) := by decide +kernel
theorem dX0_init_46 : decode cX0_init 46 = .ok (.putfield 27, 3) := by decide +kernel
theorem dX0_init_49 : decode cX0_init 49 = .ok (.return_, 1) := by decide +kernel
set_option maxRecDepth 20000 in
theorem ggX0_regionOf_X5_partOfPipe : GoodIn wsX0_regionOf wsX5_partOfPipe := goodIn_r _ [3] (by decide +kernel) (by decide +kernel)
set_option maxRecDepth 20000 in
theorem gX0_regionOf_X5_partOfPipe_n31 : GoodIn wsX0_regionOf (wsX5_partOfPipe) := ggX0_regionOf_X5_partOfPipe
set_option maxRecDepth 20000 in
theorem ggX0_regionOf_X0_regionWith : GoodIn wsX0_regionOf wsX0_regionWith := goodIn_r _ [8, 9, 10, 11, 12, 13, 14, 15, 16, 17, 18, 19, 20, 21, 22, 23, 24, 25, 26, 27, 28, 29, 30, 31, 32, 33, 34, 35, 36, 37, 38, 39, 40, 41] (by decide +kernel) (by decide +kernel)
set_option maxRecDepth 20000 in
theorem gX0_regionOf_X0_regionWith : GoodIn wsX0_regionOf (wsV RX0 35 RX0 yX0_regionWith wsX0_regionWith) := goodIn_app (goodIn_of _ (by decide +kernel)) ggX0_regionOf_X0_regionWith
theorem dX0_regionOf_0 : decode cX0_regionOf 0 = .ok (.aload_n 0, 1) := by decide +kernel
theorem dX0_regionOf_1 : decode cX0_regionOf 1 = .ok (.iload_n 1, 1) := by decide +kernel
theorem dX0_regionOf_2 : decode cX0_regionOf 2 = .ok (.invokestatic 31, 3) := by decide +kernel
theorem dX0_regionOf_5 : decode cX0_regionOf 5 = .ok (.invokevirtual 35, 3) := by decide +kernel
theorem dX0_regionOf_8 : decode cX0_regionOf 8 = .ok (.ireturn, 1) := by decide +kernel
set_option maxRecDepth 20000 in
theorem ggX0_regionWith_X2_bounding : GoodIn wsX0_regionWith wsX2_bounding := goodIn_r _ [6, 7, 8, 22, 23, 24, 25, 26, 27, 28, 29, 30, 31, 32, 33] (by decide +kernel) (by decide +kernel)
set_option maxRecDepth 20000 in
theorem gX0_regionWith_X2_bounding : GoodIn wsX0_regionWith (wsV RX0 38 RX2 yX2_bounding wsX2_bounding) := goodIn_app (goodIn_of _ (by decide +kernel)) ggX0_regionWith_X2_bounding
set_option maxRecDepth 20000 in
theorem ggX0_regionWith_X2_reach : GoodIn wsX0_regionWith wsX2_reach := goodIn_r _ [12, 13, 14, 15, 22, 23, 24, 25, 26, 27, 28, 29, 30, 31, 32, 33] (by decide +kernel) (by decide +kernel)
set_option maxRecDepth 20000 in
theorem gX0_regionWith_X2_reach : GoodIn wsX0_regionWith (wsV RX0 44 RX2 yX2_reach wsX2_reach) := goodIn_app (goodIn_of _ (by decide +kernel)) ggX0_regionWith_X2_reach
theorem dX0_regionWith_0 : decode cX0_regionWith 0 = .ok (.aload_n 0, 1) := by decide +kernel
theorem dX0_regionWith_1 : decode cX0_regionWith 1 = .ok (.getfield 27, 3) := by decide +kernel
theorem dX0_regionWith_4 : decode cX0_regionWith 4 = .ok (.iconst 1, 1) := by decide +kernel
theorem dX0_regionWith_5 : decode cX0_regionWith 5 = .ok (.iload_n 1, 1) := by decide +kernel
theorem dX0_regionWith_6 : decode cX0_regionWith 6 = .ok (.ishl, 1) := by decide +kernel
theorem dX0_regionWith_7 : decode cX0_regionWith 7 = .ok (.aload_n 0, 1) := by decide +kernel
theorem dX0_regionWith_8 : decode cX0_regionWith 8 = .ok (.getfield 27, 3) := by decide +kernel
theorem dX0_regionWith_11 : decode cX0_regionWith 11 = .ok (.invokevirtual 38, 3) := by decide +kernel
theorem dX0_regionWith_14 : decode cX0_regionWith 14 = .ok (.invokevirtual 44, 3) := by decide +kernel
theorem dX0_regionWith_17 : decode cX0_regionWith 17 = .ok (.ireturn, 1) := by decide +kernel
set_option maxRecDepth 20000 in
theorem ggX0_regionsWithSources_X2_sources : GoodIn wsX0_regionsWithSources wsX2_sources := goodIn_r _ [6, 7, 27, 28, 29, 30, 31, 32, 33, 34, 35, 36, 37, 38] (by decide +kernel) (by decide +kernel)
set_option maxRecDepth 20000 in
theorem gX0_regionsWithSources_X2_sources : GoodIn wsX0_regionsWithSources (wsV RX0 48 RX2 yX2_sources wsX2_sources) := goodIn_app (goodIn_of _ (by decide +kernel)) ggX0_regionsWithSources_X2_sources
set_option maxRecDepth 20000 in
theorem ggX0_regionsWithSources_X2_bounding : GoodIn wsX0_regionsWithSources wsX2_bounding := goodIn_r _ [11, 12, 13, 27, 28, 29, 30, 31, 32, 33, 34, 35, 36, 37, 38] (by decide +kernel) (by decide +kernel)
set_option maxRecDepth 20000 in
theorem gX0_regionsWithSources_X2_bounding : GoodIn wsX0_regionsWithSources (wsV RX0 38 RX2 yX2_bounding wsX2_bounding) := goodIn_app (goodIn_of _ (by decide +kernel)) ggX0_regionsWithSources_X2_bounding
set_option maxRecDepth 20000 in
theorem ggX0_regionsWithSources_X2_reach : GoodIn wsX0_regionsWithSources wsX2_reach := goodIn_r _ [17, 18, 19, 20, 27, 28, 29, 30, 31, 32, 33, 34, 35, 36, 37, 38] (by decide +kernel) (by decide +kernel)
set_option maxRecDepth 20000 in
theorem gX0_regionsWithSources_X2_reach : GoodIn wsX0_regionsWithSources (wsV RX0 44 RX2 yX2_reach wsX2_reach) := goodIn_app (goodIn_of _ (by decide +kernel)) ggX0_regionsWithSources_X2_reach
theorem dX0_regionsWithSources_0 : decode cX0_regionsWithSources 0 = .ok (.aload_n 0, 1) := by decide +kernel
theorem dX0_regionsWithSources_1 : decode cX0_regionsWithSources 1 = .ok (.getfield 27, 3) := by decide +kernel
theorem dX0_regionsWithSources_4 : decode cX0_regionsWithSources 4 = .ok (.aload_n 0, 1) := by decide +kernel
theorem dX0_regionsWithSources_5 : decode cX0_regionsWithSources 5 = .ok (.getfield 27, 3) := by decide +kernel
theorem dX0_regionsWithSources_8 : decode cX0_regionsWithSources 8 = .ok (.invokevirtual 48, 3) := by decide +kernel
theorem dX0_regionsWithSources_11 : decode cX0_regionsWithSources 11 = .ok (.aload_n 0, 1) := by decide +kernel
theorem dX0_regionsWithSources_12 : decode cX0_regionsWithSources 12 = .ok (.getfield 27, 3) := by decide +kernel
theorem dX0_regionsWithSources_15 : decode cX0_regionsWithSources 15 = .ok (.invokevirtual 38, 3) := by decide +kernel
theorem dX0_regionsWithSources_18 : decode cX0_regionsWithSources 18 = .ok (.invokevirtual 44, 3) := by decide +kernel
theorem dX0_regionsWithSources_21 : decode cX0_regionsWithSources 21 = .ok (.ireturn, 1) := by decide +kernel
set_option maxRecDepth 20000 in
theorem ggX0_ringOf_X2_valveCount : GoodIn wsX0_ringOf wsX2_valveCount := goodIn_r _ [6, 7, 35, 36, 37, 38, 39, 40, 41, 42, 43, 44, 45, 46] (by decide +kernel) (by decide +kernel)
set_option maxRecDepth 20000 in
theorem gX0_ringOf_X2_valveCount : GoodIn wsX0_ringOf (wsV RX0 51 RX2 yX2_valveCount wsX2_valveCount) := goodIn_app (goodIn_of _ (by decide +kernel)) ggX0_ringOf_X2_valveCount
set_option maxRecDepth 20000 in
theorem ggX0_ringOf_X2_pipeOfValve : GoodIn wsX0_ringOf wsX2_pipeOfValve := goodIn_r _ [11, 12, 35, 36, 37, 38, 39, 40, 41, 42, 43, 44, 45, 46] (by decide +kernel) (by decide +kernel)
set_option maxRecDepth 20000 in
theorem gX0_ringOf_X2_pipeOfValve : GoodIn wsX0_ringOf (wsV RX0 54 RX2 yX2_pipeOfValve wsX2_pipeOfValve) := goodIn_app (goodIn_of _ (by decide +kernel)) ggX0_ringOf_X2_pipeOfValve
set_option maxRecDepth 20000 in
theorem ggX0_ringOf_X5_partOfPipe : GoodIn wsX0_ringOf wsX5_partOfPipe := goodIn_r _ [15] (by decide +kernel) (by decide +kernel)
set_option maxRecDepth 20000 in
theorem gX0_ringOf_X5_partOfPipe_n31 : GoodIn wsX0_ringOf (wsX5_partOfPipe) := ggX0_ringOf_X5_partOfPipe
set_option maxRecDepth 20000 in
theorem ggX0_ringOf_X5_hasBit : GoodIn wsX0_ringOf wsX5_hasBit := goodIn_r _ [17] (by decide +kernel) (by decide +kernel)
set_option maxRecDepth 20000 in
theorem gX0_ringOf_X5_hasBit_n57 : GoodIn wsX0_ringOf (wsX5_hasBit) := ggX0_ringOf_X5_hasBit
set_option maxRecDepth 20000 in
theorem ggX0_ringOf_X2_nodeOfValve : GoodIn wsX0_ringOf wsX2_nodeOfValve := goodIn_r _ [21, 22, 12, 35, 36, 37, 38, 39, 40, 41, 42, 43, 44, 45, 46] (by decide +kernel) (by decide +kernel)
set_option maxRecDepth 20000 in
theorem gX0_ringOf_X2_nodeOfValve : GoodIn wsX0_ringOf (wsV RX0 61 RX2 yX2_nodeOfValve wsX2_nodeOfValve) := goodIn_app (goodIn_of _ (by decide +kernel)) ggX0_ringOf_X2_nodeOfValve
set_option maxRecDepth 20000 in
theorem ggX0_ringOf_X2_closable : GoodIn wsX0_ringOf wsX2_closable := goodIn_r _ [26, 7, 27, 28, 35, 36, 37, 38, 39, 40, 41, 42, 43, 44, 45, 46] (by decide +kernel) (by decide +kernel)
set_option maxRecDepth 20000 in
theorem gX0_ringOf_X2_closable : GoodIn wsX0_ringOf (wsV RX0 64 RX2 yX2_closable wsX2_closable) := goodIn_app (goodIn_of _ (by decide +kernel)) ggX0_ringOf_X2_closable
theorem dX0_ringOf_0 : decode cX0_ringOf 0 = .ok (.iconst 0, 1) := by decide +kernel
theorem dX0_ringOf_1 : decode cX0_ringOf 1 = .ok (.istore_n 2, 1) := by decide +kernel
theorem dX0_ringOf_2 : decode cX0_ringOf 2 = .ok (.iconst 0, 1) := by decide +kernel
theorem dX0_ringOf_3 : decode cX0_ringOf 3 = .ok (.istore_n 3, 1) := by decide +kernel
theorem dX0_ringOf_4 : decode cX0_ringOf 4 = .ok (.iload_n 3, 1) := by decide +kernel
theorem dX0_ringOf_5 : decode cX0_ringOf 5 = .ok (.aload_n 0, 1) := by decide +kernel
theorem dX0_ringOf_6 : decode cX0_ringOf 6 = .ok (.getfield 27, 3) := by decide +kernel
theorem dX0_ringOf_9 : decode cX0_ringOf 9 = .ok (.invokevirtual 51, 3) := by decide +kernel
theorem dX0_ringOf_12 : decode cX0_ringOf 12 = .ok (.if_icmp .ge 53, 3) := by decide +kernel
theorem dX0_ringOf_15 : decode cX0_ringOf 15 = .ok (.iload_n 1, 1) := by decide +kernel
theorem dX0_ringOf_16 : decode cX0_ringOf 16 = .ok (.aload_n 0, 1) := by decide +kernel
theorem dX0_ringOf_17 : decode cX0_ringOf 17 = .ok (.getfield 27, 3) := by decide +kernel
theorem dX0_ringOf_20 : decode cX0_ringOf 20 = .ok (.iload_n 3, 1) := by decide +kernel
theorem dX0_ringOf_21 : decode cX0_ringOf 21 = .ok (.invokevirtual 54, 3) := by decide +kernel
theorem dX0_ringOf_24 : decode cX0_ringOf 24 = .ok (.invokestatic 31, 3) := by decide +kernel
theorem dX0_ringOf_27 : decode cX0_ringOf 27 = .ok (.invokestatic 57, 3) := by decide +kernel
theorem dX0_ringOf_30 : decode cX0_ringOf 30 = .ok (.istore 4, 2) := by decide +kernel
theorem dX0_ringOf_32 : decode cX0_ringOf 32 = .ok (.iload_n 1, 1) := by decide +kernel
theorem dX0_ringOf_33 : decode cX0_ringOf 33 = .ok (.aload_n 0, 1) := by decide +kernel
theorem dX0_ringOf_34 : decode cX0_ringOf 34 = .ok (.getfield 27, 3) := by decide +kernel
theorem dX0_ringOf_37 : decode cX0_ringOf 37 = .ok (.iload_n 3, 1) := by decide +kernel
theorem dX0_ringOf_38 : decode cX0_ringOf 38 = .ok (.invokevirtual 61, 3) := by decide +kernel
theorem dX0_ringOf_41 : decode cX0_ringOf 41 = .ok (.invokestatic 57, 3) := by decide +kernel
theorem dX0_ringOf_44 : decode cX0_ringOf 44 = .ok (.istore 5, 2) := by decide +kernel
theorem dX0_ringOf_46 : decode cX0_ringOf 46 = .ok (.iload 4, 2) := by decide +kernel
theorem dX0_ringOf_48 : decode cX0_ringOf 48 = .ok (.iload 5, 2) := by decide +kernel
theorem dX0_ringOf_50 : decode cX0_ringOf 50 = .ok (.if_icmp .eq 9, 3) := by decide +kernel
theorem dX0_ringOf_53 : decode cX0_ringOf 53 = .ok (.iload_n 2, 1) := by decide +kernel
theorem dX0_ringOf_54 : decode cX0_ringOf 54 = .ok (.iconst 1, 1) := by decide +kernel
theorem dX0_ringOf_55 : decode cX0_ringOf 55 = .ok (.iload_n 3, 1) := by decide +kernel
theorem dX0_ringOf_56 : decode cX0_ringOf 56 = .ok (.ishl, 1) := by decide +kernel
theorem dX0_ringOf_57 : decode cX0_ringOf 57 = .ok (.ior, 1) := by decide +kernel
theorem dX0_ringOf_58 : decode cX0_ringOf 58 = .ok (.istore_n 2, 1) := by decide +kernel
theorem dX0_ringOf_59 : decode cX0_ringOf 59 = .ok (.iinc 3 1, 3) := by decide +kernel
theorem dX0_ringOf_62 : decode cX0_ringOf 62 = .ok (.goto (-58), 3) := by decide +kernel
theorem dX0_ringOf_65 : decode cX0_ringOf 65 = .ok (.iload_n 2, 1) := by decide +kernel
theorem dX0_ringOf_66 : decode cX0_ringOf 66 = .ok (.aload_n 0, 1) := by decide +kernel
theorem dX0_ringOf_67 : decode cX0_ringOf 67 = .ok (.getfield 27, 3) := by decide +kernel
theorem dX0_ringOf_70 : decode cX0_ringOf 70 = .ok (.invokevirtual 64, 3) := by decide +kernel
theorem dX0_ringOf_73 : decode cX0_ringOf 73 = .ok (.iand, 1) := by decide +kernel
theorem dX0_ringOf_74 : decode cX0_ringOf 74 = .ok (.ireturn, 1) := by decide +kernel
set_option maxRecDepth 20000 in
theorem ggX0_customersLost_X2_wetBehind : GoodIn wsX0_customersLost wsX2_wetBehind := goodIn_r _ [6, 7, 8, 9, 10, 11, 5, 12, 13, 14, 15, 57, 58, 59, 60, 61, 62, 63, 64, 65, 66, 67, 68] (by decide +kernel) (by decide +kernel)
set_option maxRecDepth 20000 in
theorem gX0_customersLost_X2_wetBehind : GoodIn wsX0_customersLost (wsV RX0 67 RX2 yX2_wetBehind wsX2_wetBehind) := goodIn_app (goodIn_of _ (by decide +kernel)) ggX0_customersLost_X2_wetBehind
set_option maxRecDepth 20000 in
theorem ggX0_customersLost_X0_ringOf : GoodIn wsX0_customersLost wsX0_ringOf := goodIn_r _ [20, 1, 21, 22, 23, 5, 24, 25, 26, 27, 28, 29, 30, 31, 32, 33, 34, 35, 36, 37, 38, 39, 40, 41, 42, 43, 44, 8, 45, 51, 52, 53, 54, 55, 56, 57, 58, 59, 60, 61, 62, 63, 64, 65, 66, 67, 68] (by decide +kernel) (by decide +kernel)
set_option maxRecDepth 20000 in
theorem gX0_customersLost_X0_ringOf : GoodIn wsX0_customersLost (wsV RX0 70 RX0 yX0_ringOf wsX0_ringOf) := goodIn_app (goodIn_of _ (by decide +kernel)) ggX0_customersLost_X0_ringOf
set_option maxRecDepth 20000 in
theorem ggX0_customersLost_X2_customersOf : GoodIn wsX0_customersLost wsX2_customersOf := goodIn_r _ [49, 13, 50, 31, 32, 33, 34, 35, 57, 58, 59, 60, 61, 62, 63, 64, 65, 66, 67, 68] (by decide +kernel) (by decide +kernel)
set_option maxRecDepth 20000 in
theorem gX0_customersLost_X2_customersOf : GoodIn wsX0_customersLost (wsV RX0 73 RX2 yX2_customersOf wsX2_customersOf) := goodIn_app (goodIn_of _ (by decide +kernel)) ggX0_customersLost_X2_customersOf
theorem dX0_customersLost_0 : decode cX0_customersLost 0 = .ok (.aload_n 0, 1) := by decide +kernel
theorem dX0_customersLost_1 : decode cX0_customersLost 1 = .ok (.getfield 27, 3) := by decide +kernel
theorem dX0_customersLost_4 : decode cX0_customersLost 4 = .ok (.iconst 0, 1) := by decide +kernel
theorem dX0_customersLost_5 : decode cX0_customersLost 5 = .ok (.invokevirtual 67, 3) := by decide +kernel
theorem dX0_customersLost_8 : decode cX0_customersLost 8 = .ok (.istore_n 2, 1) := by decide +kernel
theorem dX0_customersLost_9 : decode cX0_customersLost 9 = .ok (.aload_n 0, 1) := by decide +kernel
theorem dX0_customersLost_10 : decode cX0_customersLost 10 = .ok (.getfield 27, 3) := by decide +kernel
theorem dX0_customersLost_13 : decode cX0_customersLost 13 = .ok (.aload_n 0, 1) := by decide +kernel
theorem dX0_customersLost_14 : decode cX0_customersLost 14 = .ok (.iload_n 1, 1) := by decide +kernel
theorem dX0_customersLost_15 : decode cX0_customersLost 15 = .ok (.invokevirtual 70, 3) := by decide +kernel
theorem dX0_customersLost_18 : decode cX0_customersLost 18 = .ok (.invokevirtual 67, 3) := by decide +kernel
theorem dX0_customersLost_21 : decode cX0_customersLost 21 = .ok (.istore_n 3, 1) := by decide +kernel
theorem dX0_customersLost_22 : decode cX0_customersLost 22 = .ok (.aload_n 0, 1) := by decide +kernel
theorem dX0_customersLost_23 : decode cX0_customersLost 23 = .ok (.getfield 27, 3) := by decide +kernel
theorem dX0_customersLost_26 : decode cX0_customersLost 26 = .ok (.iload_n 2, 1) := by decide +kernel
theorem dX0_customersLost_27 : decode cX0_customersLost 27 = .ok (.iload_n 3, 1) := by decide +kernel
theorem dX0_customersLost_28 : decode cX0_customersLost 28 = .ok (.iconst (-1), 1) := by decide +kernel
theorem dX0_customersLost_29 : decode cX0_customersLost 29 = .ok (.ixor, 1) := by decide +kernel
theorem dX0_customersLost_30 : decode cX0_customersLost 30 = .ok (.iand, 1) := by decide +kernel
theorem dX0_customersLost_31 : decode cX0_customersLost 31 = .ok (.invokevirtual 73, 3) := by decide +kernel
theorem dX0_customersLost_34 : decode cX0_customersLost 34 = .ok (.ireturn, 1) := by decide +kernel
set_option maxRecDepth 20000 in
theorem ggX0_countWays_X0_regionOf : GoodIn wsX0_countWays wsX0_regionOf := goodIn_r _ [6, 7, 8, 9, 10, 11, 12, 5, 13, 14, 15, 16, 17, 18, 19, 20, 21, 22, 23, 24, 25, 26, 27, 28, 79, 80, 81, 82, 83, 84, 85, 86, 87, 88, 89, 90, 91, 92, 93, 94, 95, 96] (by decide +kernel) (by decide +kernel)
set_option maxRecDepth 20000 in
theorem gX0_countWays_X0_regionOf : GoodIn wsX0_countWays (wsV RX0 76 RX0 yX0_regionOf wsX0_regionOf) := goodIn_app (goodIn_of _ (by decide +kernel)) ggX0_countWays_X0_regionOf
set_option maxRecDepth 20000 in
theorem ggX0_countWays_X0_regionsWithSources : GoodIn wsX0_countWays wsX0_regionsWithSources := goodIn_r _ [32, 14, 33, 34, 35, 18, 36, 37, 15, 16, 17, 19, 20, 21, 22, 23, 24, 25, 26, 27, 28, 79, 80, 81, 82, 83, 84, 85, 86, 87, 88, 89, 90, 91, 92, 93, 94, 95, 96] (by decide +kernel) (by decide +kernel)
set_option maxRecDepth 20000 in
theorem gX0_countWays_X0_regionsWithSources : GoodIn wsX0_countWays (wsV RX0 79 RX0 yX0_regionsWithSources wsX0_regionsWithSources) := goodIn_app (goodIn_of _ (by decide +kernel)) ggX0_countWays_X0_regionsWithSources
set_option maxRecDepth 20000 in
theorem ggX0_countWays_X0_findRegionsOfValves : GoodIn wsX0_countWays wsX0_findRegionsOfValves := goodIn_r _ [41, 14, 42, 43, 44, 45, 46, 18, 47, 48, 49, 50, 51, 52, 53, 2, 3, 4, 5, 6, 7, 8, 9, 10, 11, 12, 13, 15, 16, 17, 19, 20, 21, 22, 23, 24, 25, 26, 27, 28, 54, 55, 56, 57, 58, 79, 80, 81, 82, 83, 84, 85, 86, 87, 88, 89, 90, 91, 92, 93, 94, 95, 96] (by decide +kernel) (by decide +kernel)
set_option maxRecDepth 20000 in
theorem gX0_countWays_X0_findRegionsOfValves : GoodIn wsX0_countWays (wsV RX0 82 RX0 yX0_findRegionsOfValves wsX0_findRegionsOfValves) := goodIn_app (goodIn_of _ (by decide +kernel)) ggX0_countWays_X0_findRegionsOfValves
set_option maxRecDepth 20000 in
theorem ggX0_countWays_X0_addWay : GoodIn wsX0_countWays wsX0_addWay := goodIn_r _ [62, 14, 63, 64, 42, 43, 44, 45, 46, 18, 47, 48, 65, 66, 67, 5, 68, 1, 69, 70, 71, 72, 21, 20, 73, 8, 74, 75, 76, 77, 78, 79, 80, 81, 82, 83, 84, 85, 86, 87, 88, 89, 90, 91, 92, 93, 94, 95, 96] (by decide +kernel) (by decide +kernel)
set_option maxRecDepth 20000 in
theorem gX0_countWays_X0_addWay : GoodIn wsX0_countWays (wsV RX0 85 RX0 yX0_addWay wsX0_addWay) := goodIn_app (goodIn_of _ (by decide +kernel)) ggX0_countWays_X0_addWay
theorem dX0_countWays_0 : decode cX0_countWays 0 = .ok (.aload_n 0, 1) := by decide +kernel
theorem dX0_countWays_1 : decode cX0_countWays 1 = .ok (.iload_n 1, 1) := by decide +kernel
theorem dX0_countWays_2 : decode cX0_countWays 2 = .ok (.invokevirtual 76, 3) := by decide +kernel
theorem dX0_countWays_5 : decode cX0_countWays 5 = .ok (.istore_n 2, 1) := by decide +kernel
theorem dX0_countWays_6 : decode cX0_countWays 6 = .ok (.aload_n 0, 1) := by decide +kernel
theorem dX0_countWays_7 : decode cX0_countWays 7 = .ok (.invokevirtual 79, 3) := by decide +kernel
theorem dX0_countWays_10 : decode cX0_countWays 10 = .ok (.istore_n 3, 1) := by decide +kernel
theorem dX0_countWays_11 : decode cX0_countWays 11 = .ok (.iload_n 3, 1) := by decide +kernel
theorem dX0_countWays_12 : decode cX0_countWays 12 = .ok (.iload_n 2, 1) := by decide +kernel
theorem dX0_countWays_13 : decode cX0_countWays 13 = .ok (.iand, 1) := by decide +kernel
theorem dX0_countWays_14 : decode cX0_countWays 14 = .ok (.ifCond .eq 5, 3) := by decide +kernel
theorem dX0_countWays_17 : decode cX0_countWays 17 = .ok (.iconst (-1), 1) := by decide +kernel
theorem dX0_countWays_18 : decode cX0_countWays 18 = .ok (.ireturn, 1) := by decide +kernel
theorem dX0_countWays_19 : decode cX0_countWays 19 = .ok (.aload_n 0, 1) := by decide +kernel
theorem dX0_countWays_20 : decode cX0_countWays 20 = .ok (.invokevirtual 82, 3) := by decide +kernel
theorem dX0_countWays_23 : decode cX0_countWays 23 = .ok (.iconst 0, 1) := by decide +kernel
theorem dX0_countWays_24 : decode cX0_countWays 24 = .ok (.istore 4, 2) := by decide +kernel
theorem dX0_countWays_26 : decode cX0_countWays 26 = .ok (.iload 4, 2) := by decide +kernel
theorem dX0_countWays_28 : decode cX0_countWays 28 = .ok (.bipush 12, 2) := by decide +kernel
theorem dX0_countWays_30 : decode cX0_countWays 30 = .ok (.if_icmp .ge 17, 3) := by decide +kernel
theorem dX0_countWays_33 : decode cX0_countWays 33 = .ok (.aload_n 0, 1) := by decide +kernel
theorem dX0_countWays_34 : decode cX0_countWays 34 = .ok (.getfield 18, 3) := by decide +kernel
theorem dX0_countWays_37 : decode cX0_countWays 37 = .ok (.iload 4, 2) := by decide +kernel
theorem dX0_countWays_39 : decode cX0_countWays 39 = .ok (.iconst 0, 1) := by decide +kernel
theorem dX0_countWays_40 : decode cX0_countWays 40 = .ok (.iastore, 1) := by decide +kernel
theorem dX0_countWays_41 : decode cX0_countWays 41 = .ok (.iinc 4 1, 3) := by decide +kernel
theorem dX0_countWays_44 : decode cX0_countWays 44 = .ok (.goto (-18), 3) := by decide +kernel
theorem dX0_countWays_47 : decode cX0_countWays 47 = .ok (.iconst 0, 1) := by decide +kernel
theorem dX0_countWays_48 : decode cX0_countWays 48 = .ok (.istore 4, 2) := by decide +kernel
theorem dX0_countWays_50 : decode cX0_countWays 50 = .ok (.iload 4, 2) := by decide +kernel
theorem dX0_countWays_52 : decode cX0_countWays 52 = .ok (.bipush 12, 2) := by decide +kernel
theorem dX0_countWays_54 : decode cX0_countWays 54 = .ok (.if_icmp .ge 21, 3) := by decide +kernel
theorem dX0_countWays_57 : decode cX0_countWays 57 = .ok (.aload_n 0, 1) := by decide +kernel
theorem dX0_countWays_58 : decode cX0_countWays 58 = .ok (.iload_n 3, 1) := by decide +kernel
theorem dX0_countWays_59 : decode cX0_countWays 59 = .ok (.iload_n 2, 1) := by decide +kernel
theorem dX0_countWays_60 : decode cX0_countWays 60 = .ok (.invokevirtual 85, 3) := by decide +kernel
theorem dX0_countWays_63 : decode cX0_countWays 63 = .ok (.ifCond .ne 6, 3) := by decide +kernel
theorem dX0_countWays_66 : decode cX0_countWays 66 = .ok (.iload 4, 2) := by decide +kernel
theorem dX0_countWays_68 : decode cX0_countWays 68 = .ok (.ireturn, 1) := by decide +kernel
theorem dX0_countWays_69 : decode cX0_countWays 69 = .ok (.iinc 4 1, 3) := by decide +kernel
theorem dX0_countWays_72 : decode cX0_countWays 72 = .ok (.goto (-22), 3) := by decide +kernel
theorem dX0_countWays_75 : decode cX0_countWays 75 = .ok (.bipush 12, 2) := by decide +kernel
theorem dX0_countWays_77 : decode cX0_countWays 77 = .ok (.ireturn, 1) := by decide +kernel
set_option maxRecDepth 20000 in
theorem ggX0_findRegionsOfValves_X2_valveCount : GoodIn wsX0_findRegionsOfValves wsX2_valveCount := goodIn_r _ [8, 9, 51, 52, 53, 54, 55, 56, 57, 58, 59, 60, 61, 62] (by decide +kernel) (by decide +kernel)
set_option maxRecDepth 20000 in
theorem gX0_findRegionsOfValves_X2_valveCount : GoodIn wsX0_findRegionsOfValves (wsV RX0 51 RX2 yX2_valveCount wsX2_valveCount) := goodIn_app (goodIn_of _ (by decide +kernel)) ggX0_findRegionsOfValves_X2_valveCount
set_option maxRecDepth 20000 in
theorem ggX0_findRegionsOfValves_X2_pipeOfValve : GoodIn wsX0_findRegionsOfValves wsX2_pipeOfValve := goodIn_r _ [13, 14, 51, 52, 53, 54, 55, 56, 57, 58, 59, 60, 61, 62] (by decide +kernel) (by decide +kernel)
set_option maxRecDepth 20000 in
theorem gX0_findRegionsOfValves_X2_pipeOfValve : GoodIn wsX0_findRegionsOfValves (wsV RX0 54 RX2 yX2_pipeOfValve wsX2_pipeOfValve) := goodIn_app (goodIn_of _ (by decide +kernel)) ggX0_findRegionsOfValves_X2_pipeOfValve
set_option maxRecDepth 20000 in
theorem ggX0_findRegionsOfValves_X0_regionOf : GoodIn wsX0_findRegionsOfValves wsX0_regionOf := goodIn_r _ [19, 20, 21, 22, 23, 24, 25, 18, 26, 1, 27, 28, 29, 7, 30, 31, 32, 33, 34, 35, 36, 37, 38, 39, 45, 46, 47, 48, 49, 50, 51, 52, 53, 54, 55, 56, 57, 58, 59, 60, 61, 62] (by decide +kernel) (by decide +kernel)
set_option maxRecDepth 20000 in
theorem gX0_findRegionsOfValves_X0_regionOf : GoodIn wsX0_findRegionsOfValves (wsV RX0 76 RX0 yX0_regionOf wsX0_regionOf) := goodIn_app (goodIn_of _ (by decide +kernel)) ggX0_findRegionsOfValves_X0_regionOf
set_option maxRecDepth 20000 in
theorem ggX0_findRegionsOfValves_X2_nodeOfValve : GoodIn wsX0_findRegionsOfValves wsX2_nodeOfValve := goodIn_r _ [43, 44, 14, 51, 52, 53, 54, 55, 56, 57, 58, 59, 60, 61, 62] (by decide +kernel) (by decide +kernel)
set_option maxRecDepth 20000 in
theorem gX0_findRegionsOfValves_X2_nodeOfValve : GoodIn wsX0_findRegionsOfValves (wsV RX0 61 RX2 yX2_nodeOfValve wsX2_nodeOfValve) := goodIn_app (goodIn_of _ (by decide +kernel)) ggX0_findRegionsOfValves_X2_nodeOfValve
set_option maxRecDepth 20000 in
theorem ggX0_findRegionsOfValves_X0_regionWith : GoodIn wsX0_findRegionsOfValves wsX0_regionWith := goodIn_r _ [26, 1, 27, 28, 29, 7, 30, 31, 32, 33, 34, 35, 36, 37, 38, 39, 45, 46, 47, 48, 49, 50, 51, 52, 53, 54, 55, 56, 57, 58, 59, 60, 61, 62] (by decide +kernel) (by decide +kernel)
set_option maxRecDepth 20000 in
theorem gX0_findRegionsOfValves_X0_regionWith : GoodIn wsX0_findRegionsOfValves (wsV RX0 35 RX0 yX0_regionWith wsX0_regionWith) := goodIn_app (goodIn_of _ (by decide +kernel)) ggX0_findRegionsOfValves_X0_regionWith
theorem dX0_findRegionsOfValves_0 : decode cX0_findRegionsOfValves 0 = .ok (.iconst 0, 1) := by decide +kernel
theorem dX0_findRegionsOfValves_1 : decode cX0_findRegionsOfValves 1 = .ok (.istore_n 1, 1) := by decide +kernel
theorem dX0_findRegionsOfValves_2 : decode cX0_findRegionsOfValves 2 = .ok (.iload_n 1, 1) := by decide +kernel
theorem dX0_findRegionsOfValves_3 : decode cX0_findRegionsOfValves 3 = .ok (.aload_n 0, 1) := by decide +kernel
theorem dX0_findRegionsOfValves_4 : decode cX0_findRegionsOfValves 4 = .ok (.getfield 27, 3) := by decide +kernel
theorem dX0_findRegionsOfValves_7 : decode cX0_findRegionsOfValves 7 = .ok (.invokevirtual 51, 3) := by decide +kernel
theorem dX0_findRegionsOfValves_10 : decode cX0_findRegionsOfValves 10 = .ok (.if_icmp .ge 45, 3) := by decide +kernel
theorem dX0_findRegionsOfValves_13 : decode cX0_findRegionsOfValves 13 = .ok (.aload_n 0, 1) := by decide +kernel
theorem dX0_findRegionsOfValves_14 : decode cX0_findRegionsOfValves 14 = .ok (.getfield 9, 3) := by decide +kernel
theorem dX0_findRegionsOfValves_17 : decode cX0_findRegionsOfValves 17 = .ok (.iload_n 1, 1) := by decide +kernel
theorem dX0_findRegionsOfValves_18 : decode cX0_findRegionsOfValves 18 = .ok (.aload_n 0, 1) := by decide +kernel
theorem dX0_findRegionsOfValves_19 : decode cX0_findRegionsOfValves 19 = .ok (.aload_n 0, 1) := by decide +kernel
theorem dX0_findRegionsOfValves_20 : decode cX0_findRegionsOfValves 20 = .ok (.getfield 27, 3) := by decide +kernel
theorem dX0_findRegionsOfValves_23 : decode cX0_findRegionsOfValves 23 = .ok (.iload_n 1, 1) := by decide +kernel
theorem dX0_findRegionsOfValves_24 : decode cX0_findRegionsOfValves 24 = .ok (.invokevirtual 54, 3) := by decide +kernel
theorem dX0_findRegionsOfValves_27 : decode cX0_findRegionsOfValves 27 = .ok (.invokevirtual 76, 3) := by decide +kernel
theorem dX0_findRegionsOfValves_30 : decode cX0_findRegionsOfValves 30 = .ok (.iastore, 1) := by decide +kernel
theorem dX0_findRegionsOfValves_31 : decode cX0_findRegionsOfValves 31 = .ok (.aload_n 0, 1) := by decide +kernel
theorem dX0_findRegionsOfValves_32 : decode cX0_findRegionsOfValves 32 = .ok (.getfield 15, 3) := by decide +kernel
theorem dX0_findRegionsOfValves_35 : decode cX0_findRegionsOfValves 35 = .ok (.iload_n 1, 1) := by decide +kernel
theorem dX0_findRegionsOfValves_36 : decode cX0_findRegionsOfValves 36 = .ok (.aload_n 0, 1) := by decide +kernel
theorem dX0_findRegionsOfValves_37 : decode cX0_findRegionsOfValves 37 = .ok (.aload_n 0, 1) := by decide +kernel
theorem dX0_findRegionsOfValves_38 : decode cX0_findRegionsOfValves 38 = .ok (.getfield 27, 3) := by decide +kernel
theorem dX0_findRegionsOfValves_41 : decode cX0_findRegionsOfValves 41 = .ok (.iload_n 1, 1) := by decide +kernel
theorem dX0_findRegionsOfValves_42 : decode cX0_findRegionsOfValves 42 = .ok (.invokevirtual 61, 3) := by decide +kernel
theorem dX0_findRegionsOfValves_45 : decode cX0_findRegionsOfValves 45 = .ok (.invokevirtual 35, 3) := by decide +kernel
theorem dX0_findRegionsOfValves_48 : decode cX0_findRegionsOfValves 48 = .ok (.iastore, 1) := by decide +kernel
theorem dX0_findRegionsOfValves_49 : decode cX0_findRegionsOfValves 49 = .ok (.iinc 1 1, 3) := by decide +kernel
theorem dX0_findRegionsOfValves_52 : decode cX0_findRegionsOfValves 52 = .ok (.goto (-50), 3) := by decide +kernel
theorem dX0_findRegionsOfValves_55 : decode cX0_findRegionsOfValves 55 = .ok (.return_, 1) := by decide +kernel
set_option maxRecDepth 20000 in
theorem ggX0_addWay_X2_valveCount : GoodIn wsX0_addWay wsX2_valveCount := goodIn_r _ [10, 11, 37, 38, 39, 40, 41, 42, 43, 44, 45, 46, 47, 48] (by decide +kernel) (by decide +kernel)
set_option maxRecDepth 20000 in
theorem gX0_addWay_X2_valveCount : GoodIn wsX0_addWay (wsV RX0 51 RX2 yX2_valveCount wsX2_valveCount) := goodIn_app (goodIn_of _ (by decide +kernel)) ggX0_addWay_X2_valveCount
set_option maxRecDepth 20000 in
theorem ggX0_addWay_X0_directionAcross : GoodIn wsX0_addWay wsX0_directionAcross := goodIn_r _ [16, 4, 5, 1, 17, 18, 19, 20, 9, 21, 11, 22, 23, 24, 25, 26, 31, 32, 33, 34, 35, 36, 37, 38, 39, 40, 41, 42, 43, 44, 45, 46, 47, 48] (by decide +kernel) (by decide +kernel)
set_option maxRecDepth 20000 in
theorem gX0_addWay_X0_directionAcross : GoodIn wsX0_addWay (wsV RX0 88 RX0 yX0_directionAcross wsX0_directionAcross) := goodIn_app (goodIn_of _ (by decide +kernel)) ggX0_addWay_X0_directionAcross
set_option maxRecDepth 20000 in
theorem ggX0_addWay_X0_keepWayTo : GoodIn wsX0_addWay wsX0_keepWayTo := goodIn_r _ [30, 2, 3, 5, 4, 17, 31, 32, 33, 34, 35, 36] (by decide +kernel) (by decide +kernel)
set_option maxRecDepth 20000 in
theorem gX0_addWay_X0_keepWayTo : GoodIn wsX0_addWay (wsV RX0 91 RX0 yX0_keepWayTo wsX0_keepWayTo) := goodIn_app (goodIn_of _ (by decide +kernel)) ggX0_addWay_X0_keepWayTo
theorem dX0_addWay_0 : decode cX0_addWay 0 = .ok (.iload_n 1, 1) := by decide +kernel
theorem dX0_addWay_1 : decode cX0_addWay 1 = .ok (.istore_n 3, 1) := by decide +kernel
theorem dX0_addWay_2 : decode cX0_addWay 2 = .ok (.iconst 0, 1) := by decide +kernel
theorem dX0_addWay_3 : decode cX0_addWay 3 = .ok (.istore 4, 2) := by decide +kernel
theorem dX0_addWay_5 : decode cX0_addWay 5 = .ok (.iconst 0, 1) := by decide +kernel
theorem dX0_addWay_6 : decode cX0_addWay 6 = .ok (.istore 5, 2) := by decide +kernel
theorem dX0_addWay_8 : decode cX0_addWay 8 = .ok (.iload 5, 2) := by decide +kernel
theorem dX0_addWay_10 : decode cX0_addWay 10 = .ok (.bipush 12, 2) := by decide +kernel
theorem dX0_addWay_12 : decode cX0_addWay 12 = .ok (.if_icmp .ge 102, 3) := by decide +kernel
theorem dX0_addWay_15 : decode cX0_addWay 15 = .ok (.iload_n 3, 1) := by decide +kernel
theorem dX0_addWay_16 : decode cX0_addWay 16 = .ok (.istore 6, 2) := by decide +kernel
theorem dX0_addWay_18 : decode cX0_addWay 18 = .ok (.iconst 0, 1) := by decide +kernel
theorem dX0_addWay_19 : decode cX0_addWay 19 = .ok (.istore 7, 2) := by decide +kernel
theorem dX0_addWay_21 : decode cX0_addWay 21 = .ok (.iload 7, 2) := by decide +kernel
theorem dX0_addWay_23 : decode cX0_addWay 23 = .ok (.aload_n 0, 1) := by decide +kernel
theorem dX0_addWay_24 : decode cX0_addWay 24 = .ok (.getfield 27, 3) := by decide +kernel
theorem dX0_addWay_27 : decode cX0_addWay 27 = .ok (.invokevirtual 51, 3) := by decide +kernel
theorem dX0_addWay_30 : decode cX0_addWay 30 = .ok (.if_icmp .ge 69, 3) := by decide +kernel
theorem dX0_addWay_33 : decode cX0_addWay 33 = .ok (.aload_n 0, 1) := by decide +kernel
theorem dX0_addWay_34 : decode cX0_addWay 34 = .ok (.iload 7, 2) := by decide +kernel
theorem dX0_addWay_36 : decode cX0_addWay 36 = .ok (.iload_n 3, 1) := by decide +kernel
theorem dX0_addWay_37 : decode cX0_addWay 37 = .ok (.invokevirtual 88, 3) := by decide +kernel
theorem dX0_addWay_40 : decode cX0_addWay 40 = .ok (.istore 8, 2) := by decide +kernel
theorem dX0_addWay_42 : decode cX0_addWay 42 = .ok (.iload 8, 2) := by decide +kernel
theorem dX0_addWay_44 : decode cX0_addWay 44 = .ok (.ifCond .eq 49, 3) := by decide +kernel
theorem dX0_addWay_47 : decode cX0_addWay 47 = .ok (.iload 4, 2) := by decide +kernel
theorem dX0_addWay_49 : decode cX0_addWay 49 = .ok (.bipush 12, 2) := by decide +kernel
theorem dX0_addWay_51 : decode cX0_addWay 51 = .ok (.if_icmp .ge 42, 3) := by decide +kernel
theorem dX0_addWay_54 : decode cX0_addWay 54 = .ok (.aload_n 0, 1) := by decide +kernel
theorem dX0_addWay_55 : decode cX0_addWay 55 = .ok (.getfield 21, 3) := by decide +kernel
theorem dX0_addWay_58 : decode cX0_addWay 58 = .ok (.iload 4, 2) := by decide +kernel
theorem dX0_addWay_60 : decode cX0_addWay 60 = .ok (.iload 7, 2) := by decide +kernel
theorem dX0_addWay_62 : decode cX0_addWay 62 = .ok (.iastore, 1) := by decide +kernel
theorem dX0_addWay_63 : decode cX0_addWay 63 = .ok (.aload_n 0, 1) := by decide +kernel
theorem dX0_addWay_64 : decode cX0_addWay 64 = .ok (.getfield 24, 3) := by decide +kernel
theorem dX0_addWay_67 : decode cX0_addWay 67 = .ok (.iload 7, 2) := by decide +kernel
theorem dX0_addWay_69 : decode cX0_addWay 69 = .ok (.iload 8, 2) := by decide +kernel
theorem dX0_addWay_71 : decode cX0_addWay 71 = .ok (.iastore, 1) := by decide +kernel
theorem dX0_addWay_72 : decode cX0_addWay 72 = .ok (.iinc 4 1, 3) := by decide +kernel
theorem dX0_addWay_75 : decode cX0_addWay 75 = .ok (.iload_n 3, 1) := by decide +kernel
theorem dX0_addWay_76 : decode cX0_addWay 76 = .ok (.aload_n 0, 1) := by decide +kernel
theorem dX0_addWay_77 : decode cX0_addWay 77 = .ok (.getfield 9, 3) := by decide +kernel
theorem dX0_addWay_80 : decode cX0_addWay 80 = .ok (.iload 7, 2) := by decide +kernel
theorem dX0_addWay_82 : decode cX0_addWay 82 = .ok (.iaload, 1) := by decide +kernel
theorem dX0_addWay_83 : decode cX0_addWay 83 = .ok (.aload_n 0, 1) := by decide +kernel
theorem dX0_addWay_84 : decode cX0_addWay 84 = .ok (.getfield 15, 3) := by decide +kernel
theorem dX0_addWay_87 : decode cX0_addWay 87 = .ok (.iload 7, 2) := by decide +kernel
theorem dX0_addWay_89 : decode cX0_addWay 89 = .ok (.iaload, 1) := by decide +kernel
theorem dX0_addWay_90 : decode cX0_addWay 90 = .ok (.ior, 1) := by decide +kernel
theorem dX0_addWay_91 : decode cX0_addWay 91 = .ok (.ior, 1) := by decide +kernel
theorem dX0_addWay_92 : decode cX0_addWay 92 = .ok (.istore_n 3, 1) := by decide +kernel
theorem dX0_addWay_93 : decode cX0_addWay 93 = .ok (.iinc 7 1, 3) := by decide +kernel
theorem dX0_addWay_96 : decode cX0_addWay 96 = .ok (.goto (-75), 3) := by decide +kernel
theorem dX0_addWay_99 : decode cX0_addWay 99 = .ok (.iload_n 3, 1) := by decide +kernel
theorem dX0_addWay_100 : decode cX0_addWay 100 = .ok (.iload 6, 2) := by decide +kernel
theorem dX0_addWay_102 : decode cX0_addWay 102 = .ok (.if_icmp .ne 6, 3) := by decide +kernel
theorem dX0_addWay_105 : decode cX0_addWay 105 = .ok (.goto 9, 3) := by decide +kernel
theorem dX0_addWay_108 : decode cX0_addWay 108 = .ok (.iinc 5 1, 3) := by decide +kernel
theorem dX0_addWay_111 : decode cX0_addWay 111 = .ok (.goto (-103), 3) := by decide +kernel
theorem dX0_addWay_114 : decode cX0_addWay 114 = .ok (.iload_n 3, 1) := by decide +kernel
theorem dX0_addWay_115 : decode cX0_addWay 115 = .ok (.iload_n 2, 1) := by decide +kernel
theorem dX0_addWay_116 : decode cX0_addWay 116 = .ok (.iand, 1) := by decide +kernel
theorem dX0_addWay_117 : decode cX0_addWay 117 = .ok (.ifCond .ne 5, 3) := by decide +kernel
theorem dX0_addWay_120 : decode cX0_addWay 120 = .ok (.iconst 0, 1) := by decide +kernel
theorem dX0_addWay_121 : decode cX0_addWay 121 = .ok (.ireturn, 1) := by decide +kernel
theorem dX0_addWay_122 : decode cX0_addWay 122 = .ok (.aload_n 0, 1) := by decide +kernel
theorem dX0_addWay_123 : decode cX0_addWay 123 = .ok (.iload_n 2, 1) := by decide +kernel
theorem dX0_addWay_124 : decode cX0_addWay 124 = .ok (.iload 4, 2) := by decide +kernel
theorem dX0_addWay_126 : decode cX0_addWay 126 = .ok (.invokevirtual 91, 3) := by decide +kernel
theorem dX0_addWay_129 : decode cX0_addWay 129 = .ok (.iconst 1, 1) := by decide +kernel
theorem dX0_addWay_130 : decode cX0_addWay 130 = .ok (.ireturn, 1) := by decide +kernel
set_option maxRecDepth 20000 in
theorem ggX0_directionAcross_X2_closable : GoodIn wsX0_directionAcross wsX2_closable := goodIn_r _ [9, 10, 11, 12, 22, 23, 24, 25, 26, 27, 28, 29, 30, 31, 32, 33] (by decide +kernel) (by decide +kernel)
set_option maxRecDepth 20000 in
theorem gX0_directionAcross_X2_closable : GoodIn wsX0_directionAcross (wsV RX0 64 RX2 yX2_closable wsX2_closable) := goodIn_app (goodIn_of _ (by decide +kernel)) ggX0_directionAcross_X2_closable
set_option maxRecDepth 20000 in
theorem ggX0_directionAcross_X5_hasBit : GoodIn wsX0_directionAcross wsX5_hasBit := goodIn_r _ [15] (by decide +kernel) (by decide +kernel)
set_option maxRecDepth 20000 in
theorem gX0_directionAcross_X5_hasBit_n57 : GoodIn wsX0_directionAcross (wsX5_hasBit) := ggX0_directionAcross_X5_hasBit
theorem dX0_directionAcross_0 : decode cX0_directionAcross 0 = .ok (.iload_n 2, 1) := by decide +kernel
theorem dX0_directionAcross_1 : decode cX0_directionAcross 1 = .ok (.aload_n 0, 1) := by decide +kernel
theorem dX0_directionAcross_2 : decode cX0_directionAcross 2 = .ok (.getfield 9, 3) := by decide +kernel
theorem dX0_directionAcross_5 : decode cX0_directionAcross 5 = .ok (.iload_n 1, 1) := by decide +kernel
theorem dX0_directionAcross_6 : decode cX0_directionAcross 6 = .ok (.iaload, 1) := by decide +kernel
theorem dX0_directionAcross_7 : decode cX0_directionAcross 7 = .ok (.iand, 1) := by decide +kernel
theorem dX0_directionAcross_8 : decode cX0_directionAcross 8 = .ok (.ifCond .eq 7, 3) := by decide +kernel
theorem dX0_directionAcross_11 : decode cX0_directionAcross 11 = .ok (.iconst 1, 1) := by decide +kernel
theorem dX0_directionAcross_12 : decode cX0_directionAcross 12 = .ok (.goto 4, 3) := by decide +kernel
theorem dX0_directionAcross_15 : decode cX0_directionAcross 15 = .ok (.iconst 0, 1) := by decide +kernel
theorem dX0_directionAcross_16 : decode cX0_directionAcross 16 = .ok (.istore_n 3, 1) := by decide +kernel
theorem dX0_directionAcross_17 : decode cX0_directionAcross 17 = .ok (.iload_n 2, 1) := by decide +kernel
theorem dX0_directionAcross_18 : decode cX0_directionAcross 18 = .ok (.aload_n 0, 1) := by decide +kernel
theorem dX0_directionAcross_19 : decode cX0_directionAcross 19 = .ok (.getfield 15, 3) := by decide +kernel
theorem dX0_directionAcross_22 : decode cX0_directionAcross 22 = .ok (.iload_n 1, 1) := by decide +kernel
theorem dX0_directionAcross_23 : decode cX0_directionAcross 23 = .ok (.iaload, 1) := by decide +kernel
theorem dX0_directionAcross_24 : decode cX0_directionAcross 24 = .ok (.iand, 1) := by decide +kernel
theorem dX0_directionAcross_25 : decode cX0_directionAcross 25 = .ok (.ifCond .eq 7, 3) := by decide +kernel
theorem dX0_directionAcross_28 : decode cX0_directionAcross 28 = .ok (.iconst 1, 1) := by decide +kernel
theorem dX0_directionAcross_29 : decode cX0_directionAcross 29 = .ok (.goto 4, 3) := by decide +kernel
theorem dX0_directionAcross_32 : decode cX0_directionAcross 32 = .ok (.iconst 0, 1) := by decide +kernel
theorem dX0_directionAcross_33 : decode cX0_directionAcross 33 = .ok (.istore 4, 2) := by decide +kernel
theorem dX0_directionAcross_35 : decode cX0_directionAcross 35 = .ok (.iload_n 3, 1) := by decide +kernel
theorem dX0_directionAcross_36 : decode cX0_directionAcross 36 = .ok (.iload 4, 2) := by decide +kernel
theorem dX0_directionAcross_38 : decode cX0_directionAcross 38 = .ok (.if_icmp .eq 17, 3) := by decide +kernel
theorem dX0_directionAcross_41 : decode cX0_directionAcross 41 = .ok (.aload_n 0, 1) := by decide +kernel
theorem dX0_directionAcross_42 : decode cX0_directionAcross 42 = .ok (.getfield 27, 3) := by decide +kernel
theorem dX0_directionAcross_45 : decode cX0_directionAcross 45 = .ok (.invokevirtual 64, 3) := by decide +kernel
theorem dX0_directionAcross_48 : decode cX0_directionAcross 48 = .ok (.iload_n 1, 1) := by decide +kernel
theorem dX0_directionAcross_49 : decode cX0_directionAcross 49 = .ok (.invokestatic 57, 3) := by decide +kernel
theorem dX0_directionAcross_52 : decode cX0_directionAcross 52 = .ok (.ifCond .ne 5, 3) := by decide +kernel
theorem dX0_directionAcross_55 : decode cX0_directionAcross 55 = .ok (.iconst 0, 1) := by decide +kernel
theorem dX0_directionAcross_56 : decode cX0_directionAcross 56 = .ok (.ireturn, 1) := by decide +kernel
theorem dX0_directionAcross_57 : decode cX0_directionAcross 57 = .ok (.iload_n 3, 1) := by decide +kernel
theorem dX0_directionAcross_58 : decode cX0_directionAcross 58 = .ok (.ifCond .eq 7, 3) := by decide +kernel
theorem dX0_directionAcross_61 : decode cX0_directionAcross 61 = .ok (.iconst 1, 1) := by decide +kernel
theorem dX0_directionAcross_62 : decode cX0_directionAcross 62 = .ok (.goto 4, 3) := by decide +kernel
theorem dX0_directionAcross_65 : decode cX0_directionAcross 65 = .ok (.iconst (-1), 1) := by decide +kernel
theorem dX0_directionAcross_66 : decode cX0_directionAcross 66 = .ok (.istore 5, 2) := by decide +kernel
theorem dX0_directionAcross_68 : decode cX0_directionAcross 68 = .ok (.aload_n 0, 1) := by decide +kernel
theorem dX0_directionAcross_69 : decode cX0_directionAcross 69 = .ok (.getfield 18, 3) := by decide +kernel
theorem dX0_directionAcross_72 : decode cX0_directionAcross 72 = .ok (.iload_n 1, 1) := by decide +kernel
theorem dX0_directionAcross_73 : decode cX0_directionAcross 73 = .ok (.iaload, 1) := by decide +kernel
theorem dX0_directionAcross_74 : decode cX0_directionAcross 74 = .ok (.iload 5, 2) := by decide +kernel
theorem dX0_directionAcross_76 : decode cX0_directionAcross 76 = .ok (.if_icmp .ne 7, 3) := by decide +kernel
theorem dX0_directionAcross_79 : decode cX0_directionAcross 79 = .ok (.iconst 0, 1) := by decide +kernel
theorem dX0_directionAcross_80 : decode cX0_directionAcross 80 = .ok (.goto 5, 3) := by decide +kernel
theorem dX0_directionAcross_83 : decode cX0_directionAcross 83 = .ok (.iload 5, 2) := by decide +kernel
theorem dX0_directionAcross_85 : decode cX0_directionAcross 85 = .ok (.ireturn, 1) := by decide +kernel
theorem dX0_keepWayTo_0 : decode cX0_keepWayTo 0 = .ok (.iload_n 1, 1) := by decide +kernel
theorem dX0_keepWayTo_1 : decode cX0_keepWayTo 1 = .ok (.istore_n 3, 1) := by decide +kernel
theorem dX0_keepWayTo_2 : decode cX0_keepWayTo 2 = .ok (.iload_n 2, 1) := by decide +kernel
theorem dX0_keepWayTo_3 : decode cX0_keepWayTo 3 = .ok (.iconst 1, 1) := by decide +kernel
theorem dX0_keepWayTo_4 : decode cX0_keepWayTo 4 = .ok (.isub, 1) := by decide +kernel
theorem dX0_keepWayTo_5 : decode cX0_keepWayTo 5 = .ok (.istore 4, 2) := by decide +kernel
theorem dX0_keepWayTo_7 : decode cX0_keepWayTo 7 = .ok (.iload 4, 2) := by decide +kernel
theorem dX0_keepWayTo_9 : decode cX0_keepWayTo 9 = .ok (.ifCond .lt 105, 3) := by decide +kernel
theorem dX0_keepWayTo_12 : decode cX0_keepWayTo 12 = .ok (.aload_n 0, 1) := by decide +kernel
theorem dX0_keepWayTo_13 : decode cX0_keepWayTo 13 = .ok (.getfield 21, 3) := by decide +kernel
theorem dX0_keepWayTo_16 : decode cX0_keepWayTo 16 = .ok (.iload 4, 2) := by decide +kernel
theorem dX0_keepWayTo_18 : decode cX0_keepWayTo 18 = .ok (.iaload, 1) := by decide +kernel
theorem dX0_keepWayTo_19 : decode cX0_keepWayTo 19 = .ok (.istore 5, 2) := by decide +kernel
theorem dX0_keepWayTo_21 : decode cX0_keepWayTo 21 = .ok (.aload_n 0, 1) := by decide +kernel
theorem dX0_keepWayTo_22 : decode cX0_keepWayTo 22 = .ok (.getfield 24, 3) := by decide +kernel
theorem dX0_keepWayTo_25 : decode cX0_keepWayTo 25 = .ok (.iload 5, 2) := by decide +kernel
theorem dX0_keepWayTo_27 : decode cX0_keepWayTo 27 = .ok (.iaload, 1) := by decide +kernel
theorem dX0_keepWayTo_28 : decode cX0_keepWayTo 28 = .ok (.ifCond .le 7, 3) := by decide +kernel
theorem dX0_keepWayTo_31 : decode cX0_keepWayTo 31 = .ok (.iconst 1, 1) := by decide +kernel
theorem dX0_keepWayTo_32 : decode cX0_keepWayTo 32 = .ok (.goto 4, 3) := by decide +kernel
theorem dX0_keepWayTo_35 : decode cX0_keepWayTo 35 = .ok (.iconst 0, 1) := by decide +kernel
theorem dX0_keepWayTo_36 : decode cX0_keepWayTo 36 = .ok (.istore 6, 2) := by decide +kernel
theorem dX0_keepWayTo_38 : decode cX0_keepWayTo 38 = .ok (.iload 6, 2) := by decide +kernel
theorem dX0_keepWayTo_40 : decode cX0_keepWayTo 40 = .ok (.ifCond .eq 13, 3) := by decide +kernel
theorem dX0_keepWayTo_43 : decode cX0_keepWayTo 43 = .ok (.aload_n 0, 1) := by decide +kernel
theorem dX0_keepWayTo_44 : decode cX0_keepWayTo 44 = .ok (.getfield 15, 3) := by decide +kernel
theorem dX0_keepWayTo_47 : decode cX0_keepWayTo 47 = .ok (.iload 5, 2) := by decide +kernel
theorem dX0_keepWayTo_49 : decode cX0_keepWayTo 49 = .ok (.iaload, 1) := by decide +kernel
theorem dX0_keepWayTo_50 : decode cX0_keepWayTo 50 = .ok (.goto 10, 3) := by decide +kernel
theorem dX0_keepWayTo_53 : decode cX0_keepWayTo 53 = .ok (.aload_n 0, 1) := by decide +kernel
theorem dX0_keepWayTo_54 : decode cX0_keepWayTo 54 = .ok (.getfield 9, 3) := by decide +kernel
theorem dX0_keepWayTo_57 : decode cX0_keepWayTo 57 = .ok (.iload 5, 2) := by decide +kernel
theorem dX0_keepWayTo_59 : decode cX0_keepWayTo 59 = .ok (.iaload, 1) := by decide +kernel
theorem dX0_keepWayTo_60 : decode cX0_keepWayTo 60 = .ok (.istore 7, 2) := by decide +kernel
theorem dX0_keepWayTo_62 : decode cX0_keepWayTo 62 = .ok (.iload 7, 2) := by decide +kernel
theorem dX0_keepWayTo_64 : decode cX0_keepWayTo 64 = .ok (.iload_n 3, 1) := by decide +kernel
theorem dX0_keepWayTo_65 : decode cX0_keepWayTo 65 = .ok (.if_icmp .ne 43, 3) := by decide +kernel
theorem dX0_keepWayTo_68 : decode cX0_keepWayTo 68 = .ok (.aload_n 0, 1) := by decide +kernel
theorem dX0_keepWayTo_69 : decode cX0_keepWayTo 69 = .ok (.getfield 18, 3) := by decide +kernel
theorem dX0_keepWayTo_72 : decode cX0_keepWayTo 72 = .ok (.iload 5, 2) := by decide +kernel
theorem dX0_keepWayTo_74 : decode cX0_keepWayTo 74 = .ok (.dup2, 1) := by decide +kernel
theorem dX0_keepWayTo_75 : decode cX0_keepWayTo 75 = .ok (.iaload, 1) := by decide +kernel
theorem dX0_keepWayTo_76 : decode cX0_keepWayTo 76 = .ok (.aload_n 0, 1) := by decide +kernel
theorem dX0_keepWayTo_77 : decode cX0_keepWayTo 77 = .ok (.getfield 24, 3) := by decide +kernel
theorem dX0_keepWayTo_80 : decode cX0_keepWayTo 80 = .ok (.iload 5, 2) := by decide +kernel
theorem dX0_keepWayTo_82 : decode cX0_keepWayTo 82 = .ok (.iaload, 1) := by decide +kernel
theorem dX0_keepWayTo_83 : decode cX0_keepWayTo 83 = .ok (.iadd, 1) := by decide +kernel
theorem dX0_keepWayTo_84 : decode cX0_keepWayTo 84 = .ok (.iastore, 1) := by decide +kernel
theorem dX0_keepWayTo_85 : decode cX0_keepWayTo 85 = .ok (.iload 6, 2) := by decide +kernel
theorem dX0_keepWayTo_87 : decode cX0_keepWayTo 87 = .ok (.ifCond .eq 13, 3) := by decide +kernel
theorem dX0_keepWayTo_90 : decode cX0_keepWayTo 90 = .ok (.aload_n 0, 1) := by decide +kernel
theorem dX0_keepWayTo_91 : decode cX0_keepWayTo 91 = .ok (.getfield 9, 3) := by decide +kernel
theorem dX0_keepWayTo_94 : decode cX0_keepWayTo 94 = .ok (.iload 5, 2) := by decide +kernel
theorem dX0_keepWayTo_96 : decode cX0_keepWayTo 96 = .ok (.iaload, 1) := by decide +kernel
theorem dX0_keepWayTo_97 : decode cX0_keepWayTo 97 = .ok (.goto 10, 3) := by decide +kernel
theorem dX0_keepWayTo_100 : decode cX0_keepWayTo 100 = .ok (.aload_n 0, 1) := by decide +kernel
theorem dX0_keepWayTo_101 : decode cX0_keepWayTo 101 = .ok (.getfield 15, 3) := by decide +kernel
theorem dX0_keepWayTo_104 : decode cX0_keepWayTo 104 = .ok (.iload 5, 2) := by decide +kernel
theorem dX0_keepWayTo_106 : decode cX0_keepWayTo 106 = .ok (.iaload, 1) := by decide +kernel
theorem dX0_keepWayTo_107 : decode cX0_keepWayTo 107 = .ok (.istore_n 3, 1) := by decide +kernel
theorem dX0_keepWayTo_108 : decode cX0_keepWayTo 108 = .ok (.iinc 4 (-1), 3) := by decide +kernel
theorem dX0_keepWayTo_111 : decode cX0_keepWayTo 111 = .ok (.goto (-104), 3) := by decide +kernel
theorem dX0_keepWayTo_114 : decode cX0_keepWayTo 114 = .ok (.return_, 1) := by decide +kernel
set_option maxRecDepth 20000 in
theorem ggX0_trySets_X0_regionOf : GoodIn wsX0_trySets wsX0_regionOf := goodIn_r _ [6, 7, 8, 9, 10, 11, 12, 5, 13, 1, 14, 15, 16, 17, 18, 19, 20, 21, 22, 23, 24, 25, 26, 27, 78, 79, 80, 81, 82, 83, 84, 85, 86, 87, 88, 89, 90, 91, 92, 93, 94, 95] (by decide +kernel) (by decide +kernel)
set_option maxRecDepth 20000 in
theorem gX0_trySets_X0_regionOf : GoodIn wsX0_trySets (wsV RX0 76 RX0 yX0_regionOf wsX0_regionOf) := goodIn_app (goodIn_of _ (by decide +kernel)) ggX0_trySets_X0_regionOf
set_option maxRecDepth 20000 in
theorem ggX0_trySets_X0_regionsWithSources : GoodIn wsX0_trySets wsX0_regionsWithSources := goodIn_r _ [31, 1, 32, 33, 34, 17, 35, 36, 14, 15, 16, 18, 19, 20, 21, 22, 23, 24, 25, 26, 27, 78, 79, 80, 81, 82, 83, 84, 85, 86, 87, 88, 89, 90, 91, 92, 93, 94, 95] (by decide +kernel) (by decide +kernel)
set_option maxRecDepth 20000 in
theorem gX0_trySets_X0_regionsWithSources : GoodIn wsX0_trySets (wsV RX0 79 RX0 yX0_regionsWithSources wsX0_regionsWithSources) := goodIn_app (goodIn_of _ (by decide +kernel)) ggX0_trySets_X0_regionsWithSources
set_option maxRecDepth 20000 in
theorem ggX0_trySets_X0_findRegionsOfValves : GoodIn wsX0_trySets wsX0_findRegionsOfValves := goodIn_r _ [40, 1, 41, 42, 43, 44, 45, 17, 46, 47, 48, 49, 50, 51, 52, 2, 3, 4, 5, 6, 7, 8, 9, 10, 11, 12, 13, 14, 15, 16, 18, 19, 20, 21, 22, 23, 24, 25, 26, 27, 53, 54, 55, 56, 57, 78, 79, 80, 81, 82, 83, 84, 85, 86, 87, 88, 89, 90, 91, 92, 93, 94, 95] (by decide +kernel) (by decide +kernel)
set_option maxRecDepth 20000 in
theorem gX0_trySets_X0_findRegionsOfValves : GoodIn wsX0_trySets (wsV RX0 82 RX0 yX0_findRegionsOfValves wsX0_findRegionsOfValves) := goodIn_app (goodIn_of _ (by decide +kernel)) ggX0_trySets_X0_findRegionsOfValves
set_option maxRecDepth 20000 in
theorem ggX0_trySets_X2_closable : GoodIn wsX0_trySets wsX2_closable := goodIn_r _ [61, 47, 20, 19, 84, 85, 86, 87, 88, 89, 90, 91, 92, 93, 94, 95] (by decide +kernel) (by decide +kernel)
set_option maxRecDepth 20000 in
theorem gX0_trySets_X2_closable : GoodIn wsX0_trySets (wsV RX0 64 RX2 yX2_closable wsX2_closable) := goodIn_app (goodIn_of _ (by decide +kernel)) ggX0_trySets_X2_closable
set_option maxRecDepth 20000 in
theorem ggX0_trySets_X2_valveCount : GoodIn wsX0_trySets wsX2_valveCount := goodIn_r _ [46, 47, 84, 85, 86, 87, 88, 89, 90, 91, 92, 93, 94, 95] (by decide +kernel) (by decide +kernel)
set_option maxRecDepth 20000 in
theorem gX0_trySets_X2_valveCount : GoodIn wsX0_trySets (wsV RX0 51 RX2 yX2_valveCount wsX2_valveCount) := goodIn_app (goodIn_of _ (by decide +kernel)) ggX0_trySets_X2_valveCount
set_option maxRecDepth 20000 in
theorem ggX0_trySets_X0_wetOver : GoodIn wsX0_trySets wsX0_wetOver := goodIn_r _ [65, 1, 41, 42, 43, 44, 45, 17, 46, 47, 66, 8, 67, 78, 79, 80, 81, 82, 83, 84, 85, 86, 87, 88, 89, 90, 91, 92, 93, 94, 95] (by decide +kernel) (by decide +kernel)
set_option maxRecDepth 20000 in
theorem gX0_trySets_X0_wetOver : GoodIn wsX0_trySets (wsV RX0 95 RX0 yX0_wetOver wsX0_wetOver) := goodIn_app (goodIn_of _ (by decide +kernel)) ggX0_trySets_X0_wetOver
set_option maxRecDepth 20000 in
theorem ggX0_trySets_X0_setBehind : GoodIn wsX0_trySets wsX0_setBehind := goodIn_r _ [70, 71, 72, 73, 74, 75, 76, 77] (by decide +kernel) (by decide +kernel)
set_option maxRecDepth 20000 in
theorem gX0_trySets_X0_setBehind : GoodIn wsX0_trySets (va_wsS RX0 98 yX0_setBehind wsX0_setBehind) := goodIn_app (goodIn_of _ (by decide +kernel)) ggX0_trySets_X0_setBehind
theorem dX0_trySets_0 : decode cX0_trySets 0 = .ok (.aload_n 0, 1) := by decide +kernel
theorem dX0_trySets_1 : decode cX0_trySets 1 = .ok (.iload_n 1, 1) := by decide +kernel
theorem dX0_trySets_2 : decode cX0_trySets 2 = .ok (.invokevirtual 76, 3) := by decide +kernel
theorem dX0_trySets_5 : decode cX0_trySets 5 = .ok (.istore_n 2, 1) := by decide +kernel
theorem dX0_trySets_6 : decode cX0_trySets 6 = .ok (.aload_n 0, 1) := by decide +kernel
theorem dX0_trySets_7 : decode cX0_trySets 7 = .ok (.invokevirtual 79, 3) := by decide +kernel
theorem dX0_trySets_10 : decode cX0_trySets 10 = .ok (.istore_n 3, 1) := by decide +kernel
theorem dX0_trySets_11 : decode cX0_trySets 11 = .ok (.iload_n 3, 1) := by decide +kernel
theorem dX0_trySets_12 : decode cX0_trySets 12 = .ok (.iload_n 2, 1) := by decide +kernel
theorem dX0_trySets_13 : decode cX0_trySets 13 = .ok (.iand, 1) := by decide +kernel
theorem dX0_trySets_14 : decode cX0_trySets 14 = .ok (.ifCond .eq 5, 3) := by decide +kernel
theorem dX0_trySets_17 : decode cX0_trySets 17 = .ok (.iconst (-1), 1) := by decide +kernel
theorem dX0_trySets_18 : decode cX0_trySets 18 = .ok (.ireturn, 1) := by decide +kernel
theorem dX0_trySets_19 : decode cX0_trySets 19 = .ok (.aload_n 0, 1) := by decide +kernel
theorem dX0_trySets_20 : decode cX0_trySets 20 = .ok (.invokevirtual 82, 3) := by decide +kernel
theorem dX0_trySets_23 : decode cX0_trySets 23 = .ok (.aload_n 0, 1) := by decide +kernel
theorem dX0_trySets_24 : decode cX0_trySets 24 = .ok (.getfield 27, 3) := by decide +kernel
theorem dX0_trySets_27 : decode cX0_trySets 27 = .ok (.invokevirtual 64, 3) := by decide +kernel
theorem dX0_trySets_30 : decode cX0_trySets 30 = .ok (.istore 4, 2) := by decide +kernel
theorem dX0_trySets_32 : decode cX0_trySets 32 = .ok (.iconst 1, 1) := by decide +kernel
theorem dX0_trySets_33 : decode cX0_trySets 33 = .ok (.aload_n 0, 1) := by decide +kernel
theorem dX0_trySets_34 : decode cX0_trySets 34 = .ok (.getfield 27, 3) := by decide +kernel
theorem dX0_trySets_37 : decode cX0_trySets 37 = .ok (.invokevirtual 51, 3) := by decide +kernel
theorem dX0_trySets_40 : decode cX0_trySets 40 = .ok (.ishl, 1) := by decide +kernel
theorem dX0_trySets_41 : decode cX0_trySets 41 = .ok (.istore 5, 2) := by decide +kernel
theorem dX0_trySets_43 : decode cX0_trySets 43 = .ok (.iconst 0, 1) := by decide +kernel
theorem dX0_trySets_44 : decode cX0_trySets 44 = .ok (.istore 6, 2) := by decide +kernel
theorem dX0_trySets_46 : decode cX0_trySets 46 = .ok (.iconst 0, 1) := by decide +kernel
theorem dX0_trySets_47 : decode cX0_trySets 47 = .ok (.istore 7, 2) := by decide +kernel
theorem dX0_trySets_49 : decode cX0_trySets 49 = .ok (.iload 7, 2) := by decide +kernel
theorem dX0_trySets_51 : decode cX0_trySets 51 = .ok (.iload 5, 2) := by decide +kernel
theorem dX0_trySets_53 : decode cX0_trySets 53 = .ok (.if_icmp .ge 60, 3) := by decide +kernel
theorem dX0_trySets_56 : decode cX0_trySets 56 = .ok (.iload 6, 2) := by decide +kernel
theorem dX0_trySets_58 : decode cX0_trySets 58 = .ok (.iload 4, 2) := by decide +kernel
theorem dX0_trySets_60 : decode cX0_trySets 60 = .ok (.iconst (-1), 1) := by decide +kernel
theorem dX0_trySets_61 : decode cX0_trySets 61 = .ok (.ixor, 1) := by decide +kernel
theorem dX0_trySets_62 : decode cX0_trySets 62 = .ok (.iand, 1) := by decide +kernel
theorem dX0_trySets_63 : decode cX0_trySets 63 = .ok (.ifCond .ne 7, 3) := by decide +kernel
theorem dX0_trySets_66 : decode cX0_trySets 66 = .ok (.iconst 1, 1) := by decide +kernel
theorem dX0_trySets_67 : decode cX0_trySets 67 = .ok (.goto 4, 3) := by decide +kernel
theorem dX0_trySets_70 : decode cX0_trySets 70 = .ok (.iconst 0, 1) := by decide +kernel
theorem dX0_trySets_71 : decode cX0_trySets 71 = .ok (.istore 8, 2) := by decide +kernel
theorem dX0_trySets_73 : decode cX0_trySets 73 = .ok (.iload 8, 2) := by decide +kernel
theorem dX0_trySets_75 : decode cX0_trySets 75 = .ok (.ifCond .eq 23, 3) := by decide +kernel
theorem dX0_trySets_78 : decode cX0_trySets 78 = .ok (.aload_n 0, 1) := by decide +kernel
theorem dX0_trySets_79 : decode cX0_trySets 79 = .ok (.iload 4, 2) := by decide +kernel
theorem dX0_trySets_81 : decode cX0_trySets 81 = .ok (.iload 6, 2) := by decide +kernel
theorem dX0_trySets_83 : decode cX0_trySets 83 = .ok (.iconst (-1), 1) := by decide +kernel
theorem dX0_trySets_84 : decode cX0_trySets 84 = .ok (.ixor, 1) := by decide +kernel
theorem dX0_trySets_85 : decode cX0_trySets 85 = .ok (.iand, 1) := by decide +kernel
theorem dX0_trySets_86 : decode cX0_trySets 86 = .ok (.iload_n 3, 1) := by decide +kernel
theorem dX0_trySets_87 : decode cX0_trySets 87 = .ok (.invokevirtual 95, 3) := by decide +kernel
theorem dX0_trySets_90 : decode cX0_trySets 90 = .ok (.iload_n 2, 1) := by decide +kernel
theorem dX0_trySets_91 : decode cX0_trySets 91 = .ok (.iand, 1) := by decide +kernel
theorem dX0_trySets_92 : decode cX0_trySets 92 = .ok (.ifCond .ne 6, 3) := by decide +kernel
theorem dX0_trySets_95 : decode cX0_trySets 95 = .ok (.iload 6, 2) := by decide +kernel
theorem dX0_trySets_97 : decode cX0_trySets 97 = .ok (.ireturn, 1) := by decide +kernel
theorem dX0_trySets_98 : decode cX0_trySets 98 = .ok (.iload 6, 2) := by decide +kernel
theorem dX0_trySets_100 : decode cX0_trySets 100 = .ok (.iload 5, 2) := by decide +kernel
theorem dX0_trySets_102 : decode cX0_trySets 102 = .ok (.invokestatic 98, 3) := by decide +kernel
theorem dX0_trySets_105 : decode cX0_trySets 105 = .ok (.istore 6, 2) := by decide +kernel
theorem dX0_trySets_107 : decode cX0_trySets 107 = .ok (.iinc 7 1, 3) := by decide +kernel
theorem dX0_trySets_110 : decode cX0_trySets 110 = .ok (.goto (-61), 3) := by decide +kernel
theorem dX0_trySets_113 : decode cX0_trySets 113 = .ok (.iconst (-1), 1) := by decide +kernel
theorem dX0_trySets_114 : decode cX0_trySets 114 = .ok (.ireturn, 1) := by decide +kernel
set_option maxRecDepth 20000 in
theorem ggX0_wetOver_X2_valveCount : GoodIn wsX0_wetOver wsX2_valveCount := goodIn_r _ [8, 9, 19, 20, 21, 22, 23, 24, 25, 26, 27, 28, 29, 30] (by decide +kernel) (by decide +kernel)
set_option maxRecDepth 20000 in
theorem gX0_wetOver_X2_valveCount : GoodIn wsX0_wetOver (wsV RX0 51 RX2 yX2_valveCount wsX2_valveCount) := goodIn_app (goodIn_of _ (by decide +kernel)) ggX0_wetOver_X2_valveCount
set_option maxRecDepth 20000 in
theorem ggX0_wetOver_X5_hasBit : GoodIn wsX0_wetOver wsX5_hasBit := goodIn_r _ [12] (by decide +kernel) (by decide +kernel)
set_option maxRecDepth 20000 in
theorem gX0_wetOver_X5_hasBit_n57 : GoodIn wsX0_wetOver (wsX5_hasBit) := ggX0_wetOver_X5_hasBit
theorem dX0_wetOver_0 : decode cX0_wetOver 0 = .ok (.iload_n 2, 1) := by decide +kernel
theorem dX0_wetOver_1 : decode cX0_wetOver 1 = .ok (.istore_n 3, 1) := by decide +kernel
theorem dX0_wetOver_2 : decode cX0_wetOver 2 = .ok (.iconst 0, 1) := by decide +kernel
theorem dX0_wetOver_3 : decode cX0_wetOver 3 = .ok (.istore 4, 2) := by decide +kernel
theorem dX0_wetOver_5 : decode cX0_wetOver 5 = .ok (.iload 4, 2) := by decide +kernel
theorem dX0_wetOver_7 : decode cX0_wetOver 7 = .ok (.bipush 12, 2) := by decide +kernel
theorem dX0_wetOver_9 : decode cX0_wetOver 9 = .ok (.if_icmp .ge 80, 3) := by decide +kernel
theorem dX0_wetOver_12 : decode cX0_wetOver 12 = .ok (.iload_n 3, 1) := by decide +kernel
theorem dX0_wetOver_13 : decode cX0_wetOver 13 = .ok (.istore 5, 2) := by decide +kernel
theorem dX0_wetOver_15 : decode cX0_wetOver 15 = .ok (.iconst 0, 1) := by decide +kernel
theorem dX0_wetOver_16 : decode cX0_wetOver 16 = .ok (.istore 6, 2) := by decide +kernel
theorem dX0_wetOver_18 : decode cX0_wetOver 18 = .ok (.iload 6, 2) := by decide +kernel
theorem dX0_wetOver_20 : decode cX0_wetOver 20 = .ok (.aload_n 0, 1) := by decide +kernel
theorem dX0_wetOver_21 : decode cX0_wetOver 21 = .ok (.getfield 27, 3) := by decide +kernel
theorem dX0_wetOver_24 : decode cX0_wetOver 24 = .ok (.invokevirtual 51, 3) := by decide +kernel
theorem dX0_wetOver_27 : decode cX0_wetOver 27 = .ok (.if_icmp .ge 47, 3) := by decide +kernel
theorem dX0_wetOver_30 : decode cX0_wetOver 30 = .ok (.aload_n 0, 1) := by decide +kernel
theorem dX0_wetOver_31 : decode cX0_wetOver 31 = .ok (.getfield 9, 3) := by decide +kernel
theorem dX0_wetOver_34 : decode cX0_wetOver 34 = .ok (.iload 6, 2) := by decide +kernel
theorem dX0_wetOver_36 : decode cX0_wetOver 36 = .ok (.iaload, 1) := by decide +kernel
theorem dX0_wetOver_37 : decode cX0_wetOver 37 = .ok (.aload_n 0, 1) := by decide +kernel
theorem dX0_wetOver_38 : decode cX0_wetOver 38 = .ok (.getfield 15, 3) := by decide +kernel
theorem dX0_wetOver_41 : decode cX0_wetOver 41 = .ok (.iload 6, 2) := by decide +kernel
theorem dX0_wetOver_43 : decode cX0_wetOver 43 = .ok (.iaload, 1) := by decide +kernel
theorem dX0_wetOver_44 : decode cX0_wetOver 44 = .ok (.ior, 1) := by decide +kernel
theorem dX0_wetOver_45 : decode cX0_wetOver 45 = .ok (.istore 7, 2) := by decide +kernel
theorem dX0_wetOver_47 : decode cX0_wetOver 47 = .ok (.iload_n 1, 1) := by decide +kernel
theorem dX0_wetOver_48 : decode cX0_wetOver 48 = .ok (.iload 6, 2) := by decide +kernel
theorem dX0_wetOver_50 : decode cX0_wetOver 50 = .ok (.invokestatic 57, 3) := by decide +kernel
theorem dX0_wetOver_53 : decode cX0_wetOver 53 = .ok (.ifCond .eq 15, 3) := by decide +kernel
theorem dX0_wetOver_56 : decode cX0_wetOver 56 = .ok (.iload_n 3, 1) := by decide +kernel
theorem dX0_wetOver_57 : decode cX0_wetOver 57 = .ok (.iload 7, 2) := by decide +kernel
theorem dX0_wetOver_59 : decode cX0_wetOver 59 = .ok (.iand, 1) := by decide +kernel
theorem dX0_wetOver_60 : decode cX0_wetOver 60 = .ok (.ifCond .eq 8, 3) := by decide +kernel
theorem dX0_wetOver_63 : decode cX0_wetOver 63 = .ok (.iload_n 3, 1) := by decide +kernel
theorem dX0_wetOver_64 : decode cX0_wetOver 64 = .ok (.iload 7, 2) := by decide +kernel
theorem dX0_wetOver_66 : decode cX0_wetOver 66 = .ok (.ior, 1) := by decide +kernel
theorem dX0_wetOver_67 : decode cX0_wetOver 67 = .ok (.istore_n 3, 1) := by decide +kernel
theorem dX0_wetOver_68 : decode cX0_wetOver 68 = .ok (.iinc 6 1, 3) := by decide +kernel
theorem dX0_wetOver_71 : decode cX0_wetOver 71 = .ok (.goto (-53), 3) := by decide +kernel
theorem dX0_wetOver_74 : decode cX0_wetOver 74 = .ok (.iload_n 3, 1) := by decide +kernel
theorem dX0_wetOver_75 : decode cX0_wetOver 75 = .ok (.iload 5, 2) := by decide +kernel
theorem dX0_wetOver_77 : decode cX0_wetOver 77 = .ok (.if_icmp .ne 6, 3) := by decide +kernel
theorem dX0_wetOver_80 : decode cX0_wetOver 80 = .ok (.goto 9, 3) := by decide +kernel
theorem dX0_wetOver_83 : decode cX0_wetOver 83 = .ok (.iinc 4 1, 3) := by decide +kernel
theorem dX0_wetOver_86 : decode cX0_wetOver 86 = .ok (.goto (-81), 3) := by decide +kernel
theorem dX0_wetOver_89 : decode cX0_wetOver 89 = .ok (.iload_n 3, 1) := by decide +kernel
theorem dX0_wetOver_90 : decode cX0_wetOver 90 = .ok (.ireturn, 1) := by decide +kernel
set_option maxRecDepth 20000 in
theorem ggX0_setBehind_J6_bitCount_0f7a4 : GoodIn wsX0_setBehind wsJ6_bitCount_0f7a4 := goodIn_r _ [4, 5, 6, 7] (by decide +kernel) (by decide +kernel)
set_option maxRecDepth 20000 in
theorem gX0_setBehind_J6_bitCount_0f7a4 : GoodIn wsX0_setBehind (va_wsS RX0 101 yJ6_bitCount_0f7a4 wsJ6_bitCount_0f7a4) := goodIn_app (goodIn_of _ (by decide +kernel)) ggX0_setBehind_J6_bitCount_0f7a4
theorem dX0_setBehind_0 : decode cX0_setBehind 0 = .ok (.iload_n 0, 1) := by decide +kernel
theorem dX0_setBehind_1 : decode cX0_setBehind 1 = .ok (.iload_n 0, 1) := by decide +kernel
theorem dX0_setBehind_2 : decode cX0_setBehind 2 = .ok (.ineg, 1) := by decide +kernel
theorem dX0_setBehind_3 : decode cX0_setBehind 3 = .ok (.iand, 1) := by decide +kernel
theorem dX0_setBehind_4 : decode cX0_setBehind 4 = .ok (.istore_n 2, 1) := by decide +kernel
theorem dX0_setBehind_5 : decode cX0_setBehind 5 = .ok (.iload_n 2, 1) := by decide +kernel
theorem dX0_setBehind_6 : decode cX0_setBehind 6 = .ok (.ifCond .ne 5, 3) := by decide +kernel
theorem dX0_setBehind_9 : decode cX0_setBehind 9 = .ok (.iconst 1, 1) := by decide +kernel
theorem dX0_setBehind_10 : decode cX0_setBehind 10 = .ok (.ireturn, 1) := by decide +kernel
theorem dX0_setBehind_11 : decode cX0_setBehind 11 = .ok (.iload_n 0, 1) := by decide +kernel
theorem dX0_setBehind_12 : decode cX0_setBehind 12 = .ok (.iload_n 2, 1) := by decide +kernel
theorem dX0_setBehind_13 : decode cX0_setBehind 13 = .ok (.iadd, 1) := by decide +kernel
theorem dX0_setBehind_14 : decode cX0_setBehind 14 = .ok (.istore_n 3, 1) := by decide +kernel
theorem dX0_setBehind_15 : decode cX0_setBehind 15 = .ok (.iload_n 3, 1) := by decide +kernel
theorem dX0_setBehind_16 : decode cX0_setBehind 16 = .ok (.iload_n 0, 1) := by decide +kernel
theorem dX0_setBehind_17 : decode cX0_setBehind 17 = .ok (.iload_n 3, 1) := by decide +kernel
theorem dX0_setBehind_18 : decode cX0_setBehind 18 = .ok (.ixor, 1) := by decide +kernel
theorem dX0_setBehind_19 : decode cX0_setBehind 19 = .ok (.iload_n 2, 1) := by decide +kernel
theorem dX0_setBehind_20 : decode cX0_setBehind 20 = .ok (.idiv, 1) := by decide +kernel
theorem dX0_setBehind_21 : decode cX0_setBehind 21 = .ok (.iconst 2, 1) := by decide +kernel
theorem dX0_setBehind_22 : decode cX0_setBehind 22 = .ok (.ishr, 1) := by decide +kernel
theorem dX0_setBehind_23 : decode cX0_setBehind 23 = .ok (.ior, 1) := by decide +kernel
theorem dX0_setBehind_24 : decode cX0_setBehind 24 = .ok (.istore 4, 2) := by decide +kernel
theorem dX0_setBehind_26 : decode cX0_setBehind 26 = .ok (.iload 4, 2) := by decide +kernel
theorem dX0_setBehind_28 : decode cX0_setBehind 28 = .ok (.iload_n 1, 1) := by decide +kernel
theorem dX0_setBehind_29 : decode cX0_setBehind 29 = .ok (.if_icmp .ge 8, 3) := by decide +kernel
theorem dX0_setBehind_32 : decode cX0_setBehind 32 = .ok (.iload 4, 2) := by decide +kernel
theorem dX0_setBehind_34 : decode cX0_setBehind 34 = .ok (.goto 11, 3) := by decide +kernel
theorem dX0_setBehind_37 : decode cX0_setBehind 37 = .ok (.iconst 2, 1) := by decide +kernel
theorem dX0_setBehind_38 : decode cX0_setBehind 38 = .ok (.iload_n 0, 1) := by decide +kernel
theorem dX0_setBehind_39 : decode cX0_setBehind 39 = .ok (.invokestatic 101, 3) := by decide +kernel
theorem dX0_setBehind_42 : decode cX0_setBehind 42 = .ok (.ishl, 1) := by decide +kernel
theorem dX0_setBehind_43 : decode cX0_setBehind 43 = .ok (.iconst 1, 1) := by decide +kernel
theorem dX0_setBehind_44 : decode cX0_setBehind 44 = .ok (.isub, 1) := by decide +kernel
theorem dX0_setBehind_45 : decode cX0_setBehind 45 = .ok (.ireturn, 1) := by decide +kernel
theorem dX1_init_0 : decode cX1_init 0 = .ok (.aload_n 0, 1) := by decide +kernel
theorem dX1_init_1 : decode cX1_init 1 = .ok (.invokespecial 3, 3) := by decide +kernel
theorem dX1_init_4 : decode cX1_init 4 = .ok (.aload_n 0, 1) := by decide +kernel
theorem dX1_init_5 : decode cX1_init 5 = .ok (.bipush 12, 2) := by decide +kernel
theorem dX1_init_7 : decode cX1_init 7 = .ok (.newarray .int, 2) := by decide +kernel
theorem dX1_init_9 : decode cX1_init 9 = .ok (.putfield 9, 3) := by decide +kernel
theorem dX1_init_12 : decode cX1_init 12 = .ok (.aload_n 0, 1) := by decide +kernel
theorem dX1_init_13 : decode cX1_init 13 = .ok (.aload_n 1, 1) := by decide +kernel
theorem dX1_init_14 : decode cX1_init 14 = .ok (.putfield 15, 3) := by decide +kernel
theorem dX1_init_17 : decode cX1_init 17 = .ok (.return_, 1) := by decide +kernel
set_option maxRecDepth 20000 in
theorem ggX1_distanceOf_X1_measure : GoodIn wsX1_distanceOf wsX1_measure := goodIn_r _ [7, 1, 8, 2, 9, 10, 11, 12, 13, 14, 15, 16, 17, 18, 19, 20, 21, 22, 23, 24, 25, 26, 27, 28, 29, 30, 31, 32, 33, 34, 35, 36, 37, 38, 39, 40, 6, 41, 42, 43, 44, 45, 46, 47, 48, 49, 50, 51, 52, 53, 54, 55, 56, 57, 58, 59, 60, 61, 62, 63, 64, 65, 66, 67, 68, 69] (by decide +kernel) (by decide +kernel)
set_option maxRecDepth 20000 in
theorem gX1_distanceOf_X1_measure : GoodIn wsX1_distanceOf (wsV RX1 19 RX1 yX1_measure wsX1_measure) := goodIn_app (goodIn_of _ (by decide +kernel)) ggX1_distanceOf_X1_measure
theorem dX1_distanceOf_0 : decode cX1_distanceOf 0 = .ok (.aload_n 0, 1) := by decide +kernel
theorem dX1_distanceOf_1 : decode cX1_distanceOf 1 = .ok (.invokevirtual 19, 3) := by decide +kernel
theorem dX1_distanceOf_4 : decode cX1_distanceOf 4 = .ok (.aload_n 0, 1) := by decide +kernel
theorem dX1_distanceOf_5 : decode cX1_distanceOf 5 = .ok (.getfield 9, 3) := by decide +kernel
theorem dX1_distanceOf_8 : decode cX1_distanceOf 8 = .ok (.iload_n 1, 1) := by decide +kernel
theorem dX1_distanceOf_9 : decode cX1_distanceOf 9 = .ok (.iaload, 1) := by decide +kernel
theorem dX1_distanceOf_10 : decode cX1_distanceOf 10 = .ok (.ldc 22, 2) := by decide +kernel
theorem dX1_distanceOf_12 : decode cX1_distanceOf 12 = .ok (.if_icmp .ge 12, 3) := by decide +kernel
theorem dX1_distanceOf_15 : decode cX1_distanceOf 15 = .ok (.aload_n 0, 1) := by decide +kernel
theorem dX1_distanceOf_16 : decode cX1_distanceOf 16 = .ok (.getfield 9, 3) := by decide +kernel
theorem dX1_distanceOf_19 : decode cX1_distanceOf 19 = .ok (.iload_n 1, 1) := by decide +kernel
theorem dX1_distanceOf_20 : decode cX1_distanceOf 20 = .ok (.iaload, 1) := by decide +kernel
theorem dX1_distanceOf_21 : decode cX1_distanceOf 21 = .ok (.goto 4, 3) := by decide +kernel
theorem dX1_distanceOf_24 : decode cX1_distanceOf 24 = .ok (.iconst (-1), 1) := by decide +kernel
theorem dX1_distanceOf_25 : decode cX1_distanceOf 25 = .ok (.ireturn, 1) := by decide +kernel
set_option maxRecDepth 20000 in
theorem ggX1_measure_X2_sources : GoodIn wsX1_measure wsX2_sources := goodIn_r _ [8, 9, 54, 55, 56, 57, 58, 59, 60, 61, 62, 63, 64, 65] (by decide +kernel) (by decide +kernel)
set_option maxRecDepth 20000 in
theorem gX1_measure_X2_sources : GoodIn wsX1_measure (wsV RX1 23 RX2 yX2_sources wsX2_sources) := goodIn_app (goodIn_of _ (by decide +kernel)) ggX1_measure_X2_sources
set_option maxRecDepth 20000 in
theorem ggX1_measure_X5_hasBit : GoodIn wsX1_measure wsX5_hasBit := goodIn_r _ [12] (by decide +kernel) (by decide +kernel)
set_option maxRecDepth 20000 in
theorem gX1_measure_X5_hasBit_n29 : GoodIn wsX1_measure (wsX5_hasBit) := ggX1_measure_X5_hasBit
set_option maxRecDepth 20000 in
theorem ggX1_measure_X2_nodeCount : GoodIn wsX1_measure wsX2_nodeCount := goodIn_r _ [16, 17, 54, 55, 56, 57, 58, 59, 60, 61, 62, 63, 64, 65] (by decide +kernel) (by decide +kernel)
set_option maxRecDepth 20000 in
theorem gX1_measure_X2_nodeCount : GoodIn wsX1_measure (wsV RX1 33 RX2 yX2_nodeCount wsX2_nodeCount) := goodIn_app (goodIn_of _ (by decide +kernel)) ggX1_measure_X2_nodeCount
set_option maxRecDepth 20000 in
theorem ggX1_measure_X2_pipeCount : GoodIn wsX1_measure wsX2_pipeCount := goodIn_r _ [21, 22, 54, 55, 56, 57, 58, 59, 60, 61, 62, 63, 64, 65] (by decide +kernel) (by decide +kernel)
set_option maxRecDepth 20000 in
theorem gX1_measure_X2_pipeCount : GoodIn wsX1_measure (wsV RX1 36 RX2 yX2_pipeCount wsX2_pipeCount) := goodIn_app (goodIn_of _ (by decide +kernel)) ggX1_measure_X2_pipeCount
set_option maxRecDepth 20000 in
theorem ggX1_measure_X2_isShutAt : GoodIn wsX1_measure wsX2_isShutAt := goodIn_r _ [26, 27, 28, 29, 30, 7, 31, 32, 54, 55, 56, 57, 58, 59, 60, 61, 62, 63, 64, 65] (by decide +kernel) (by decide +kernel)
set_option maxRecDepth 20000 in
theorem gX1_measure_X2_isShutAt : GoodIn wsX1_measure (wsV RX1 39 RX2 yX2_isShutAt wsX2_isShutAt) := goodIn_app (goodIn_of _ (by decide +kernel)) ggX1_measure_X2_isShutAt
set_option maxRecDepth 20000 in
theorem ggX1_measure_X1_shorten : GoodIn wsX1_measure wsX1_shorten := goodIn_r _ [37, 2, 1, 38, 39, 40, 41, 42, 43, 44, 7, 45, 46, 47, 48, 49, 50, 51, 52, 53, 54, 55, 56, 57, 58, 59, 60, 61, 62, 63, 64, 65] (by decide +kernel) (by decide +kernel)
set_option maxRecDepth 20000 in
theorem gX1_measure_X1_shorten : GoodIn wsX1_measure (wsV RX1 42 RX1 yX1_shorten wsX1_shorten) := goodIn_app (goodIn_of _ (by decide +kernel)) ggX1_measure_X1_shorten
theorem dX1_measure_0 : decode cX1_measure 0 = .ok (.iconst 0, 1) := by decide +kernel
theorem dX1_measure_1 : decode cX1_measure 1 = .ok (.istore_n 1, 1) := by decide +kernel
theorem dX1_measure_2 : decode cX1_measure 2 = .ok (.iload_n 1, 1) := by decide +kernel
theorem dX1_measure_3 : decode cX1_measure 3 = .ok (.bipush 12, 2) := by decide +kernel
theorem dX1_measure_5 : decode cX1_measure 5 = .ok (.if_icmp .ge 35, 3) := by decide +kernel
theorem dX1_measure_8 : decode cX1_measure 8 = .ok (.aload_n 0, 1) := by decide +kernel
theorem dX1_measure_9 : decode cX1_measure 9 = .ok (.getfield 9, 3) := by decide +kernel
theorem dX1_measure_12 : decode cX1_measure 12 = .ok (.iload_n 1, 1) := by decide +kernel
theorem dX1_measure_13 : decode cX1_measure 13 = .ok (.aload_n 0, 1) := by decide +kernel
theorem dX1_measure_14 : decode cX1_measure 14 = .ok (.getfield 15, 3) := by decide +kernel
theorem dX1_measure_17 : decode cX1_measure 17 = .ok (.invokevirtual 23, 3) := by decide +kernel
theorem dX1_measure_20 : decode cX1_measure 20 = .ok (.iload_n 1, 1) := by decide +kernel
theorem dX1_measure_21 : decode cX1_measure 21 = .ok (.invokestatic 29, 3) := by decide +kernel
theorem dX1_measure_24 : decode cX1_measure 24 = .ok (.ifCond .eq 7, 3) := by decide +kernel
theorem dX1_measure_27 : decode cX1_measure 27 = .ok (.iconst 0, 1) := by decide +kernel
theorem dX1_measure_28 : decode cX1_measure 28 = .ok (.goto 5, 3) := by decide +kernel
theorem dX1_measure_31 : decode cX1_measure 31 = .ok (.ldc 22, 2) := by decide +kernel
theorem dX1_measure_33 : decode cX1_measure 33 = .ok (.iastore, 1) := by decide +kernel
theorem dX1_measure_34 : decode cX1_measure 34 = .ok (.iinc 1 1, 3) := by decide +kernel
theorem dX1_measure_37 : decode cX1_measure 37 = .ok (.goto (-35), 3) := by decide +kernel
theorem dX1_measure_40 : decode cX1_measure 40 = .ok (.iconst 1, 1) := by decide +kernel
theorem dX1_measure_41 : decode cX1_measure 41 = .ok (.istore_n 1, 1) := by decide +kernel
theorem dX1_measure_42 : decode cX1_measure 42 = .ok (.iload_n 1, 1) := by decide +kernel
theorem dX1_measure_43 : decode cX1_measure 43 = .ok (.aload_n 0, 1) := by decide +kernel
theorem dX1_measure_44 : decode cX1_measure 44 = .ok (.getfield 15, 3) := by decide +kernel
theorem dX1_measure_47 : decode cX1_measure 47 = .ok (.invokevirtual 33, 3) := by decide +kernel
theorem dX1_measure_50 : decode cX1_measure 50 = .ok (.if_icmp .ge 57, 3) := by decide +kernel
theorem dX1_measure_53 : decode cX1_measure 53 = .ok (.iconst 0, 1) := by decide +kernel
theorem dX1_measure_54 : decode cX1_measure 54 = .ok (.istore_n 2, 1) := by decide +kernel
theorem dX1_measure_55 : decode cX1_measure 55 = .ok (.iload_n 2, 1) := by decide +kernel
theorem dX1_measure_56 : decode cX1_measure 56 = .ok (.aload_n 0, 1) := by decide +kernel
theorem dX1_measure_57 : decode cX1_measure 57 = .ok (.getfield 15, 3) := by decide +kernel
theorem dX1_measure_60 : decode cX1_measure 60 = .ok (.invokevirtual 36, 3) := by decide +kernel
theorem dX1_measure_63 : decode cX1_measure 63 = .ok (.if_icmp .ge 38, 3) := by decide +kernel
theorem dX1_measure_66 : decode cX1_measure 66 = .ok (.aload_n 0, 1) := by decide +kernel
theorem dX1_measure_67 : decode cX1_measure 67 = .ok (.getfield 15, 3) := by decide +kernel
theorem dX1_measure_70 : decode cX1_measure 70 = .ok (.iload_n 2, 1) := by decide +kernel
theorem dX1_measure_71 : decode cX1_measure 71 = .ok (.iconst 0, 1) := by decide +kernel
theorem dX1_measure_72 : decode cX1_measure 72 = .ok (.invokevirtual 39, 3) := by decide +kernel
theorem dX1_measure_75 : decode cX1_measure 75 = .ok (.ifCond .ne 20, 3) := by decide +kernel
theorem dX1_measure_78 : decode cX1_measure 78 = .ok (.aload_n 0, 1) := by decide +kernel
theorem dX1_measure_79 : decode cX1_measure 79 = .ok (.getfield 15, 3) := by decide +kernel
theorem dX1_measure_82 : decode cX1_measure 82 = .ok (.iload_n 2, 1) := by decide +kernel
theorem dX1_measure_83 : decode cX1_measure 83 = .ok (.iconst 1, 1) := by decide +kernel
theorem dX1_measure_84 : decode cX1_measure 84 = .ok (.invokevirtual 39, 3) := by decide +kernel
theorem dX1_measure_87 : decode cX1_measure 87 = .ok (.ifCond .ne 8, 3) := by decide +kernel
theorem dX1_measure_90 : decode cX1_measure 90 = .ok (.aload_n 0, 1) := by decide +kernel
theorem dX1_measure_91 : decode cX1_measure 91 = .ok (.iload_n 2, 1) := by decide +kernel
theorem dX1_measure_92 : decode cX1_measure 92 = .ok (.invokevirtual 42, 3) := by decide +kernel
theorem dX1_measure_95 : decode cX1_measure 95 = .ok (.iinc 2 1, 3) := by decide +kernel
theorem dX1_measure_98 : decode cX1_measure 98 = .ok (.goto (-43), 3) := by decide +kernel
theorem dX1_measure_101 : decode cX1_measure 101 = .ok (.iinc 1 1, 3) := by decide +kernel
theorem dX1_measure_104 : decode cX1_measure 104 = .ok (.goto (-62), 3) := by decide +kernel
theorem dX1_measure_107 : decode cX1_measure 107 = .ok (.return_, 1) := by decide +kernel
set_option maxRecDepth 20000 in
theorem ggX1_shorten_X2_nodeAt : GoodIn wsX1_shorten wsX2_nodeAt := goodIn_r _ [11, 12, 20, 21, 22, 23, 24, 25, 26, 27, 28, 29, 30, 31] (by decide +kernel) (by decide +kernel)
set_option maxRecDepth 20000 in
theorem gX1_shorten_X2_nodeAt : GoodIn wsX1_shorten (wsV RX1 46 RX2 yX2_nodeAt wsX2_nodeAt) := goodIn_app (goodIn_of _ (by decide +kernel)) ggX1_shorten_X2_nodeAt
set_option maxRecDepth 20000 in
theorem ggX1_shorten_X2_lengthOf : GoodIn wsX1_shorten wsX2_lengthOf := goodIn_r _ [16, 17, 20, 21, 22, 23, 24, 25, 26, 27, 28, 29, 30, 31] (by decide +kernel) (by decide +kernel)
set_option maxRecDepth 20000 in
theorem gX1_shorten_X2_lengthOf : GoodIn wsX1_shorten (wsV RX1 50 RX2 yX2_lengthOf wsX2_lengthOf) := goodIn_app (goodIn_of _ (by decide +kernel)) ggX1_shorten_X2_lengthOf
theorem dX1_shorten_0 : decode cX1_shorten 0 = .ok (.aload_n 0, 1) := by decide +kernel
theorem dX1_shorten_1 : decode cX1_shorten 1 = .ok (.getfield 15, 3) := by decide +kernel
theorem dX1_shorten_4 : decode cX1_shorten 4 = .ok (.iload_n 1, 1) := by decide +kernel
theorem dX1_shorten_5 : decode cX1_shorten 5 = .ok (.iconst 0, 1) := by decide +kernel
theorem dX1_shorten_6 : decode cX1_shorten 6 = .ok (.invokevirtual 46, 3) := by decide +kernel
theorem dX1_shorten_9 : decode cX1_shorten 9 = .ok (.istore_n 2, 1) := by decide +kernel
theorem dX1_shorten_10 : decode cX1_shorten 10 = .ok (.aload_n 0, 1) := by decide +kernel
theorem dX1_shorten_11 : decode cX1_shorten 11 = .ok (.getfield 15, 3) := by decide +kernel
theorem dX1_shorten_14 : decode cX1_shorten 14 = .ok (.iload_n 1, 1) := by decide +kernel
theorem dX1_shorten_15 : decode cX1_shorten 15 = .ok (.iconst 1, 1) := by decide +kernel
theorem dX1_shorten_16 : decode cX1_shorten 16 = .ok (.invokevirtual 46, 3) := by decide +kernel
theorem dX1_shorten_19 : decode cX1_shorten 19 = .ok (.istore_n 3, 1) := by decide +kernel
theorem dX1_shorten_20 : decode cX1_shorten 20 = .ok (.aload_n 0, 1) := by decide +kernel
theorem dX1_shorten_21 : decode cX1_shorten 21 = .ok (.getfield 15, 3) := by decide +kernel
theorem dX1_shorten_24 : decode cX1_shorten 24 = .ok (.iload_n 1, 1) := by decide +kernel
theorem dX1_shorten_25 : decode cX1_shorten 25 = .ok (.invokevirtual 50, 3) := by decide +kernel
theorem dX1_shorten_28 : decode cX1_shorten 28 = .ok (.istore 4, 2) := by decide +kernel
theorem dX1_shorten_30 : decode cX1_shorten 30 = .ok (.aload_n 0, 1) := by decide +kernel
theorem dX1_shorten_31 : decode cX1_shorten 31 = .ok (.getfield 9, 3) := by decide +kernel
theorem dX1_shorten_34 : decode cX1_shorten 34 = .ok (.iload_n 3, 1) := by decide +kernel
theorem dX1_shorten_35 : decode cX1_shorten 35 = .ok (.aload_n 0, 1) := by decide +kernel
theorem dX1_shorten_36 : decode cX1_shorten 36 = .ok (.getfield 9, 3) := by decide +kernel
theorem dX1_shorten_39 : decode cX1_shorten 39 = .ok (.iload_n 3, 1) := by decide +kernel
theorem dX1_shorten_40 : decode cX1_shorten 40 = .ok (.iaload, 1) := by decide +kernel
theorem dX1_shorten_41 : decode cX1_shorten 41 = .ok (.aload_n 0, 1) := by decide +kernel
theorem dX1_shorten_42 : decode cX1_shorten 42 = .ok (.getfield 9, 3) := by decide +kernel
theorem dX1_shorten_45 : decode cX1_shorten 45 = .ok (.iload_n 2, 1) := by decide +kernel
theorem dX1_shorten_46 : decode cX1_shorten 46 = .ok (.iaload, 1) := by decide +kernel
theorem dX1_shorten_47 : decode cX1_shorten 47 = .ok (.iload 4, 2) := by decide +kernel
theorem dX1_shorten_49 : decode cX1_shorten 49 = .ok (.iadd, 1) := by decide +kernel
theorem dX1_shorten_50 : decode cX1_shorten 50 = .ok (.invokestatic 54, 3) := by decide +kernel
theorem dX1_shorten_53 : decode cX1_shorten 53 = .ok (.iastore, 1) := by decide +kernel
theorem dX1_shorten_54 : decode cX1_shorten 54 = .ok (.aload_n 0, 1) := by decide +kernel
theorem dX1_shorten_55 : decode cX1_shorten 55 = .ok (.getfield 9, 3) := by decide +kernel
theorem dX1_shorten_58 : decode cX1_shorten 58 = .ok (.iload_n 2, 1) := by decide +kernel
theorem dX1_shorten_59 : decode cX1_shorten 59 = .ok (.aload_n 0, 1) := by decide +kernel
theorem dX1_shorten_60 : decode cX1_shorten 60 = .ok (.getfield 9, 3) := by decide +kernel
theorem dX1_shorten_63 : decode cX1_shorten 63 = .ok (.iload_n 2, 1) := by decide +kernel
theorem dX1_shorten_64 : decode cX1_shorten 64 = .ok (.iaload, 1) := by decide +kernel
theorem dX1_shorten_65 : decode cX1_shorten 65 = .ok (.aload_n 0, 1) := by decide +kernel
theorem dX1_shorten_66 : decode cX1_shorten 66 = .ok (.getfield 9, 3) := by decide +kernel
theorem dX1_shorten_69 : decode cX1_shorten 69 = .ok (.iload_n 3, 1) := by decide +kernel
theorem dX1_shorten_70 : decode cX1_shorten 70 = .ok (.iaload, 1) := by decide +kernel
theorem dX1_shorten_71 : decode cX1_shorten 71 = .ok (.iload 4, 2) := by decide +kernel
theorem dX1_shorten_73 : decode cX1_shorten 73 = .ok (.iadd, 1) := by decide +kernel
theorem dX1_shorten_74 : decode cX1_shorten 74 = .ok (.invokestatic 54, 3) := by decide +kernel
theorem dX1_shorten_77 : decode cX1_shorten 77 = .ok (.iastore, 1) := by decide +kernel
theorem dX1_shorten_78 : decode cX1_shorten 78 = .ok (.return_, 1) := by decide +kernel
set_option maxRecDepth 20000 in
theorem ggX1_pipeAndEndAt_X1_measure : GoodIn wsX1_pipeAndEndAt wsX1_measure := goodIn_r _ [6, 7, 1, 8, 9, 10, 11, 12, 13, 14, 15, 16, 17, 18, 19, 20, 21, 22, 23, 24, 25, 26, 27, 28, 29, 30, 31, 32, 33, 34, 35, 36, 37, 38, 39, 40, 5, 41, 42, 43, 44, 45, 46, 47, 48, 49, 50, 51, 52, 53, 54, 55, 76, 77, 78, 79, 80, 81, 82, 83, 84, 85, 86, 87, 88, 89] (by decide +kernel) (by decide +kernel)
set_option maxRecDepth 20000 in
theorem gX1_pipeAndEndAt_X1_measure : GoodIn wsX1_pipeAndEndAt (wsV RX1 19 RX1 yX1_measure wsX1_measure) := goodIn_app (goodIn_of _ (by decide +kernel)) ggX1_pipeAndEndAt_X1_measure
set_option maxRecDepth 20000 in
theorem ggX1_pipeAndEndAt_X2_pipeCount : GoodIn wsX1_pipeAndEndAt wsX2_pipeCount := goodIn_r _ [26, 27, 78, 79, 80, 81, 82, 83, 84, 85, 86, 87, 88, 89] (by decide +kernel) (by decide +kernel)
set_option maxRecDepth 20000 in
theorem gX1_pipeAndEndAt_X2_pipeCount : GoodIn wsX1_pipeAndEndAt (wsV RX1 36 RX2 yX2_pipeCount wsX2_pipeCount) := goodIn_app (goodIn_of _ (by decide +kernel)) ggX1_pipeAndEndAt_X2_pipeCount
set_option maxRecDepth 20000 in
theorem ggX1_pipeAndEndAt_X1_isFlushed : GoodIn wsX1_pipeAndEndAt wsX1_isFlushed := goodIn_r _ [59, 8, 60, 61, 62, 5, 63, 64, 65, 66, 67, 1, 7, 28, 29, 30, 12, 31, 32, 33, 34, 35, 36, 37, 46, 47, 48, 49, 50, 76, 77, 78, 79, 80, 81, 82, 83, 84, 85, 86, 87, 88, 89] (by decide +kernel) (by decide +kernel)
set_option maxRecDepth 20000 in
theorem gX1_pipeAndEndAt_X1_isFlushed : GoodIn wsX1_pipeAndEndAt (wsV RX1 59 RX1 yX1_isFlushed wsX1_isFlushed) := goodIn_app (goodIn_of _ (by decide +kernel)) ggX1_pipeAndEndAt_X1_isFlushed
set_option maxRecDepth 20000 in
theorem ggX1_pipeAndEndAt_X1_placeOf : GoodIn wsX1_pipeAndEndAt wsX1_placeOf := goodIn_r _ [71, 1, 23, 24, 25, 12, 26, 27, 72, 73, 74, 5, 75, 60, 61, 62, 63, 64, 65, 66, 67, 8, 7, 28, 29, 30, 31, 32, 33, 34, 35, 36, 37, 46, 47, 48, 49, 50, 76, 77, 78, 79, 80, 81, 82, 83, 84, 85, 86, 87, 88, 89] (by decide +kernel) (by decide +kernel)
set_option maxRecDepth 20000 in
theorem gX1_pipeAndEndAt_X1_placeOf : GoodIn wsX1_pipeAndEndAt (wsV RX1 63 RX1 yX1_placeOf wsX1_placeOf) := goodIn_app (goodIn_of _ (by decide +kernel)) ggX1_pipeAndEndAt_X1_placeOf
set_option maxRecDepth 20000 in
theorem ggX1_pipeAndEndAt_X1_endOf : GoodIn wsX1_pipeAndEndAt wsX1_endOf := goodIn_r _ [63, 64, 65, 66, 5, 67, 1, 8, 7, 28, 29, 30, 12, 31, 32, 33, 34, 35, 36, 37, 46, 47, 48, 49, 50, 76, 77, 78, 79, 80, 81, 82, 83, 84, 85, 86, 87, 88, 89] (by decide +kernel) (by decide +kernel)
set_option maxRecDepth 20000 in
theorem gX1_pipeAndEndAt_X1_endOf : GoodIn wsX1_pipeAndEndAt (wsV RX1 66 RX1 yX1_endOf wsX1_endOf) := goodIn_app (goodIn_of _ (by decide +kernel)) ggX1_pipeAndEndAt_X1_endOf
theorem dX1_pipeAndEndAt_0 : decode cX1_pipeAndEndAt 0 = .ok (.aload_n 0, 1) := by decide +kernel
theorem dX1_pipeAndEndAt_1 : decode cX1_pipeAndEndAt 1 = .ok (.invokevirtual 19, 3) := by decide +kernel
theorem dX1_pipeAndEndAt_4 : decode cX1_pipeAndEndAt 4 = .ok (.iconst 0, 1) := by decide +kernel
theorem dX1_pipeAndEndAt_5 : decode cX1_pipeAndEndAt 5 = .ok (.istore_n 2, 1) := by decide +kernel
theorem dX1_pipeAndEndAt_6 : decode cX1_pipeAndEndAt 6 = .ok (.iload_n 2, 1) := by decide +kernel
theorem dX1_pipeAndEndAt_7 : decode cX1_pipeAndEndAt 7 = .ok (.aload_n 0, 1) := by decide +kernel
theorem dX1_pipeAndEndAt_8 : decode cX1_pipeAndEndAt 8 = .ok (.getfield 15, 3) := by decide +kernel
theorem dX1_pipeAndEndAt_11 : decode cX1_pipeAndEndAt 11 = .ok (.invokevirtual 36, 3) := by decide +kernel
theorem dX1_pipeAndEndAt_14 : decode cX1_pipeAndEndAt 14 = .ok (.if_icmp .ge 36, 3) := by decide +kernel
theorem dX1_pipeAndEndAt_17 : decode cX1_pipeAndEndAt 17 = .ok (.aload_n 0, 1) := by decide +kernel
theorem dX1_pipeAndEndAt_18 : decode cX1_pipeAndEndAt 18 = .ok (.iload_n 2, 1) := by decide +kernel
theorem dX1_pipeAndEndAt_19 : decode cX1_pipeAndEndAt 19 = .ok (.invokevirtual 59, 3) := by decide +kernel
theorem dX1_pipeAndEndAt_22 : decode cX1_pipeAndEndAt 22 = .ok (.ifCond .eq 22, 3) := by decide +kernel
theorem dX1_pipeAndEndAt_25 : decode cX1_pipeAndEndAt 25 = .ok (.aload_n 0, 1) := by decide +kernel
theorem dX1_pipeAndEndAt_26 : decode cX1_pipeAndEndAt 26 = .ok (.iload_n 2, 1) := by decide +kernel
theorem dX1_pipeAndEndAt_27 : decode cX1_pipeAndEndAt 27 = .ok (.invokevirtual 63, 3) := by decide +kernel
theorem dX1_pipeAndEndAt_30 : decode cX1_pipeAndEndAt 30 = .ok (.iload_n 1, 1) := by decide +kernel
theorem dX1_pipeAndEndAt_31 : decode cX1_pipeAndEndAt 31 = .ok (.if_icmp .ne 13, 3) := by decide +kernel
theorem dX1_pipeAndEndAt_34 : decode cX1_pipeAndEndAt 34 = .ok (.iconst 2, 1) := by decide +kernel
theorem dX1_pipeAndEndAt_35 : decode cX1_pipeAndEndAt 35 = .ok (.iload_n 2, 1) := by decide +kernel
theorem dX1_pipeAndEndAt_36 : decode cX1_pipeAndEndAt 36 = .ok (.imul, 1) := by decide +kernel
theorem dX1_pipeAndEndAt_37 : decode cX1_pipeAndEndAt 37 = .ok (.aload_n 0, 1) := by decide +kernel
theorem dX1_pipeAndEndAt_38 : decode cX1_pipeAndEndAt 38 = .ok (.iload_n 2, 1) := by decide +kernel
theorem dX1_pipeAndEndAt_39 : decode cX1_pipeAndEndAt 39 = .ok (.invokevirtual 66, 3) := by decide +kernel
theorem dX1_pipeAndEndAt_42 : decode cX1_pipeAndEndAt 42 = .ok (.iadd, 1) := by decide +kernel
theorem dX1_pipeAndEndAt_43 : decode cX1_pipeAndEndAt 43 = .ok (.ireturn, 1) := by decide +kernel
theorem dX1_pipeAndEndAt_44 : decode cX1_pipeAndEndAt 44 = .ok (.iinc 2 1, 3) := by decide +kernel
theorem dX1_pipeAndEndAt_47 : decode cX1_pipeAndEndAt 47 = .ok (.goto (-41), 3) := by decide +kernel
theorem dX1_pipeAndEndAt_50 : decode cX1_pipeAndEndAt 50 = .ok (.iconst (-1), 1) := by decide +kernel
theorem dX1_pipeAndEndAt_51 : decode cX1_pipeAndEndAt 51 = .ok (.ireturn, 1) := by decide +kernel
set_option maxRecDepth 20000 in
theorem ggX1_placeOf_X2_pipeCount : GoodIn wsX1_placeOf wsX2_pipeCount := goodIn_r _ [6, 7, 40, 41, 42, 43, 44, 45, 46, 47, 48, 49, 50, 51] (by decide +kernel) (by decide +kernel)
set_option maxRecDepth 20000 in
theorem gX1_placeOf_X2_pipeCount : GoodIn wsX1_placeOf (wsV RX1 36 RX2 yX2_pipeCount wsX2_pipeCount) := goodIn_app (goodIn_of _ (by decide +kernel)) ggX1_placeOf_X2_pipeCount
set_option maxRecDepth 20000 in
theorem ggX1_placeOf_X1_isAhead : GoodIn wsX1_placeOf wsX1_isAhead := goodIn_r _ [12, 13, 14, 15, 11, 16, 17, 18, 19, 20, 1, 21, 22, 23, 24, 25, 5, 26, 27, 28, 29, 30, 31, 32, 33, 34, 35, 36, 37, 38, 39, 40, 41, 42, 43, 44, 45, 46, 47, 48, 49, 50, 51] (by decide +kernel) (by decide +kernel)
set_option maxRecDepth 20000 in
theorem gX1_placeOf_X1_isAhead : GoodIn wsX1_placeOf (wsV RX1 69 RX1 yX1_isAhead wsX1_isAhead) := goodIn_app (goodIn_of _ (by decide +kernel)) ggX1_placeOf_X1_isAhead
theorem dX1_placeOf_0 : decode cX1_placeOf 0 = .ok (.iconst 0, 1) := by decide +kernel
theorem dX1_placeOf_1 : decode cX1_placeOf 1 = .ok (.istore_n 2, 1) := by decide +kernel
theorem dX1_placeOf_2 : decode cX1_placeOf 2 = .ok (.iconst 0, 1) := by decide +kernel
theorem dX1_placeOf_3 : decode cX1_placeOf 3 = .ok (.istore_n 3, 1) := by decide +kernel
theorem dX1_placeOf_4 : decode cX1_placeOf 4 = .ok (.iload_n 3, 1) := by decide +kernel
theorem dX1_placeOf_5 : decode cX1_placeOf 5 = .ok (.aload_n 0, 1) := by decide +kernel
theorem dX1_placeOf_6 : decode cX1_placeOf 6 = .ok (.getfield 15, 3) := by decide +kernel
theorem dX1_placeOf_9 : decode cX1_placeOf 9 = .ok (.invokevirtual 36, 3) := by decide +kernel
theorem dX1_placeOf_12 : decode cX1_placeOf 12 = .ok (.if_icmp .ge 21, 3) := by decide +kernel
theorem dX1_placeOf_15 : decode cX1_placeOf 15 = .ok (.aload_n 0, 1) := by decide +kernel
theorem dX1_placeOf_16 : decode cX1_placeOf 16 = .ok (.iload_n 3, 1) := by decide +kernel
theorem dX1_placeOf_17 : decode cX1_placeOf 17 = .ok (.iload_n 1, 1) := by decide +kernel
theorem dX1_placeOf_18 : decode cX1_placeOf 18 = .ok (.invokevirtual 69, 3) := by decide +kernel
theorem dX1_placeOf_21 : decode cX1_placeOf 21 = .ok (.ifCond .eq 6, 3) := by decide +kernel
theorem dX1_placeOf_24 : decode cX1_placeOf 24 = .ok (.iinc 2 1, 3) := by decide +kernel
theorem dX1_placeOf_27 : decode cX1_placeOf 27 = .ok (.iinc 3 1, 3) := by decide +kernel
theorem dX1_placeOf_30 : decode cX1_placeOf 30 = .ok (.goto (-26), 3) := by decide +kernel
theorem dX1_placeOf_33 : decode cX1_placeOf 33 = .ok (.iload_n 2, 1) := by decide +kernel
theorem dX1_placeOf_34 : decode cX1_placeOf 34 = .ok (.ireturn, 1) := by decide +kernel
set_option maxRecDepth 20000 in
theorem ggX1_isAhead_X1_endOf : GoodIn wsX1_isAhead wsX1_endOf := goodIn_r _ [5, 6, 7, 8, 4, 9, 10, 11, 12, 13, 14, 15, 16, 17, 18, 19, 20, 21, 22, 23, 24, 25, 26, 27, 28, 29, 30, 31, 32, 33, 34, 35, 36, 37, 38, 39, 40, 41, 42] (by decide +kernel) (by decide +kernel)
set_option maxRecDepth 20000 in
theorem gX1_isAhead_X1_endOf : GoodIn wsX1_isAhead (wsV RX1 66 RX1 yX1_endOf wsX1_endOf) := goodIn_app (goodIn_of _ (by decide +kernel)) ggX1_isAhead_X1_endOf
set_option maxRecDepth 20000 in
theorem ggX1_isAhead_X1_distanceAt : GoodIn wsX1_isAhead wsX1_distanceAt := goodIn_r _ [9, 10, 11, 12, 13, 14, 15, 16, 17, 18, 19, 20, 21, 22, 23, 24, 25, 26, 27, 28, 29, 30, 31, 32, 33, 34, 35, 36, 37, 38, 39, 40, 41, 42] (by decide +kernel) (by decide +kernel)
set_option maxRecDepth 20000 in
theorem gX1_isAhead_X1_distanceAt : GoodIn wsX1_isAhead (wsV RX1 72 RX1 yX1_distanceAt wsX1_distanceAt) := goodIn_app (goodIn_of _ (by decide +kernel)) ggX1_isAhead_X1_distanceAt
theorem dX1_isAhead_0 : decode cX1_isAhead 0 = .ok (.aload_n 0, 1) := by decide +kernel
theorem dX1_isAhead_1 : decode cX1_isAhead 1 = .ok (.iload_n 1, 1) := by decide +kernel
theorem dX1_isAhead_2 : decode cX1_isAhead 2 = .ok (.aload_n 0, 1) := by decide +kernel
theorem dX1_isAhead_3 : decode cX1_isAhead 3 = .ok (.iload_n 1, 1) := by decide +kernel
theorem dX1_isAhead_4 : decode cX1_isAhead 4 = .ok (.invokevirtual 66, 3) := by decide +kernel
theorem dX1_isAhead_7 : decode cX1_isAhead 7 = .ok (.invokevirtual 72, 3) := by decide +kernel
theorem dX1_isAhead_10 : decode cX1_isAhead 10 = .ok (.aload_n 0, 1) := by decide +kernel
theorem dX1_isAhead_11 : decode cX1_isAhead 11 = .ok (.iload_n 2, 1) := by decide +kernel
theorem dX1_isAhead_12 : decode cX1_isAhead 12 = .ok (.aload_n 0, 1) := by decide +kernel
theorem dX1_isAhead_13 : decode cX1_isAhead 13 = .ok (.iload_n 2, 1) := by decide +kernel
theorem dX1_isAhead_14 : decode cX1_isAhead 14 = .ok (.invokevirtual 66, 3) := by decide +kernel
theorem dX1_isAhead_17 : decode cX1_isAhead 17 = .ok (.invokevirtual 72, 3) := by decide +kernel
theorem dX1_isAhead_20 : decode cX1_isAhead 20 = .ok (.isub, 1) := by decide +kernel
theorem dX1_isAhead_21 : decode cX1_isAhead 21 = .ok (.istore_n 3, 1) := by decide +kernel
theorem dX1_isAhead_22 : decode cX1_isAhead 22 = .ok (.iload_n 3, 1) := by decide +kernel
theorem dX1_isAhead_23 : decode cX1_isAhead 23 = .ok (.ifCond .lt 12, 3) := by decide +kernel
theorem dX1_isAhead_26 : decode cX1_isAhead 26 = .ok (.iload_n 3, 1) := by decide +kernel
theorem dX1_isAhead_27 : decode cX1_isAhead 27 = .ok (.ifCond .ne 12, 3) := by decide +kernel
theorem dX1_isAhead_30 : decode cX1_isAhead 30 = .ok (.iload_n 1, 1) := by decide +kernel
theorem dX1_isAhead_31 : decode cX1_isAhead 31 = .ok (.iload_n 2, 1) := by decide +kernel
theorem dX1_isAhead_32 : decode cX1_isAhead 32 = .ok (.if_icmp .ge 7, 3) := by decide +kernel
theorem dX1_isAhead_35 : decode cX1_isAhead 35 = .ok (.iconst 1, 1) := by decide +kernel
theorem dX1_isAhead_36 : decode cX1_isAhead 36 = .ok (.goto 4, 3) := by decide +kernel
theorem dX1_isAhead_39 : decode cX1_isAhead 39 = .ok (.iconst 0, 1) := by decide +kernel
theorem dX1_isAhead_40 : decode cX1_isAhead 40 = .ok (.ireturn, 1) := by decide +kernel
set_option maxRecDepth 20000 in
theorem ggX1_isFlushed_X1_endOf : GoodIn wsX1_isFlushed wsX1_endOf := goodIn_r _ [6, 7, 8, 9, 5, 10, 11, 1, 12, 13, 14, 15, 16, 17, 18, 19, 20, 21, 22, 23, 24, 25, 26, 27, 28, 29, 30, 31, 32, 33, 34, 35, 36, 37, 38, 39, 40, 41, 42] (by decide +kernel) (by decide +kernel)
set_option maxRecDepth 20000 in
theorem gX1_isFlushed_X1_endOf : GoodIn wsX1_isFlushed (wsV RX1 66 RX1 yX1_endOf wsX1_endOf) := goodIn_app (goodIn_of _ (by decide +kernel)) ggX1_isFlushed_X1_endOf
set_option maxRecDepth 20000 in
theorem ggX1_isFlushed_X1_distanceAt : GoodIn wsX1_isFlushed wsX1_distanceAt := goodIn_r _ [10, 11, 1, 12, 13, 14, 15, 16, 17, 18, 19, 20, 21, 22, 23, 24, 25, 26, 27, 28, 29, 30, 31, 32, 33, 34, 35, 36, 37, 38, 39, 40, 41, 42] (by decide +kernel) (by decide +kernel)
set_option maxRecDepth 20000 in
theorem gX1_isFlushed_X1_distanceAt : GoodIn wsX1_isFlushed (wsV RX1 72 RX1 yX1_distanceAt wsX1_distanceAt) := goodIn_app (goodIn_of _ (by decide +kernel)) ggX1_isFlushed_X1_distanceAt
theorem dX1_isFlushed_0 : decode cX1_isFlushed 0 = .ok (.aload_n 0, 1) := by decide +kernel
theorem dX1_isFlushed_1 : decode cX1_isFlushed 1 = .ok (.iload_n 1, 1) := by decide +kernel
theorem dX1_isFlushed_2 : decode cX1_isFlushed 2 = .ok (.aload_n 0, 1) := by decide +kernel
theorem dX1_isFlushed_3 : decode cX1_isFlushed 3 = .ok (.iload_n 1, 1) := by decide +kernel
theorem dX1_isFlushed_4 : decode cX1_isFlushed 4 = .ok (.invokevirtual 66, 3) := by decide +kernel
theorem dX1_isFlushed_7 : decode cX1_isFlushed 7 = .ok (.invokevirtual 72, 3) := by decide +kernel
theorem dX1_isFlushed_10 : decode cX1_isFlushed 10 = .ok (.ldc 22, 2) := by decide +kernel
theorem dX1_isFlushed_12 : decode cX1_isFlushed 12 = .ok (.if_icmp .ge 7, 3) := by decide +kernel
theorem dX1_isFlushed_15 : decode cX1_isFlushed 15 = .ok (.iconst 1, 1) := by decide +kernel
theorem dX1_isFlushed_16 : decode cX1_isFlushed 16 = .ok (.goto 4, 3) := by decide +kernel
theorem dX1_isFlushed_19 : decode cX1_isFlushed 19 = .ok (.iconst 0, 1) := by decide +kernel
theorem dX1_isFlushed_20 : decode cX1_isFlushed 20 = .ok (.ireturn, 1) := by decide +kernel
set_option maxRecDepth 20000 in
theorem ggX1_endOf_X1_distanceAt : GoodIn wsX1_endOf wsX1_distanceAt := goodIn_r _ [5, 6, 7, 8, 9, 10, 11, 12, 13, 14, 15, 16, 17, 18, 19, 20, 21, 22, 23, 24, 25, 26, 27, 28, 29, 30, 31, 32, 33, 34, 35, 36, 37, 38] (by decide +kernel) (by decide +kernel)
set_option maxRecDepth 20000 in
theorem gX1_endOf_X1_distanceAt : GoodIn wsX1_endOf (wsV RX1 72 RX1 yX1_distanceAt wsX1_distanceAt) := goodIn_app (goodIn_of _ (by decide +kernel)) ggX1_endOf_X1_distanceAt
theorem dX1_endOf_0 : decode cX1_endOf 0 = .ok (.aload_n 0, 1) := by decide +kernel
theorem dX1_endOf_1 : decode cX1_endOf 1 = .ok (.iload_n 1, 1) := by decide +kernel
theorem dX1_endOf_2 : decode cX1_endOf 2 = .ok (.iconst 0, 1) := by decide +kernel
theorem dX1_endOf_3 : decode cX1_endOf 3 = .ok (.invokevirtual 72, 3) := by decide +kernel
theorem dX1_endOf_6 : decode cX1_endOf 6 = .ok (.aload_n 0, 1) := by decide +kernel
theorem dX1_endOf_7 : decode cX1_endOf 7 = .ok (.iload_n 1, 1) := by decide +kernel
theorem dX1_endOf_8 : decode cX1_endOf 8 = .ok (.iconst 1, 1) := by decide +kernel
theorem dX1_endOf_9 : decode cX1_endOf 9 = .ok (.invokevirtual 72, 3) := by decide +kernel
theorem dX1_endOf_12 : decode cX1_endOf 12 = .ok (.if_icmp .gt 7, 3) := by decide +kernel
theorem dX1_endOf_15 : decode cX1_endOf 15 = .ok (.iconst 0, 1) := by decide +kernel
theorem dX1_endOf_16 : decode cX1_endOf 16 = .ok (.goto 4, 3) := by decide +kernel
theorem dX1_endOf_19 : decode cX1_endOf 19 = .ok (.iconst 1, 1) := by decide +kernel
theorem dX1_endOf_20 : decode cX1_endOf 20 = .ok (.ireturn, 1) := by decide +kernel
set_option maxRecDepth 20000 in
theorem ggX1_distanceAt_X2_isShutAt : GoodIn wsX1_distanceAt wsX2_isShutAt := goodIn_r _ [8, 9, 10, 11, 12, 7, 13, 14, 22, 23, 24, 25, 26, 27, 28, 29, 30, 31, 32, 33] (by decide +kernel) (by decide +kernel)
set_option maxRecDepth 20000 in
theorem gX1_distanceAt_X2_isShutAt : GoodIn wsX1_distanceAt (wsV RX1 39 RX2 yX2_isShutAt wsX2_isShutAt) := goodIn_app (goodIn_of _ (by decide +kernel)) ggX1_distanceAt_X2_isShutAt
set_option maxRecDepth 20000 in
theorem ggX1_distanceAt_X2_nodeAt : GoodIn wsX1_distanceAt wsX2_nodeAt := goodIn_r _ [18, 19, 22, 23, 24, 25, 26, 27, 28, 29, 30, 31, 32, 33] (by decide +kernel) (by decide +kernel)
set_option maxRecDepth 20000 in
theorem gX1_distanceAt_X2_nodeAt : GoodIn wsX1_distanceAt (wsV RX1 46 RX2 yX2_nodeAt wsX2_nodeAt) := goodIn_app (goodIn_of _ (by decide +kernel)) ggX1_distanceAt_X2_nodeAt
theorem dX1_distanceAt_0 : decode cX1_distanceAt 0 = .ok (.aload_n 0, 1) := by decide +kernel
theorem dX1_distanceAt_1 : decode cX1_distanceAt 1 = .ok (.getfield 15, 3) := by decide +kernel
theorem dX1_distanceAt_4 : decode cX1_distanceAt 4 = .ok (.iload_n 1, 1) := by decide +kernel
theorem dX1_distanceAt_5 : decode cX1_distanceAt 5 = .ok (.iload_n 2, 1) := by decide +kernel
theorem dX1_distanceAt_6 : decode cX1_distanceAt 6 = .ok (.invokevirtual 39, 3) := by decide +kernel
theorem dX1_distanceAt_9 : decode cX1_distanceAt 9 = .ok (.ifCond .eq 8, 3) := by decide +kernel
theorem dX1_distanceAt_12 : decode cX1_distanceAt 12 = .ok (.ldc 22, 2) := by decide +kernel
theorem dX1_distanceAt_14 : decode cX1_distanceAt 14 = .ok (.goto 17, 3) := by decide +kernel
theorem dX1_distanceAt_17 : decode cX1_distanceAt 17 = .ok (.aload_n 0, 1) := by decide +kernel
theorem dX1_distanceAt_18 : decode cX1_distanceAt 18 = .ok (.getfield 9, 3) := by decide +kernel
theorem dX1_distanceAt_21 : decode cX1_distanceAt 21 = .ok (.aload_n 0, 1) := by decide +kernel
theorem dX1_distanceAt_22 : decode cX1_distanceAt 22 = .ok (.getfield 15, 3) := by decide +kernel
theorem dX1_distanceAt_25 : decode cX1_distanceAt 25 = .ok (.iload_n 1, 1) := by decide +kernel
theorem dX1_distanceAt_26 : decode cX1_distanceAt 26 = .ok (.iload_n 2, 1) := by decide +kernel
theorem dX1_distanceAt_27 : decode cX1_distanceAt 27 = .ok (.invokevirtual 46, 3) := by decide +kernel
theorem dX1_distanceAt_30 : decode cX1_distanceAt 30 = .ok (.iaload, 1) := by decide +kernel
theorem dX1_distanceAt_31 : decode cX1_distanceAt 31 = .ok (.ireturn, 1) := by decide +kernel
