theorem dX2_init_0 : decode cX2_init 0 = .ok (.aload_n 0, 1) := by decide +kernel
theorem dX2_init_1 : decode cX2_init 1 = .ok (.invokespecial 3, 3) := by decide +kernel
theorem dX2_init_4 : decode cX2_init 4 = .ok (.aload_n 0, 1) := by decide +kernel
theorem dX2_init_5 : decode cX2_init 5 = .ok (.bipush 16, 2) := by decide +kernel
theorem dX2_init_7 : decode cX2_init 7 = .ok (.newarray .int, 2) := by decide +kernel
theorem dX2_init_9 : decode cX2_init 9 = .ok (.putfield 9, 3) := by decide +kernel
theorem dX2_init_12 : decode cX2_init 12 = .ok (.aload_n 0, 1) := by decide +kernel
theorem dX2_init_13 : decode cX2_init 13 = .ok (.bipush 16, 2) := by decide +kernel
theorem dX2_init_15 : decode cX2_init 15 = .ok (.newarray .int, 2) := by decide +kernel
theorem dX2_init_17 : decode cX2_init 17 = .ok (.putfield 15, 3) := by decide +kernel
theorem dX2_init_20 : decode cX2_init 20 = .ok (.aload_n 0, 1) := by decide +kernel
theorem dX2_init_21 : decode cX2_init 21 = .ok (.bipush 32, 2) := by decide +kernel
theorem dX2_init_23 : decode cX2_init 23 = .ok (.newarray .int, 2) := by decide +kernel
theorem dX2_init_25 : decode cX2_init 25 = .ok (.putfield 18, 3) := by decide +kernel
theorem dX2_init_28 : decode cX2_init 28 = .ok (.aload_n 0, 1) := by decide +kernel
theorem dX2_init_29 : decode cX2_init 29 = .ok (.bipush 32, 2) := by decide +kernel
theorem dX2_init_31 : decode cX2_init 31 = .ok (.newarray .int, 2) := by decide +kernel
theorem dX2_init_33 : decode cX2_init 33 = .ok (.putfield 21, 3) := by decide +kernel
theorem dX2_init_36 : decode cX2_init 36 = .ok (.aload_n 0, 1) := by decide +kernel
theorem dX2_init_37 : decode cX2_init 37 = .ok (.bipush 32, 2) := by decide +kernel
theorem dX2_init_39 : decode cX2_init 39 = .ok (.newarray .int, 2) := by decide +kernel
theorem dX2_init_41 : decode cX2_init 41 = .ok (.putfield 24, 3) := by decide +kernel
theorem dX2_init_44 : decode cX2_init 44 = .ok (.aload_n 0, 1) := by decide +kernel
theorem dX2_init_45 : decode cX2_init 45 = .ok (.bipush 12, 2) := by decide +kernel
theorem dX2_init_47 : decode cX2_init 47 = .ok (.newarray .int, 2) := by decide +kernel
theorem dX2_init_49 : decode cX2_init 49 = .ok (.putfield 27, 3) := by decide +kernel
theorem dX2_init_52 : decode cX2_init 52 = .ok (.return_, 1) := by decide +kernel
theorem dX2_nodeCount_0 : decode cX2_nodeCount 0 = .ok (.aload_n 0, 1) := by decide +kernel
theorem dX2_nodeCount_1 : decode cX2_nodeCount 1 = .ok (.getfield 30, 3) := by decide +kernel
theorem dX2_nodeCount_4 : decode cX2_nodeCount 4 = .ok (.ireturn, 1) := by decide +kernel
theorem dX2_pipeCount_0 : decode cX2_pipeCount 0 = .ok (.aload_n 0, 1) := by decide +kernel
theorem dX2_pipeCount_1 : decode cX2_pipeCount 1 = .ok (.getfield 34, 3) := by decide +kernel
theorem dX2_pipeCount_4 : decode cX2_pipeCount 4 = .ok (.ireturn, 1) := by decide +kernel
theorem dX2_valveCount_0 : decode cX2_valveCount 0 = .ok (.aload_n 0, 1) := by decide +kernel
theorem dX2_valveCount_1 : decode cX2_valveCount 1 = .ok (.getfield 37, 3) := by decide +kernel
theorem dX2_valveCount_4 : decode cX2_valveCount 4 = .ok (.ireturn, 1) := by decide +kernel
theorem dX2_sources_0 : decode cX2_sources 0 = .ok (.aload_n 0, 1) := by decide +kernel
theorem dX2_sources_1 : decode cX2_sources 1 = .ok (.getfield 40, 3) := by decide +kernel
theorem dX2_sources_4 : decode cX2_sources 4 = .ok (.ireturn, 1) := by decide +kernel
set_option maxRecDepth 20000 in
theorem ggX2_putNode_X2_markSource : GoodIn wsX2_putNode wsX2_markSource := goodIn_r _ [6, 7, 8, 9, 10, 11, 12, 13, 14, 15, 16, 17, 18, 19, 20, 21, 22, 23, 24] (by decide +kernel) (by decide +kernel)
set_option maxRecDepth 20000 in
theorem gX2_putNode_X2_markSource : GoodIn wsX2_putNode (wsV RX2 43 RX2 yX2_markSource wsX2_markSource) := goodIn_app (goodIn_of _ (by decide +kernel)) ggX2_putNode_X2_markSource
theorem dX2_putNode_0 : decode cX2_putNode 0 = .ok (.aload_n 0, 1) := by decide +kernel
theorem dX2_putNode_1 : decode cX2_putNode 1 = .ok (.getfield 30, 3) := by decide +kernel
theorem dX2_putNode_4 : decode cX2_putNode 4 = .ok (.istore_n 2, 1) := by decide +kernel
theorem dX2_putNode_5 : decode cX2_putNode 5 = .ok (.aload_n 0, 1) := by decide +kernel
theorem dX2_putNode_6 : decode cX2_putNode 6 = .ok (.dup, 1) := by decide +kernel
theorem dX2_putNode_7 : decode cX2_putNode 7 = .ok (.getfield 30, 3) := by decide +kernel
theorem dX2_putNode_10 : decode cX2_putNode 10 = .ok (.iconst 1, 1) := by decide +kernel
theorem dX2_putNode_11 : decode cX2_putNode 11 = .ok (.iadd, 1) := by decide +kernel
theorem dX2_putNode_12 : decode cX2_putNode 12 = .ok (.putfield 30, 3) := by decide +kernel
theorem dX2_putNode_15 : decode cX2_putNode 15 = .ok (.aload_n 0, 1) := by decide +kernel
theorem dX2_putNode_16 : decode cX2_putNode 16 = .ok (.iload_n 2, 1) := by decide +kernel
theorem dX2_putNode_17 : decode cX2_putNode 17 = .ok (.iload_n 1, 1) := by decide +kernel
theorem dX2_putNode_18 : decode cX2_putNode 18 = .ok (.invokevirtual 43, 3) := by decide +kernel
theorem dX2_putNode_21 : decode cX2_putNode 21 = .ok (.pop, 1) := by decide +kernel
theorem dX2_putNode_22 : decode cX2_putNode 22 = .ok (.iload_n 2, 1) := by decide +kernel
theorem dX2_putNode_23 : decode cX2_putNode 23 = .ok (.ireturn, 1) := by decide +kernel
set_option maxRecDepth 20000 in
theorem ggX2_putPipe_X2_join : GoodIn wsX2_putPipe wsX2_join := goodIn_r _ [8, 9, 10, 11, 12, 13, 14, 15, 16, 17, 18, 19, 20, 21, 22, 23, 24, 25] (by decide +kernel) (by decide +kernel)
set_option maxRecDepth 20000 in
theorem gX2_putPipe_X2_join : GoodIn wsX2_putPipe (wsV RX2 47 RX2 yX2_join wsX2_join) := goodIn_app (goodIn_of _ (by decide +kernel)) ggX2_putPipe_X2_join
theorem dX2_putPipe_0 : decode cX2_putPipe 0 = .ok (.aload_n 0, 1) := by decide +kernel
theorem dX2_putPipe_1 : decode cX2_putPipe 1 = .ok (.getfield 34, 3) := by decide +kernel
theorem dX2_putPipe_4 : decode cX2_putPipe 4 = .ok (.istore 5, 2) := by decide +kernel
theorem dX2_putPipe_6 : decode cX2_putPipe 6 = .ok (.aload_n 0, 1) := by decide +kernel
theorem dX2_putPipe_7 : decode cX2_putPipe 7 = .ok (.dup, 1) := by decide +kernel
theorem dX2_putPipe_8 : decode cX2_putPipe 8 = .ok (.getfield 34, 3) := by decide +kernel
theorem dX2_putPipe_11 : decode cX2_putPipe 11 = .ok (.iconst 1, 1) := by decide +kernel
theorem dX2_putPipe_12 : decode cX2_putPipe 12 = .ok (.iadd, 1) := by decide +kernel
theorem dX2_putPipe_13 : decode cX2_putPipe 13 = .ok (.putfield 34, 3) := by decide +kernel
theorem dX2_putPipe_16 : decode cX2_putPipe 16 = .ok (.aload_n 0, 1) := by decide +kernel
theorem dX2_putPipe_17 : decode cX2_putPipe 17 = .ok (.getfield 9, 3) := by decide +kernel
theorem dX2_putPipe_20 : decode cX2_putPipe 20 = .ok (.iload 5, 2) := by decide +kernel
theorem dX2_putPipe_22 : decode cX2_putPipe 22 = .ok (.iload_n 3, 1) := by decide +kernel
theorem dX2_putPipe_23 : decode cX2_putPipe 23 = .ok (.iastore, 1) := by decide +kernel
theorem dX2_putPipe_24 : decode cX2_putPipe 24 = .ok (.aload_n 0, 1) := by decide +kernel
theorem dX2_putPipe_25 : decode cX2_putPipe 25 = .ok (.getfield 15, 3) := by decide +kernel
theorem dX2_putPipe_28 : decode cX2_putPipe 28 = .ok (.iload 5, 2) := by decide +kernel
theorem dX2_putPipe_30 : decode cX2_putPipe 30 = .ok (.iload 4, 2) := by decide +kernel
theorem dX2_putPipe_32 : decode cX2_putPipe 32 = .ok (.iastore, 1) := by decide +kernel
theorem dX2_putPipe_33 : decode cX2_putPipe 33 = .ok (.aload_n 0, 1) := by decide +kernel
theorem dX2_putPipe_34 : decode cX2_putPipe 34 = .ok (.iload 5, 2) := by decide +kernel
theorem dX2_putPipe_36 : decode cX2_putPipe 36 = .ok (.iconst 0, 1) := by decide +kernel
theorem dX2_putPipe_37 : decode cX2_putPipe 37 = .ok (.iload_n 1, 1) := by decide +kernel
theorem dX2_putPipe_38 : decode cX2_putPipe 38 = .ok (.invokevirtual 47, 3) := by decide +kernel
theorem dX2_putPipe_41 : decode cX2_putPipe 41 = .ok (.aload_n 0, 1) := by decide +kernel
theorem dX2_putPipe_42 : decode cX2_putPipe 42 = .ok (.iload 5, 2) := by decide +kernel
theorem dX2_putPipe_44 : decode cX2_putPipe 44 = .ok (.iconst 1, 1) := by decide +kernel
theorem dX2_putPipe_45 : decode cX2_putPipe 45 = .ok (.iload_n 2, 1) := by decide +kernel
theorem dX2_putPipe_46 : decode cX2_putPipe 46 = .ok (.invokevirtual 47, 3) := by decide +kernel
theorem dX2_putPipe_49 : decode cX2_putPipe 49 = .ok (.iload 5, 2) := by decide +kernel
theorem dX2_putPipe_51 : decode cX2_putPipe 51 = .ok (.ireturn, 1) := by decide +kernel
set_option maxRecDepth 20000 in
theorem ggX2_join_X5_partOfPipe : GoodIn wsX2_join wsX5_partOfPipe := goodIn_r _ [5] (by decide +kernel) (by decide +kernel)
set_option maxRecDepth 20000 in
theorem gX2_join_X5_partOfPipe_n51 : GoodIn wsX2_join (wsX5_partOfPipe) := ggX2_join_X5_partOfPipe
theorem dX2_join_0 : decode cX2_join 0 = .ok (.iconst 2, 1) := by decide +kernel
theorem dX2_join_1 : decode cX2_join 1 = .ok (.iload_n 1, 1) := by decide +kernel
theorem dX2_join_2 : decode cX2_join 2 = .ok (.imul, 1) := by decide +kernel
theorem dX2_join_3 : decode cX2_join 3 = .ok (.iload_n 2, 1) := by decide +kernel
theorem dX2_join_4 : decode cX2_join 4 = .ok (.iadd, 1) := by decide +kernel
theorem dX2_join_5 : decode cX2_join 5 = .ok (.istore 4, 2) := by decide +kernel
theorem dX2_join_7 : decode cX2_join 7 = .ok (.aload_n 0, 1) := by decide +kernel
theorem dX2_join_8 : decode cX2_join 8 = .ok (.getfield 18, 3) := by decide +kernel
theorem dX2_join_11 : decode cX2_join 11 = .ok (.iload 4, 2) := by decide +kernel
theorem dX2_join_13 : decode cX2_join 13 = .ok (.iload_n 3, 1) := by decide +kernel
theorem dX2_join_14 : decode cX2_join 14 = .ok (.iastore, 1) := by decide +kernel
theorem dX2_join_15 : decode cX2_join 15 = .ok (.aload_n 0, 1) := by decide +kernel
theorem dX2_join_16 : decode cX2_join 16 = .ok (.getfield 24, 3) := by decide +kernel
theorem dX2_join_19 : decode cX2_join 19 = .ok (.iload 4, 2) := by decide +kernel
theorem dX2_join_21 : decode cX2_join 21 = .ok (.iconst 1, 1) := by decide +kernel
theorem dX2_join_22 : decode cX2_join 22 = .ok (.iload_n 3, 1) := by decide +kernel
theorem dX2_join_23 : decode cX2_join 23 = .ok (.ishl, 1) := by decide +kernel
theorem dX2_join_24 : decode cX2_join 24 = .ok (.iconst 1, 1) := by decide +kernel
theorem dX2_join_25 : decode cX2_join 25 = .ok (.iload_n 1, 1) := by decide +kernel
theorem dX2_join_26 : decode cX2_join 26 = .ok (.invokestatic 51, 3) := by decide +kernel
theorem dX2_join_29 : decode cX2_join 29 = .ok (.ishl, 1) := by decide +kernel
theorem dX2_join_30 : decode cX2_join 30 = .ok (.ior, 1) := by decide +kernel
theorem dX2_join_31 : decode cX2_join 31 = .ok (.iastore, 1) := by decide +kernel
theorem dX2_join_32 : decode cX2_join 32 = .ok (.return_, 1) := by decide +kernel
theorem dX2_putValve_0 : decode cX2_putValve 0 = .ok (.aload_n 0, 1) := by decide +kernel
theorem dX2_putValve_1 : decode cX2_putValve 1 = .ok (.getfield 37, 3) := by decide +kernel
theorem dX2_putValve_4 : decode cX2_putValve 4 = .ok (.istore_n 3, 1) := by decide +kernel
theorem dX2_putValve_5 : decode cX2_putValve 5 = .ok (.aload_n 0, 1) := by decide +kernel
theorem dX2_putValve_6 : decode cX2_putValve 6 = .ok (.dup, 1) := by decide +kernel
theorem dX2_putValve_7 : decode cX2_putValve 7 = .ok (.getfield 37, 3) := by decide +kernel
theorem dX2_putValve_10 : decode cX2_putValve 10 = .ok (.iconst 1, 1) := by decide +kernel
theorem dX2_putValve_11 : decode cX2_putValve 11 = .ok (.iadd, 1) := by decide +kernel
theorem dX2_putValve_12 : decode cX2_putValve 12 = .ok (.putfield 37, 3) := by decide +kernel
theorem dX2_putValve_15 : decode cX2_putValve 15 = .ok (.iconst 2, 1) := by decide +kernel
theorem dX2_putValve_16 : decode cX2_putValve 16 = .ok (.iload_n 1, 1) := by decide +kernel
theorem dX2_putValve_17 : decode cX2_putValve 17 = .ok (.imul, 1) := by decide +kernel
theorem dX2_putValve_18 : decode cX2_putValve 18 = .ok (.iload_n 2, 1) := by decide +kernel
theorem dX2_putValve_19 : decode cX2_putValve 19 = .ok (.iadd, 1) := by decide +kernel
theorem dX2_putValve_20 : decode cX2_putValve 20 = .ok (.istore 4, 2) := by decide +kernel
theorem dX2_putValve_22 : decode cX2_putValve 22 = .ok (.aload_n 0, 1) := by decide +kernel
theorem dX2_putValve_23 : decode cX2_putValve 23 = .ok (.getfield 21, 3) := by decide +kernel
theorem dX2_putValve_26 : decode cX2_putValve 26 = .ok (.iload 4, 2) := by decide +kernel
theorem dX2_putValve_28 : decode cX2_putValve 28 = .ok (.iconst 1, 1) := by decide +kernel
theorem dX2_putValve_29 : decode cX2_putValve 29 = .ok (.iload_n 3, 1) := by decide +kernel
theorem dX2_putValve_30 : decode cX2_putValve 30 = .ok (.ishl, 1) := by decide +kernel
theorem dX2_putValve_31 : decode cX2_putValve 31 = .ok (.iastore, 1) := by decide +kernel
theorem dX2_putValve_32 : decode cX2_putValve 32 = .ok (.aload_n 0, 1) := by decide +kernel
theorem dX2_putValve_33 : decode cX2_putValve 33 = .ok (.getfield 27, 3) := by decide +kernel
theorem dX2_putValve_36 : decode cX2_putValve 36 = .ok (.iload_n 3, 1) := by decide +kernel
theorem dX2_putValve_37 : decode cX2_putValve 37 = .ok (.iload 4, 2) := by decide +kernel
theorem dX2_putValve_39 : decode cX2_putValve 39 = .ok (.iastore, 1) := by decide +kernel
theorem dX2_putValve_40 : decode cX2_putValve 40 = .ok (.iload_n 3, 1) := by decide +kernel
theorem dX2_putValve_41 : decode cX2_putValve 41 = .ok (.ireturn, 1) := by decide +kernel
set_option maxRecDepth 20000 in
theorem ggX2_markSource_X5_hasBit : GoodIn wsX2_markSource wsX5_hasBit := goodIn_r _ [4] (by decide +kernel) (by decide +kernel)
set_option maxRecDepth 20000 in
theorem gX2_markSource_X5_hasBit_n55 : GoodIn wsX2_markSource (wsX5_hasBit) := ggX2_markSource_X5_hasBit
set_option maxRecDepth 20000 in
theorem ggX2_markSource_X5_withBit : GoodIn wsX2_markSource wsX5_withBit := goodIn_r _ [6] (by decide +kernel) (by decide +kernel)
set_option maxRecDepth 20000 in
theorem gX2_markSource_X5_withBit_n59 : GoodIn wsX2_markSource (wsX5_withBit) := ggX2_markSource_X5_withBit
theorem dX2_markSource_0 : decode cX2_markSource 0 = .ok (.aload_n 0, 1) := by decide +kernel
theorem dX2_markSource_1 : decode cX2_markSource 1 = .ok (.getfield 40, 3) := by decide +kernel
theorem dX2_markSource_4 : decode cX2_markSource 4 = .ok (.iload_n 1, 1) := by decide +kernel
theorem dX2_markSource_5 : decode cX2_markSource 5 = .ok (.invokestatic 55, 3) := by decide +kernel
theorem dX2_markSource_8 : decode cX2_markSource 8 = .ok (.istore_n 3, 1) := by decide +kernel
theorem dX2_markSource_9 : decode cX2_markSource 9 = .ok (.aload_n 0, 1) := by decide +kernel
theorem dX2_markSource_10 : decode cX2_markSource 10 = .ok (.aload_n 0, 1) := by decide +kernel
theorem dX2_markSource_11 : decode cX2_markSource 11 = .ok (.getfield 40, 3) := by decide +kernel
theorem dX2_markSource_14 : decode cX2_markSource 14 = .ok (.iload_n 1, 1) := by decide +kernel
theorem dX2_markSource_15 : decode cX2_markSource 15 = .ok (.iload_n 2, 1) := by decide +kernel
theorem dX2_markSource_16 : decode cX2_markSource 16 = .ok (.invokestatic 59, 3) := by decide +kernel
theorem dX2_markSource_19 : decode cX2_markSource 19 = .ok (.putfield 40, 3) := by decide +kernel
theorem dX2_markSource_22 : decode cX2_markSource 22 = .ok (.iload_n 3, 1) := by decide +kernel
theorem dX2_markSource_23 : decode cX2_markSource 23 = .ok (.ireturn, 1) := by decide +kernel
set_option maxRecDepth 20000 in
theorem ggX2_markStuck_X5_hasBit : GoodIn wsX2_markStuck wsX5_hasBit := goodIn_r _ [4] (by decide +kernel) (by decide +kernel)
set_option maxRecDepth 20000 in
theorem gX2_markStuck_X5_hasBit_n55 : GoodIn wsX2_markStuck (wsX5_hasBit) := ggX2_markStuck_X5_hasBit
set_option maxRecDepth 20000 in
theorem ggX2_markStuck_X5_withBit : GoodIn wsX2_markStuck wsX5_withBit := goodIn_r _ [6] (by decide +kernel) (by decide +kernel)
set_option maxRecDepth 20000 in
theorem gX2_markStuck_X5_withBit_n59 : GoodIn wsX2_markStuck (wsX5_withBit) := ggX2_markStuck_X5_withBit
theorem dX2_markStuck_0 : decode cX2_markStuck 0 = .ok (.aload_n 0, 1) := by decide +kernel
theorem dX2_markStuck_1 : decode cX2_markStuck 1 = .ok (.getfield 63, 3) := by decide +kernel
theorem dX2_markStuck_4 : decode cX2_markStuck 4 = .ok (.iload_n 1, 1) := by decide +kernel
theorem dX2_markStuck_5 : decode cX2_markStuck 5 = .ok (.invokestatic 55, 3) := by decide +kernel
theorem dX2_markStuck_8 : decode cX2_markStuck 8 = .ok (.istore_n 3, 1) := by decide +kernel
theorem dX2_markStuck_9 : decode cX2_markStuck 9 = .ok (.aload_n 0, 1) := by decide +kernel
theorem dX2_markStuck_10 : decode cX2_markStuck 10 = .ok (.aload_n 0, 1) := by decide +kernel
theorem dX2_markStuck_11 : decode cX2_markStuck 11 = .ok (.getfield 63, 3) := by decide +kernel
theorem dX2_markStuck_14 : decode cX2_markStuck 14 = .ok (.iload_n 1, 1) := by decide +kernel
theorem dX2_markStuck_15 : decode cX2_markStuck 15 = .ok (.iload_n 2, 1) := by decide +kernel
theorem dX2_markStuck_16 : decode cX2_markStuck 16 = .ok (.invokestatic 59, 3) := by decide +kernel
theorem dX2_markStuck_19 : decode cX2_markStuck 19 = .ok (.putfield 63, 3) := by decide +kernel
theorem dX2_markStuck_22 : decode cX2_markStuck 22 = .ok (.iload_n 3, 1) := by decide +kernel
theorem dX2_markStuck_23 : decode cX2_markStuck 23 = .ok (.ireturn, 1) := by decide +kernel
set_option maxRecDepth 20000 in
theorem ggX2_markShut_X5_hasBit : GoodIn wsX2_markShut wsX5_hasBit := goodIn_r _ [4] (by decide +kernel) (by decide +kernel)
set_option maxRecDepth 20000 in
theorem gX2_markShut_X5_hasBit_n55 : GoodIn wsX2_markShut (wsX5_hasBit) := ggX2_markShut_X5_hasBit
set_option maxRecDepth 20000 in
theorem ggX2_markShut_X5_withBit : GoodIn wsX2_markShut wsX5_withBit := goodIn_r _ [6] (by decide +kernel) (by decide +kernel)
set_option maxRecDepth 20000 in
theorem gX2_markShut_X5_withBit_n59 : GoodIn wsX2_markShut (wsX5_withBit) := ggX2_markShut_X5_withBit
theorem dX2_markShut_0 : decode cX2_markShut 0 = .ok (.aload_n 0, 1) := by decide +kernel
theorem dX2_markShut_1 : decode cX2_markShut 1 = .ok (.getfield 66, 3) := by decide +kernel
theorem dX2_markShut_4 : decode cX2_markShut 4 = .ok (.iload_n 1, 1) := by decide +kernel
theorem dX2_markShut_5 : decode cX2_markShut 5 = .ok (.invokestatic 55, 3) := by decide +kernel
theorem dX2_markShut_8 : decode cX2_markShut 8 = .ok (.istore_n 3, 1) := by decide +kernel
theorem dX2_markShut_9 : decode cX2_markShut 9 = .ok (.aload_n 0, 1) := by decide +kernel
theorem dX2_markShut_10 : decode cX2_markShut 10 = .ok (.aload_n 0, 1) := by decide +kernel
theorem dX2_markShut_11 : decode cX2_markShut 11 = .ok (.getfield 66, 3) := by decide +kernel
theorem dX2_markShut_14 : decode cX2_markShut 14 = .ok (.iload_n 1, 1) := by decide +kernel
theorem dX2_markShut_15 : decode cX2_markShut 15 = .ok (.iload_n 2, 1) := by decide +kernel
theorem dX2_markShut_16 : decode cX2_markShut 16 = .ok (.invokestatic 59, 3) := by decide +kernel
theorem dX2_markShut_19 : decode cX2_markShut 19 = .ok (.putfield 66, 3) := by decide +kernel
theorem dX2_markShut_22 : decode cX2_markShut 22 = .ok (.iload_n 3, 1) := by decide +kernel
theorem dX2_markShut_23 : decode cX2_markShut 23 = .ok (.ireturn, 1) := by decide +kernel
set_option maxRecDepth 20000 in
theorem ggX2_isStuck_X5_hasBit : GoodIn wsX2_isStuck wsX5_hasBit := goodIn_r _ [4] (by decide +kernel) (by decide +kernel)
set_option maxRecDepth 20000 in
theorem gX2_isStuck_X5_hasBit_n55 : GoodIn wsX2_isStuck (wsX5_hasBit) := ggX2_isStuck_X5_hasBit
theorem dX2_isStuck_0 : decode cX2_isStuck 0 = .ok (.aload_n 0, 1) := by decide +kernel
theorem dX2_isStuck_1 : decode cX2_isStuck 1 = .ok (.getfield 63, 3) := by decide +kernel
theorem dX2_isStuck_4 : decode cX2_isStuck 4 = .ok (.iload_n 1, 1) := by decide +kernel
theorem dX2_isStuck_5 : decode cX2_isStuck 5 = .ok (.invokestatic 55, 3) := by decide +kernel
theorem dX2_isStuck_8 : decode cX2_isStuck 8 = .ok (.ireturn, 1) := by decide +kernel
set_option maxRecDepth 20000 in
theorem ggX2_hasPart_X5_partOfPipe : GoodIn wsX2_hasPart wsX5_partOfPipe := goodIn_r _ [5] (by decide +kernel) (by decide +kernel)
set_option maxRecDepth 20000 in
theorem gX2_hasPart_X5_partOfPipe_n51 : GoodIn wsX2_hasPart (wsX5_partOfPipe) := ggX2_hasPart_X5_partOfPipe
theorem dX2_hasPart_0 : decode cX2_hasPart 0 = .ok (.iload_n 1, 1) := by decide +kernel
theorem dX2_hasPart_1 : decode cX2_hasPart 1 = .ok (.bipush 12, 2) := by decide +kernel
theorem dX2_hasPart_3 : decode cX2_hasPart 3 = .ok (.if_icmp .ge 19, 3) := by decide +kernel
theorem dX2_hasPart_6 : decode cX2_hasPart 6 = .ok (.iload_n 1, 1) := by decide +kernel
theorem dX2_hasPart_7 : decode cX2_hasPart 7 = .ok (.aload_n 0, 1) := by decide +kernel
theorem dX2_hasPart_8 : decode cX2_hasPart 8 = .ok (.getfield 30, 3) := by decide +kernel
theorem dX2_hasPart_11 : decode cX2_hasPart 11 = .ok (.if_icmp .ge 7, 3) := by decide +kernel
theorem dX2_hasPart_14 : decode cX2_hasPart 14 = .ok (.iconst 1, 1) := by decide +kernel
theorem dX2_hasPart_15 : decode cX2_hasPart 15 = .ok (.goto 23, 3) := by decide +kernel
theorem dX2_hasPart_18 : decode cX2_hasPart 18 = .ok (.iconst 0, 1) := by decide +kernel
theorem dX2_hasPart_19 : decode cX2_hasPart 19 = .ok (.goto 19, 3) := by decide +kernel
theorem dX2_hasPart_22 : decode cX2_hasPart 22 = .ok (.iload_n 1, 1) := by decide +kernel
theorem dX2_hasPart_23 : decode cX2_hasPart 23 = .ok (.aload_n 0, 1) := by decide +kernel
theorem dX2_hasPart_24 : decode cX2_hasPart 24 = .ok (.getfield 34, 3) := by decide +kernel
theorem dX2_hasPart_27 : decode cX2_hasPart 27 = .ok (.invokestatic 51, 3) := by decide +kernel
theorem dX2_hasPart_30 : decode cX2_hasPart 30 = .ok (.if_icmp .ge 7, 3) := by decide +kernel
theorem dX2_hasPart_33 : decode cX2_hasPart 33 = .ok (.iconst 1, 1) := by decide +kernel
theorem dX2_hasPart_34 : decode cX2_hasPart 34 = .ok (.goto 4, 3) := by decide +kernel
theorem dX2_hasPart_37 : decode cX2_hasPart 37 = .ok (.iconst 0, 1) := by decide +kernel
theorem dX2_hasPart_38 : decode cX2_hasPart 38 = .ok (.ireturn, 1) := by decide +kernel
theorem dX2_lengthOf_0 : decode cX2_lengthOf 0 = .ok (.aload_n 0, 1) := by decide +kernel
theorem dX2_lengthOf_1 : decode cX2_lengthOf 1 = .ok (.getfield 9, 3) := by decide +kernel
theorem dX2_lengthOf_4 : decode cX2_lengthOf 4 = .ok (.iload_n 1, 1) := by decide +kernel
theorem dX2_lengthOf_5 : decode cX2_lengthOf 5 = .ok (.iaload, 1) := by decide +kernel
theorem dX2_lengthOf_6 : decode cX2_lengthOf 6 = .ok (.ireturn, 1) := by decide +kernel
theorem dX2_nodeAt_0 : decode cX2_nodeAt 0 = .ok (.aload_n 0, 1) := by decide +kernel
theorem dX2_nodeAt_1 : decode cX2_nodeAt 1 = .ok (.getfield 18, 3) := by decide +kernel
theorem dX2_nodeAt_4 : decode cX2_nodeAt 4 = .ok (.iconst 2, 1) := by decide +kernel
theorem dX2_nodeAt_5 : decode cX2_nodeAt 5 = .ok (.iload_n 1, 1) := by decide +kernel
theorem dX2_nodeAt_6 : decode cX2_nodeAt 6 = .ok (.imul, 1) := by decide +kernel
theorem dX2_nodeAt_7 : decode cX2_nodeAt 7 = .ok (.iload_n 2, 1) := by decide +kernel
theorem dX2_nodeAt_8 : decode cX2_nodeAt 8 = .ok (.iadd, 1) := by decide +kernel
theorem dX2_nodeAt_9 : decode cX2_nodeAt 9 = .ok (.iaload, 1) := by decide +kernel
theorem dX2_nodeAt_10 : decode cX2_nodeAt 10 = .ok (.ireturn, 1) := by decide +kernel
theorem dX2_valveBitAt_0 : decode cX2_valveBitAt 0 = .ok (.aload_n 0, 1) := by decide +kernel
theorem dX2_valveBitAt_1 : decode cX2_valveBitAt 1 = .ok (.getfield 21, 3) := by decide +kernel
theorem dX2_valveBitAt_4 : decode cX2_valveBitAt 4 = .ok (.iconst 2, 1) := by decide +kernel
theorem dX2_valveBitAt_5 : decode cX2_valveBitAt 5 = .ok (.iload_n 1, 1) := by decide +kernel
theorem dX2_valveBitAt_6 : decode cX2_valveBitAt 6 = .ok (.imul, 1) := by decide +kernel
theorem dX2_valveBitAt_7 : decode cX2_valveBitAt 7 = .ok (.iload_n 2, 1) := by decide +kernel
theorem dX2_valveBitAt_8 : decode cX2_valveBitAt 8 = .ok (.iadd, 1) := by decide +kernel
theorem dX2_valveBitAt_9 : decode cX2_valveBitAt 9 = .ok (.iaload, 1) := by decide +kernel
theorem dX2_valveBitAt_10 : decode cX2_valveBitAt 10 = .ok (.ireturn, 1) := by decide +kernel
set_option maxRecDepth 20000 in
theorem ggX2_isShutAt_X2_valveBitAt : GoodIn wsX2_isShutAt wsX2_valveBitAt := goodIn_r _ [6, 7, 8, 9, 10, 11, 12, 13, 14, 15, 16, 17, 18, 19] (by decide +kernel) (by decide +kernel)
set_option maxRecDepth 20000 in
theorem gX2_isShutAt_X2_valveBitAt : GoodIn wsX2_isShutAt (wsV RX2 69 RX2 yX2_valveBitAt wsX2_valveBitAt) := goodIn_app (goodIn_of _ (by decide +kernel)) ggX2_isShutAt_X2_valveBitAt
theorem dX2_isShutAt_0 : decode cX2_isShutAt 0 = .ok (.aload_n 0, 1) := by decide +kernel
theorem dX2_isShutAt_1 : decode cX2_isShutAt 1 = .ok (.iload_n 1, 1) := by decide +kernel
theorem dX2_isShutAt_2 : decode cX2_isShutAt 2 = .ok (.iload_n 2, 1) := by decide +kernel
theorem dX2_isShutAt_3 : decode cX2_isShutAt 3 = .ok (.invokevirtual 69, 3) := by decide +kernel
theorem dX2_isShutAt_6 : decode cX2_isShutAt 6 = .ok (.aload_n 0, 1) := by decide +kernel
theorem dX2_isShutAt_7 : decode cX2_isShutAt 7 = .ok (.getfield 66, 3) := by decide +kernel
theorem dX2_isShutAt_10 : decode cX2_isShutAt 10 = .ok (.iand, 1) := by decide +kernel
theorem dX2_isShutAt_11 : decode cX2_isShutAt 11 = .ok (.ifCond .eq 7, 3) := by decide +kernel
theorem dX2_isShutAt_14 : decode cX2_isShutAt 14 = .ok (.iconst 1, 1) := by decide +kernel
theorem dX2_isShutAt_15 : decode cX2_isShutAt 15 = .ok (.goto 4, 3) := by decide +kernel
theorem dX2_isShutAt_18 : decode cX2_isShutAt 18 = .ok (.iconst 0, 1) := by decide +kernel
theorem dX2_isShutAt_19 : decode cX2_isShutAt 19 = .ok (.ireturn, 1) := by decide +kernel
theorem dX2_pipeOfValve_0 : decode cX2_pipeOfValve 0 = .ok (.aload_n 0, 1) := by decide +kernel
theorem dX2_pipeOfValve_1 : decode cX2_pipeOfValve 1 = .ok (.getfield 27, 3) := by decide +kernel
theorem dX2_pipeOfValve_4 : decode cX2_pipeOfValve 4 = .ok (.iload_n 1, 1) := by decide +kernel
theorem dX2_pipeOfValve_5 : decode cX2_pipeOfValve 5 = .ok (.iaload, 1) := by decide +kernel
theorem dX2_pipeOfValve_6 : decode cX2_pipeOfValve 6 = .ok (.iconst 2, 1) := by decide +kernel
theorem dX2_pipeOfValve_7 : decode cX2_pipeOfValve 7 = .ok (.idiv, 1) := by decide +kernel
theorem dX2_pipeOfValve_8 : decode cX2_pipeOfValve 8 = .ok (.ireturn, 1) := by decide +kernel
theorem dX2_nodeOfValve_0 : decode cX2_nodeOfValve 0 = .ok (.aload_n 0, 1) := by decide +kernel
theorem dX2_nodeOfValve_1 : decode cX2_nodeOfValve 1 = .ok (.getfield 18, 3) := by decide +kernel
theorem dX2_nodeOfValve_4 : decode cX2_nodeOfValve 4 = .ok (.aload_n 0, 1) := by decide +kernel
theorem dX2_nodeOfValve_5 : decode cX2_nodeOfValve 5 = .ok (.getfield 27, 3) := by decide +kernel
theorem dX2_nodeOfValve_8 : decode cX2_nodeOfValve 8 = .ok (.iload_n 1, 1) := by decide +kernel
theorem dX2_nodeOfValve_9 : decode cX2_nodeOfValve 9 = .ok (.iaload, 1) := by decide +kernel
theorem dX2_nodeOfValve_10 : decode cX2_nodeOfValve 10 = .ok (.iaload, 1) := by decide +kernel
theorem dX2_nodeOfValve_11 : decode cX2_nodeOfValve 11 = .ok (.ireturn, 1) := by decide +kernel
theorem dX2_closable_0 : decode cX2_closable 0 = .ok (.iconst 1, 1) := by decide +kernel
theorem dX2_closable_1 : decode cX2_closable 1 = .ok (.aload_n 0, 1) := by decide +kernel
theorem dX2_closable_2 : decode cX2_closable 2 = .ok (.getfield 37, 3) := by decide +kernel
theorem dX2_closable_5 : decode cX2_closable 5 = .ok (.ishl, 1) := by decide +kernel
theorem dX2_closable_6 : decode cX2_closable 6 = .ok (.iconst 1, 1) := by decide +kernel
theorem dX2_closable_7 : decode cX2_closable 7 = .ok (.isub, 1) := by decide +kernel
theorem dX2_closable_8 : decode cX2_closable 8 = .ok (.aload_n 0, 1) := by decide +kernel
theorem dX2_closable_9 : decode cX2_closable 9 = .ok (.getfield 66, 3) := by decide +kernel
theorem dX2_closable_12 : decode cX2_closable 12 = .ok (.iconst (-1), 1) := by decide +kernel
theorem dX2_closable_13 : decode cX2_closable 13 = .ok (.ixor, 1) := by decide +kernel
theorem dX2_closable_14 : decode cX2_closable 14 = .ok (.iand, 1) := by decide +kernel
theorem dX2_closable_15 : decode cX2_closable 15 = .ok (.aload_n 0, 1) := by decide +kernel
theorem dX2_closable_16 : decode cX2_closable 16 = .ok (.getfield 63, 3) := by decide +kernel
theorem dX2_closable_19 : decode cX2_closable 19 = .ok (.iconst (-1), 1) := by decide +kernel
theorem dX2_closable_20 : decode cX2_closable 20 = .ok (.ixor, 1) := by decide +kernel
theorem dX2_closable_21 : decode cX2_closable 21 = .ok (.iand, 1) := by decide +kernel
theorem dX2_closable_22 : decode cX2_closable 22 = .ok (.ireturn, 1) := by decide +kernel
theorem dX2_bounding_0 : decode cX2_bounding 0 = .ok (.sipush 4095, 3) := by decide +kernel
theorem dX2_bounding_3 : decode cX2_bounding 3 = .ok (.aload_n 0, 1) := by decide +kernel
theorem dX2_bounding_4 : decode cX2_bounding 4 = .ok (.getfield 63, 3) := by decide +kernel
theorem dX2_bounding_7 : decode cX2_bounding 7 = .ok (.aload_n 0, 1) := by decide +kernel
theorem dX2_bounding_8 : decode cX2_bounding 8 = .ok (.getfield 66, 3) := by decide +kernel
theorem dX2_bounding_11 : decode cX2_bounding 11 = .ok (.iconst (-1), 1) := by decide +kernel
theorem dX2_bounding_12 : decode cX2_bounding 12 = .ok (.ixor, 1) := by decide +kernel
theorem dX2_bounding_13 : decode cX2_bounding 13 = .ok (.iand, 1) := by decide +kernel
theorem dX2_bounding_14 : decode cX2_bounding 14 = .ok (.iconst (-1), 1) := by decide +kernel
theorem dX2_bounding_15 : decode cX2_bounding 15 = .ok (.ixor, 1) := by decide +kernel
theorem dX2_bounding_16 : decode cX2_bounding 16 = .ok (.iand, 1) := by decide +kernel
theorem dX2_bounding_17 : decode cX2_bounding 17 = .ok (.ireturn, 1) := by decide +kernel
theorem dX2_reach_0 : decode cX2_reach 0 = .ok (.iload_n 1, 1) := by decide +kernel
theorem dX2_reach_1 : decode cX2_reach 1 = .ok (.istore_n 3, 1) := by decide +kernel
theorem dX2_reach_2 : decode cX2_reach 2 = .ok (.iconst 0, 1) := by decide +kernel
theorem dX2_reach_3 : decode cX2_reach 3 = .ok (.istore 4, 2) := by decide +kernel
theorem dX2_reach_5 : decode cX2_reach 5 = .ok (.iload 4, 2) := by decide +kernel
theorem dX2_reach_7 : decode cX2_reach 7 = .ok (.bipush 28, 2) := by decide +kernel
theorem dX2_reach_9 : decode cX2_reach 9 = .ok (.if_icmp .ge 87, 3) := by decide +kernel
theorem dX2_reach_12 : decode cX2_reach 12 = .ok (.iload_n 3, 1) := by decide +kernel
theorem dX2_reach_13 : decode cX2_reach 13 = .ok (.istore 5, 2) := by decide +kernel
theorem dX2_reach_15 : decode cX2_reach 15 = .ok (.iconst 0, 1) := by decide +kernel
theorem dX2_reach_16 : decode cX2_reach 16 = .ok (.istore 6, 2) := by decide +kernel
theorem dX2_reach_18 : decode cX2_reach 18 = .ok (.iload 6, 2) := by decide +kernel
theorem dX2_reach_20 : decode cX2_reach 20 = .ok (.iconst 2, 1) := by decide +kernel
theorem dX2_reach_21 : decode cX2_reach 21 = .ok (.aload_n 0, 1) := by decide +kernel
theorem dX2_reach_22 : decode cX2_reach 22 = .ok (.getfield 34, 3) := by decide +kernel
theorem dX2_reach_25 : decode cX2_reach 25 = .ok (.imul, 1) := by decide +kernel
theorem dX2_reach_26 : decode cX2_reach 26 = .ok (.if_icmp .ge 55, 3) := by decide +kernel
theorem dX2_reach_29 : decode cX2_reach 29 = .ok (.aload_n 0, 1) := by decide +kernel
theorem dX2_reach_30 : decode cX2_reach 30 = .ok (.getfield 21, 3) := by decide +kernel
theorem dX2_reach_33 : decode cX2_reach 33 = .ok (.iload 6, 2) := by decide +kernel
theorem dX2_reach_35 : decode cX2_reach 35 = .ok (.iaload, 1) := by decide +kernel
theorem dX2_reach_36 : decode cX2_reach 36 = .ok (.iload_n 2, 1) := by decide +kernel
theorem dX2_reach_37 : decode cX2_reach 37 = .ok (.iand, 1) := by decide +kernel
theorem dX2_reach_38 : decode cX2_reach 38 = .ok (.ifCond .ne 7, 3) := by decide +kernel
theorem dX2_reach_41 : decode cX2_reach 41 = .ok (.iconst 1, 1) := by decide +kernel
theorem dX2_reach_42 : decode cX2_reach 42 = .ok (.goto 4, 3) := by decide +kernel
theorem dX2_reach_45 : decode cX2_reach 45 = .ok (.iconst 0, 1) := by decide +kernel
theorem dX2_reach_46 : decode cX2_reach 46 = .ok (.istore 7, 2) := by decide +kernel
theorem dX2_reach_48 : decode cX2_reach 48 = .ok (.iload 7, 2) := by decide +kernel
theorem dX2_reach_50 : decode cX2_reach 50 = .ok (.ifCond .eq 25, 3) := by decide +kernel
theorem dX2_reach_53 : decode cX2_reach 53 = .ok (.iload_n 3, 1) := by decide +kernel
theorem dX2_reach_54 : decode cX2_reach 54 = .ok (.aload_n 0, 1) := by decide +kernel
theorem dX2_reach_55 : decode cX2_reach 55 = .ok (.getfield 24, 3) := by decide +kernel
theorem dX2_reach_58 : decode cX2_reach 58 = .ok (.iload 6, 2) := by decide +kernel
theorem dX2_reach_60 : decode cX2_reach 60 = .ok (.iaload, 1) := by decide +kernel
theorem dX2_reach_61 : decode cX2_reach 61 = .ok (.iand, 1) := by decide +kernel
theorem dX2_reach_62 : decode cX2_reach 62 = .ok (.ifCond .eq 13, 3) := by decide +kernel
theorem dX2_reach_65 : decode cX2_reach 65 = .ok (.iload_n 3, 1) := by decide +kernel
theorem dX2_reach_66 : decode cX2_reach 66 = .ok (.aload_n 0, 1) := by decide +kernel
theorem dX2_reach_67 : decode cX2_reach 67 = .ok (.getfield 24, 3) := by decide +kernel
theorem dX2_reach_70 : decode cX2_reach 70 = .ok (.iload 6, 2) := by decide +kernel
theorem dX2_reach_72 : decode cX2_reach 72 = .ok (.iaload, 1) := by decide +kernel
theorem dX2_reach_73 : decode cX2_reach 73 = .ok (.ior, 1) := by decide +kernel
theorem dX2_reach_74 : decode cX2_reach 74 = .ok (.istore_n 3, 1) := by decide +kernel
theorem dX2_reach_75 : decode cX2_reach 75 = .ok (.iinc 6 1, 3) := by decide +kernel
theorem dX2_reach_78 : decode cX2_reach 78 = .ok (.goto (-60), 3) := by decide +kernel
theorem dX2_reach_81 : decode cX2_reach 81 = .ok (.iload_n 3, 1) := by decide +kernel
theorem dX2_reach_82 : decode cX2_reach 82 = .ok (.iload 5, 2) := by decide +kernel
theorem dX2_reach_84 : decode cX2_reach 84 = .ok (.if_icmp .ne 6, 3) := by decide +kernel
theorem dX2_reach_87 : decode cX2_reach 87 = .ok (.goto 9, 3) := by decide +kernel
theorem dX2_reach_90 : decode cX2_reach 90 = .ok (.iinc 4 1, 3) := by decide +kernel
theorem dX2_reach_93 : decode cX2_reach 93 = .ok (.goto (-88), 3) := by decide +kernel
theorem dX2_reach_96 : decode cX2_reach 96 = .ok (.iload_n 3, 1) := by decide +kernel
theorem dX2_reach_97 : decode cX2_reach 97 = .ok (.ireturn, 1) := by decide +kernel
set_option maxRecDepth 20000 in
theorem ggX2_wetBehind_X2_reach : GoodIn wsX2_wetBehind wsX2_reach := goodIn_r _ [7, 8, 9, 10, 11, 12, 13, 14, 15, 16, 17, 18, 19, 20, 21, 22] (by decide +kernel) (by decide +kernel)
set_option maxRecDepth 20000 in
theorem gX2_wetBehind_X2_reach : GoodIn wsX2_wetBehind (wsV RX2 72 RX2 yX2_reach wsX2_reach) := goodIn_app (goodIn_of _ (by decide +kernel)) ggX2_wetBehind_X2_reach
theorem dX2_wetBehind_0 : decode cX2_wetBehind 0 = .ok (.aload_n 0, 1) := by decide +kernel
theorem dX2_wetBehind_1 : decode cX2_wetBehind 1 = .ok (.aload_n 0, 1) := by decide +kernel
theorem dX2_wetBehind_2 : decode cX2_wetBehind 2 = .ok (.getfield 40, 3) := by decide +kernel
theorem dX2_wetBehind_5 : decode cX2_wetBehind 5 = .ok (.aload_n 0, 1) := by decide +kernel
theorem dX2_wetBehind_6 : decode cX2_wetBehind 6 = .ok (.getfield 66, 3) := by decide +kernel
theorem dX2_wetBehind_9 : decode cX2_wetBehind 9 = .ok (.iload_n 1, 1) := by decide +kernel
theorem dX2_wetBehind_10 : decode cX2_wetBehind 10 = .ok (.ior, 1) := by decide +kernel
theorem dX2_wetBehind_11 : decode cX2_wetBehind 11 = .ok (.invokevirtual 72, 3) := by decide +kernel
theorem dX2_wetBehind_14 : decode cX2_wetBehind 14 = .ok (.ireturn, 1) := by decide +kernel
set_option maxRecDepth 20000 in
theorem ggX2_customersOf_X5_partOfPipe : GoodIn wsX2_customersOf wsX5_partOfPipe := goodIn_r _ [5] (by decide +kernel) (by decide +kernel)
set_option maxRecDepth 20000 in
theorem gX2_customersOf_X5_partOfPipe_n51 : GoodIn wsX2_customersOf (wsX5_partOfPipe) := ggX2_customersOf_X5_partOfPipe
set_option maxRecDepth 20000 in
theorem ggX2_customersOf_X5_hasBit : GoodIn wsX2_customersOf wsX5_hasBit := goodIn_r _ [7] (by decide +kernel) (by decide +kernel)
set_option maxRecDepth 20000 in
theorem gX2_customersOf_X5_hasBit_n55 : GoodIn wsX2_customersOf (wsX5_hasBit) := ggX2_customersOf_X5_hasBit
theorem dX2_customersOf_0 : decode cX2_customersOf 0 = .ok (.iconst 0, 1) := by decide +kernel
theorem dX2_customersOf_1 : decode cX2_customersOf 1 = .ok (.istore_n 2, 1) := by decide +kernel
theorem dX2_customersOf_2 : decode cX2_customersOf 2 = .ok (.iconst 0, 1) := by decide +kernel
theorem dX2_customersOf_3 : decode cX2_customersOf 3 = .ok (.istore_n 3, 1) := by decide +kernel
theorem dX2_customersOf_4 : decode cX2_customersOf 4 = .ok (.iload_n 3, 1) := by decide +kernel
theorem dX2_customersOf_5 : decode cX2_customersOf 5 = .ok (.aload_n 0, 1) := by decide +kernel
theorem dX2_customersOf_6 : decode cX2_customersOf 6 = .ok (.getfield 34, 3) := by decide +kernel
theorem dX2_customersOf_9 : decode cX2_customersOf 9 = .ok (.if_icmp .ge 29, 3) := by decide +kernel
theorem dX2_customersOf_12 : decode cX2_customersOf 12 = .ok (.iload_n 1, 1) := by decide +kernel
theorem dX2_customersOf_13 : decode cX2_customersOf 13 = .ok (.iload_n 3, 1) := by decide +kernel
theorem dX2_customersOf_14 : decode cX2_customersOf 14 = .ok (.invokestatic 51, 3) := by decide +kernel
theorem dX2_customersOf_17 : decode cX2_customersOf 17 = .ok (.invokestatic 55, 3) := by decide +kernel
theorem dX2_customersOf_20 : decode cX2_customersOf 20 = .ok (.ifCond .eq 12, 3) := by decide +kernel
theorem dX2_customersOf_23 : decode cX2_customersOf 23 = .ok (.iload_n 2, 1) := by decide +kernel
theorem dX2_customersOf_24 : decode cX2_customersOf 24 = .ok (.aload_n 0, 1) := by decide +kernel
theorem dX2_customersOf_25 : decode cX2_customersOf 25 = .ok (.getfield 15, 3) := by decide +kernel
theorem dX2_customersOf_28 : decode cX2_customersOf 28 = .ok (.iload_n 3, 1) := by decide +kernel
theorem dX2_customersOf_29 : decode cX2_customersOf 29 = .ok (.iaload, 1) := by decide +kernel
theorem dX2_customersOf_30 : decode cX2_customersOf 30 = .ok (.iadd, 1) := by decide +kernel
theorem dX2_customersOf_31 : decode cX2_customersOf 31 = .ok (.istore_n 2, 1) := by decide +kernel
theorem dX2_customersOf_32 : decode cX2_customersOf 32 = .ok (.iinc 3 1, 3) := by decide +kernel
theorem dX2_customersOf_35 : decode cX2_customersOf 35 = .ok (.goto (-31), 3) := by decide +kernel
theorem dX2_customersOf_38 : decode cX2_customersOf 38 = .ok (.iload_n 2, 1) := by decide +kernel
theorem dX2_customersOf_39 : decode cX2_customersOf 39 = .ok (.ireturn, 1) := by decide +kernel
theorem dX3_init_0 : decode cX3_init 0 = .ok (.aload_n 0, 1) := by decide +kernel
theorem dX3_init_1 : decode cX3_init 1 = .ok (.invokespecial 3, 3) := by decide +kernel
theorem dX3_init_4 : decode cX3_init 4 = .ok (.aload_n 0, 1) := by decide +kernel
theorem dX3_init_5 : decode cX3_init 5 = .ok (.bipush 28, 2) := by decide +kernel
theorem dX3_init_7 : decode cX3_init 7 = .ok (.newarray .int, 2) := by decide +kernel
theorem dX3_init_9 : decode cX3_init 9 = .ok (.putfield 9, 3) := by decide +kernel
theorem dX3_init_12 : decode cX3_init 12 = .ok (.aload_n 0, 1) := by decide +kernel
theorem dX3_init_13 : decode cX3_init 13 = .ok (.aload_n 1, 1) := by decide +kernel
theorem dX3_init_14 : decode cX3_init 14 = .ok (.putfield 15, 3) := by decide +kernel
theorem dX3_init_17 : decode cX3_init 17 = .ok (.return_, 1) := by decide +kernel
set_option maxRecDepth 20000 in
theorem ggX3_count_X3_countBegunBelow : GoodIn wsX3_count wsX3_countBegunBelow := goodIn_r _ [5, 6, 7, 8, 9, 10, 11, 12, 13, 14, 15, 16, 17, 18, 19, 20, 21, 4, 22, 23, 24, 25, 26, 27, 28, 29, 30, 31, 32, 33, 34, 35, 36, 37, 38, 39, 40, 41, 42] (by decide +kernel) (by decide +kernel)
set_option maxRecDepth 20000 in
theorem gX3_count_X3_countBegunBelow : GoodIn wsX3_count (wsV RX3 19 RX3 yX3_countBegunBelow wsX3_countBegunBelow) := goodIn_app (goodIn_of _ (by decide +kernel)) ggX3_count_X3_countBegunBelow
theorem dX3_count_0 : decode cX3_count 0 = .ok (.aload_n 0, 1) := by decide +kernel
theorem dX3_count_1 : decode cX3_count 1 = .ok (.bipush 28, 2) := by decide +kernel
theorem dX3_count_3 : decode cX3_count 3 = .ok (.invokevirtual 19, 3) := by decide +kernel
theorem dX3_count_6 : decode cX3_count 6 = .ok (.ireturn, 1) := by decide +kernel
set_option maxRecDepth 20000 in
theorem ggX3_numberByWalking_X3_segmentWith : GoodIn wsX3_numberByWalking wsX3_segmentWith := goodIn_r _ [5, 6, 7, 8, 9, 10, 11, 12, 13, 14, 34, 35, 36, 37, 38, 39, 40, 41, 42, 43, 44, 45, 46, 47] (by decide +kernel) (by decide +kernel)
set_option maxRecDepth 20000 in
theorem gX3_numberByWalking_X3_segmentWith : GoodIn wsX3_numberByWalking (wsV RX3 23 RX3 yX3_segmentWith wsX3_segmentWith) := goodIn_app (goodIn_of _ (by decide +kernel)) ggX3_numberByWalking_X3_segmentWith
set_option maxRecDepth 20000 in
theorem ggX3_numberByWalking_J6_numberOfTrailingZeros_0f7a4 : GoodIn wsX3_numberByWalking wsJ6_numberOfTrailingZeros_0f7a4 := goodIn_r _ [18, 19] (by decide +kernel) (by decide +kernel)
set_option maxRecDepth 20000 in
theorem gX3_numberByWalking_J6_numberOfTrailingZeros_0f7a4 : GoodIn wsX3_numberByWalking (va_wsS RX3 26 yJ6_numberOfTrailingZeros_0f7a4 wsJ6_numberOfTrailingZeros_0f7a4) := goodIn_app (goodIn_of _ (by decide +kernel)) ggX3_numberByWalking_J6_numberOfTrailingZeros_0f7a4
set_option maxRecDepth 20000 in
theorem ggX3_numberByWalking_X3_countBegunBelow : GoodIn wsX3_numberByWalking wsX3_countBegunBelow := goodIn_r _ [23, 6, 24, 25, 26, 10, 27, 28, 12, 29, 30, 31, 32, 33, 1, 2, 3, 4, 5, 7, 8, 9, 11, 13, 14, 34, 35, 36, 37, 38, 39, 40, 41, 42, 43, 44, 45, 46, 47] (by decide +kernel) (by decide +kernel)
set_option maxRecDepth 20000 in
theorem gX3_numberByWalking_X3_countBegunBelow : GoodIn wsX3_numberByWalking (wsV RX3 19 RX3 yX3_countBegunBelow wsX3_countBegunBelow) := goodIn_app (goodIn_of _ (by decide +kernel)) ggX3_numberByWalking_X3_countBegunBelow
theorem dX3_numberByWalking_0 : decode cX3_numberByWalking 0 = .ok (.aload_n 0, 1) := by decide +kernel
theorem dX3_numberByWalking_1 : decode cX3_numberByWalking 1 = .ok (.iload_n 1, 1) := by decide +kernel
theorem dX3_numberByWalking_2 : decode cX3_numberByWalking 2 = .ok (.invokevirtual 23, 3) := by decide +kernel
theorem dX3_numberByWalking_5 : decode cX3_numberByWalking 5 = .ok (.invokestatic 26, 3) := by decide +kernel
theorem dX3_numberByWalking_8 : decode cX3_numberByWalking 8 = .ok (.istore_n 2, 1) := by decide +kernel
theorem dX3_numberByWalking_9 : decode cX3_numberByWalking 9 = .ok (.aload_n 0, 1) := by decide +kernel
theorem dX3_numberByWalking_10 : decode cX3_numberByWalking 10 = .ok (.iload_n 2, 1) := by decide +kernel
theorem dX3_numberByWalking_11 : decode cX3_numberByWalking 11 = .ok (.invokevirtual 19, 3) := by decide +kernel
theorem dX3_numberByWalking_14 : decode cX3_numberByWalking 14 = .ok (.ireturn, 1) := by decide +kernel
set_option maxRecDepth 20000 in
theorem ggX3_segmentWith_X2_reach : GoodIn wsX3_segmentWith wsX2_reach := goodIn_r _ [6, 7, 8, 9, 12, 13, 14, 15, 16, 17, 18, 19, 20, 21, 22, 23] (by decide +kernel) (by decide +kernel)
set_option maxRecDepth 20000 in
theorem gX3_segmentWith_X2_reach : GoodIn wsX3_segmentWith (wsV RX3 31 RX2 yX2_reach wsX2_reach) := goodIn_app (goodIn_of _ (by decide +kernel)) ggX3_segmentWith_X2_reach
theorem dX3_segmentWith_0 : decode cX3_segmentWith 0 = .ok (.aload_n 0, 1) := by decide +kernel
theorem dX3_segmentWith_1 : decode cX3_segmentWith 1 = .ok (.getfield 15, 3) := by decide +kernel
theorem dX3_segmentWith_4 : decode cX3_segmentWith 4 = .ok (.iconst 1, 1) := by decide +kernel
theorem dX3_segmentWith_5 : decode cX3_segmentWith 5 = .ok (.iload_n 1, 1) := by decide +kernel
theorem dX3_segmentWith_6 : decode cX3_segmentWith 6 = .ok (.ishl, 1) := by decide +kernel
theorem dX3_segmentWith_7 : decode cX3_segmentWith 7 = .ok (.sipush 4095, 3) := by decide +kernel
theorem dX3_segmentWith_10 : decode cX3_segmentWith 10 = .ok (.invokevirtual 31, 3) := by decide +kernel
theorem dX3_segmentWith_13 : decode cX3_segmentWith 13 = .ok (.ireturn, 1) := by decide +kernel
set_option maxRecDepth 20000 in
theorem ggX3_countBegunBelow_X2_hasPart : GoodIn wsX3_countBegunBelow wsX2_hasPart := goodIn_r _ [6, 7, 8, 9, 10, 11, 27, 28, 29, 30, 31, 32, 33, 34, 35, 36, 37, 38] (by decide +kernel) (by decide +kernel)
set_option maxRecDepth 20000 in
theorem gX3_countBegunBelow_X2_hasPart : GoodIn wsX3_countBegunBelow (wsV RX3 37 RX2 yX2_hasPart wsX2_hasPart) := goodIn_app (goodIn_of _ (by decide +kernel)) ggX3_countBegunBelow_X2_hasPart
set_option maxRecDepth 20000 in
theorem ggX3_countBegunBelow_X5_hasBit : GoodIn wsX3_countBegunBelow wsX5_hasBit := goodIn_r _ [13] (by decide +kernel) (by decide +kernel)
set_option maxRecDepth 20000 in
theorem gX3_countBegunBelow_X5_hasBit_n41 : GoodIn wsX3_countBegunBelow (wsX5_hasBit) := ggX3_countBegunBelow_X5_hasBit
set_option maxRecDepth 20000 in
theorem ggX3_countBegunBelow_X3_segmentWith : GoodIn wsX3_countBegunBelow wsX3_segmentWith := goodIn_r _ [18, 1, 19, 20, 21, 5, 22, 8, 23, 24, 25, 26, 27, 28, 29, 30, 31, 32, 33, 34, 35, 36, 37, 38] (by decide +kernel) (by decide +kernel)
set_option maxRecDepth 20000 in
theorem gX3_countBegunBelow_X3_segmentWith : GoodIn wsX3_countBegunBelow (wsV RX3 23 RX3 yX3_segmentWith wsX3_segmentWith) := goodIn_app (goodIn_of _ (by decide +kernel)) ggX3_countBegunBelow_X3_segmentWith
theorem dX3_countBegunBelow_0 : decode cX3_countBegunBelow 0 = .ok (.iconst 0, 1) := by decide +kernel
theorem dX3_countBegunBelow_1 : decode cX3_countBegunBelow 1 = .ok (.istore_n 2, 1) := by decide +kernel
theorem dX3_countBegunBelow_2 : decode cX3_countBegunBelow 2 = .ok (.iconst 0, 1) := by decide +kernel
theorem dX3_countBegunBelow_3 : decode cX3_countBegunBelow 3 = .ok (.istore_n 3, 1) := by decide +kernel
theorem dX3_countBegunBelow_4 : decode cX3_countBegunBelow 4 = .ok (.iconst 0, 1) := by decide +kernel
theorem dX3_countBegunBelow_5 : decode cX3_countBegunBelow 5 = .ok (.istore 4, 2) := by decide +kernel
theorem dX3_countBegunBelow_7 : decode cX3_countBegunBelow 7 = .ok (.iload 4, 2) := by decide +kernel
theorem dX3_countBegunBelow_9 : decode cX3_countBegunBelow 9 = .ok (.iload_n 1, 1) := by decide +kernel
theorem dX3_countBegunBelow_10 : decode cX3_countBegunBelow 10 = .ok (.if_icmp .ge 42, 3) := by decide +kernel
theorem dX3_countBegunBelow_13 : decode cX3_countBegunBelow 13 = .ok (.aload_n 0, 1) := by decide +kernel
theorem dX3_countBegunBelow_14 : decode cX3_countBegunBelow 14 = .ok (.getfield 15, 3) := by decide +kernel
theorem dX3_countBegunBelow_17 : decode cX3_countBegunBelow 17 = .ok (.iload 4, 2) := by decide +kernel
theorem dX3_countBegunBelow_19 : decode cX3_countBegunBelow 19 = .ok (.invokevirtual 37, 3) := by decide +kernel
theorem dX3_countBegunBelow_22 : decode cX3_countBegunBelow 22 = .ok (.ifCond .eq 24, 3) := by decide +kernel
theorem dX3_countBegunBelow_25 : decode cX3_countBegunBelow 25 = .ok (.iload_n 2, 1) := by decide +kernel
theorem dX3_countBegunBelow_26 : decode cX3_countBegunBelow 26 = .ok (.iload 4, 2) := by decide +kernel
theorem dX3_countBegunBelow_28 : decode cX3_countBegunBelow 28 = .ok (.invokestatic 41, 3) := by decide +kernel
theorem dX3_countBegunBelow_31 : decode cX3_countBegunBelow 31 = .ok (.ifCond .ne 15, 3) := by decide +kernel
theorem dX3_countBegunBelow_34 : decode cX3_countBegunBelow 34 = .ok (.iload_n 2, 1) := by decide +kernel
theorem dX3_countBegunBelow_35 : decode cX3_countBegunBelow 35 = .ok (.aload_n 0, 1) := by decide +kernel
theorem dX3_countBegunBelow_36 : decode cX3_countBegunBelow 36 = .ok (.iload 4, 2) := by decide +kernel
theorem dX3_countBegunBelow_38 : decode cX3_countBegunBelow 38 = .ok (.invokevirtual 23, 3) := by decide +kernel
theorem dX3_countBegunBelow_41 : decode cX3_countBegunBelow 41 = .ok (.ior, 1) := by decide +kernel
theorem dX3_countBegunBelow_42 : decode cX3_countBegunBelow 42 = .ok (.istore_n 2, 1) := by decide +kernel
theorem dX3_countBegunBelow_43 : decode cX3_countBegunBelow 43 = .ok (.iinc 3 1, 3) := by decide +kernel
theorem dX3_countBegunBelow_46 : decode cX3_countBegunBelow 46 = .ok (.iinc 4 1, 3) := by decide +kernel
theorem dX3_countBegunBelow_49 : decode cX3_countBegunBelow 49 = .ok (.goto (-42), 3) := by decide +kernel
theorem dX3_countBegunBelow_52 : decode cX3_countBegunBelow 52 = .ok (.iload_n 3, 1) := by decide +kernel
theorem dX3_countBegunBelow_53 : decode cX3_countBegunBelow 53 = .ok (.ireturn, 1) := by decide +kernel
set_option maxRecDepth 20000 in
theorem ggX3_numberByMerging_X3_mergePipes : GoodIn wsX3_numberByMerging wsX3_mergePipes := goodIn_r _ [6, 7, 1, 8, 9, 10, 11, 12, 13, 14, 15, 16, 17, 18, 19, 20, 21, 22, 23, 24, 25, 26, 27, 28, 29, 5, 30, 31, 32, 33, 34, 35, 36, 37, 38, 39, 40, 41, 47, 48, 49, 50, 51, 52, 53, 54, 55, 56, 57, 58, 59, 60] (by decide +kernel) (by decide +kernel)
set_option maxRecDepth 20000 in
theorem gX3_numberByMerging_X3_mergePipes : GoodIn wsX3_numberByMerging (wsV RX3 45 RX3 yX3_mergePipes wsX3_mergePipes) := goodIn_app (goodIn_of _ (by decide +kernel)) ggX3_numberByMerging_X3_mergePipes
set_option maxRecDepth 20000 in
theorem ggX3_numberByMerging_X3_firstOfSet : GoodIn wsX3_numberByMerging wsX3_firstOfSet := goodIn_r _ [41, 7, 47, 48] (by decide +kernel) (by decide +kernel)
set_option maxRecDepth 20000 in
theorem gX3_numberByMerging_X3_firstOfSet : GoodIn wsX3_numberByMerging (wsV RX3 48 RX3 yX3_firstOfSet wsX3_firstOfSet) := goodIn_app (goodIn_of _ (by decide +kernel)) ggX3_numberByMerging_X3_firstOfSet
set_option maxRecDepth 20000 in
theorem ggX3_numberByMerging_X2_hasPart : GoodIn wsX3_numberByMerging wsX2_hasPart := goodIn_r _ [45, 46, 13, 19, 20, 21, 49, 50, 51, 52, 53, 54, 55, 56, 57, 58, 59, 60] (by decide +kernel) (by decide +kernel)
set_option maxRecDepth 20000 in
theorem gX3_numberByMerging_X2_hasPart : GoodIn wsX3_numberByMerging (wsV RX3 37 RX2 yX2_hasPart wsX2_hasPart) := goodIn_app (goodIn_of _ (by decide +kernel)) ggX3_numberByMerging_X2_hasPart
theorem dX3_numberByMerging_0 : decode cX3_numberByMerging 0 = .ok (.aload_n 0, 1) := by decide +kernel
theorem dX3_numberByMerging_1 : decode cX3_numberByMerging 1 = .ok (.invokevirtual 45, 3) := by decide +kernel
theorem dX3_numberByMerging_4 : decode cX3_numberByMerging 4 = .ok (.aload_n 0, 1) := by decide +kernel
theorem dX3_numberByMerging_5 : decode cX3_numberByMerging 5 = .ok (.iload_n 1, 1) := by decide +kernel
theorem dX3_numberByMerging_6 : decode cX3_numberByMerging 6 = .ok (.invokevirtual 48, 3) := by decide +kernel
theorem dX3_numberByMerging_9 : decode cX3_numberByMerging 9 = .ok (.istore_n 2, 1) := by decide +kernel
theorem dX3_numberByMerging_10 : decode cX3_numberByMerging 10 = .ok (.iconst 0, 1) := by decide +kernel
theorem dX3_numberByMerging_11 : decode cX3_numberByMerging 11 = .ok (.istore_n 3, 1) := by decide +kernel
theorem dX3_numberByMerging_12 : decode cX3_numberByMerging 12 = .ok (.iconst 0, 1) := by decide +kernel
theorem dX3_numberByMerging_13 : decode cX3_numberByMerging 13 = .ok (.istore 4, 2) := by decide +kernel
theorem dX3_numberByMerging_15 : decode cX3_numberByMerging 15 = .ok (.iload 4, 2) := by decide +kernel
theorem dX3_numberByMerging_17 : decode cX3_numberByMerging 17 = .ok (.iload_n 2, 1) := by decide +kernel
theorem dX3_numberByMerging_18 : decode cX3_numberByMerging 18 = .ok (.if_icmp .ge 35, 3) := by decide +kernel
theorem dX3_numberByMerging_21 : decode cX3_numberByMerging 21 = .ok (.aload_n 0, 1) := by decide +kernel
theorem dX3_numberByMerging_22 : decode cX3_numberByMerging 22 = .ok (.getfield 15, 3) := by decide +kernel
theorem dX3_numberByMerging_25 : decode cX3_numberByMerging 25 = .ok (.iload 4, 2) := by decide +kernel
theorem dX3_numberByMerging_27 : decode cX3_numberByMerging 27 = .ok (.invokevirtual 37, 3) := by decide +kernel
theorem dX3_numberByMerging_30 : decode cX3_numberByMerging 30 = .ok (.ifCond .eq 17, 3) := by decide +kernel
theorem dX3_numberByMerging_33 : decode cX3_numberByMerging 33 = .ok (.aload_n 0, 1) := by decide +kernel
theorem dX3_numberByMerging_34 : decode cX3_numberByMerging 34 = .ok (.iload 4, 2) := by decide +kernel
theorem dX3_numberByMerging_36 : decode cX3_numberByMerging 36 = .ok (.invokevirtual 48, 3) := by decide +kernel
theorem dX3_numberByMerging_39 : decode cX3_numberByMerging 39 = .ok (.iload 4, 2) := by decide +kernel
theorem dX3_numberByMerging_41 : decode cX3_numberByMerging 41 = .ok (.if_icmp .ne 6, 3) := by decide +kernel
theorem dX3_numberByMerging_44 : decode cX3_numberByMerging 44 = .ok (.iinc 3 1, 3) := by decide +kernel
theorem dX3_numberByMerging_47 : decode cX3_numberByMerging 47 = .ok (.iinc 4 1, 3) := by decide +kernel
theorem dX3_numberByMerging_50 : decode cX3_numberByMerging 50 = .ok (.goto (-35), 3) := by decide +kernel
theorem dX3_numberByMerging_53 : decode cX3_numberByMerging 53 = .ok (.iload_n 3, 1) := by decide +kernel
theorem dX3_numberByMerging_54 : decode cX3_numberByMerging 54 = .ok (.ireturn, 1) := by decide +kernel
set_option maxRecDepth 20000 in
theorem ggX3_mergePipes_X2_pipeCount : GoodIn wsX3_mergePipes wsX2_pipeCount := goodIn_r _ [7, 8, 40, 41, 42, 43, 44, 45, 46, 47, 48, 49, 50, 51] (by decide +kernel) (by decide +kernel)
set_option maxRecDepth 20000 in
theorem gX3_mergePipes_X2_pipeCount : GoodIn wsX3_mergePipes (wsV RX3 51 RX2 yX2_pipeCount wsX2_pipeCount) := goodIn_app (goodIn_of _ (by decide +kernel)) ggX3_mergePipes_X2_pipeCount
set_option maxRecDepth 20000 in
theorem ggX3_mergePipes_X2_valveBitAt : GoodIn wsX3_mergePipes wsX2_valveBitAt := goodIn_r _ [12, 13, 40, 41, 42, 43, 44, 45, 46, 47, 48, 49, 50, 51] (by decide +kernel) (by decide +kernel)
set_option maxRecDepth 20000 in
theorem gX3_mergePipes_X2_valveBitAt : GoodIn wsX3_mergePipes (wsV RX3 55 RX2 yX2_valveBitAt wsX2_valveBitAt) := goodIn_app (goodIn_of _ (by decide +kernel)) ggX3_mergePipes_X2_valveBitAt
set_option maxRecDepth 20000 in
theorem ggX3_mergePipes_X5_partOfPipe : GoodIn wsX3_mergePipes wsX5_partOfPipe := goodIn_r _ [16] (by decide +kernel) (by decide +kernel)
set_option maxRecDepth 20000 in
theorem gX3_mergePipes_X5_partOfPipe_n58 : GoodIn wsX3_mergePipes (wsX5_partOfPipe) := ggX3_mergePipes_X5_partOfPipe
set_option maxRecDepth 20000 in
theorem ggX3_mergePipes_X2_nodeAt : GoodIn wsX3_mergePipes wsX2_nodeAt := goodIn_r _ [20, 21, 40, 41, 42, 43, 44, 45, 46, 47, 48, 49, 50, 51] (by decide +kernel) (by decide +kernel)
set_option maxRecDepth 20000 in
theorem gX3_mergePipes_X2_nodeAt : GoodIn wsX3_mergePipes (wsV RX3 61 RX2 yX2_nodeAt wsX2_nodeAt) := goodIn_app (goodIn_of _ (by decide +kernel)) ggX3_mergePipes_X2_nodeAt
set_option maxRecDepth 20000 in
theorem ggX3_mergePipes_X3_merge : GoodIn wsX3_mergePipes wsX3_merge := goodIn_r _ [26, 1, 27, 28, 29, 30, 31, 32, 33, 34, 35, 36, 25, 37, 38, 39] (by decide +kernel) (by decide +kernel)
set_option maxRecDepth 20000 in
theorem gX3_mergePipes_X3_merge : GoodIn wsX3_mergePipes (wsV RX3 64 RX3 yX3_merge wsX3_merge) := goodIn_app (goodIn_of _ (by decide +kernel)) ggX3_mergePipes_X3_merge
theorem dX3_mergePipes_0 : decode cX3_mergePipes 0 = .ok (.iconst 0, 1) := by decide +kernel
theorem dX3_mergePipes_1 : decode cX3_mergePipes 1 = .ok (.istore_n 1, 1) := by decide +kernel
theorem dX3_mergePipes_2 : decode cX3_mergePipes 2 = .ok (.iload_n 1, 1) := by decide +kernel
theorem dX3_mergePipes_3 : decode cX3_mergePipes 3 = .ok (.bipush 28, 2) := by decide +kernel
theorem dX3_mergePipes_5 : decode cX3_mergePipes 5 = .ok (.if_icmp .ge 16, 3) := by decide +kernel
theorem dX3_mergePipes_8 : decode cX3_mergePipes 8 = .ok (.aload_n 0, 1) := by decide +kernel
theorem dX3_mergePipes_9 : decode cX3_mergePipes 9 = .ok (.getfield 9, 3) := by decide +kernel
theorem dX3_mergePipes_12 : decode cX3_mergePipes 12 = .ok (.iload_n 1, 1) := by decide +kernel
theorem dX3_mergePipes_13 : decode cX3_mergePipes 13 = .ok (.iload_n 1, 1) := by decide +kernel
theorem dX3_mergePipes_14 : decode cX3_mergePipes 14 = .ok (.iastore, 1) := by decide +kernel
theorem dX3_mergePipes_15 : decode cX3_mergePipes 15 = .ok (.iinc 1 1, 3) := by decide +kernel
theorem dX3_mergePipes_18 : decode cX3_mergePipes 18 = .ok (.goto (-16), 3) := by decide +kernel
theorem dX3_mergePipes_21 : decode cX3_mergePipes 21 = .ok (.iconst 0, 1) := by decide +kernel
theorem dX3_mergePipes_22 : decode cX3_mergePipes 22 = .ok (.istore_n 1, 1) := by decide +kernel
theorem dX3_mergePipes_23 : decode cX3_mergePipes 23 = .ok (.iload_n 1, 1) := by decide +kernel
theorem dX3_mergePipes_24 : decode cX3_mergePipes 24 = .ok (.aload_n 0, 1) := by decide +kernel
theorem dX3_mergePipes_25 : decode cX3_mergePipes 25 = .ok (.getfield 15, 3) := by decide +kernel
theorem dX3_mergePipes_28 : decode cX3_mergePipes 28 = .ok (.invokevirtual 51, 3) := by decide +kernel
theorem dX3_mergePipes_31 : decode cX3_mergePipes 31 = .ok (.if_icmp .ge 51, 3) := by decide +kernel
theorem dX3_mergePipes_34 : decode cX3_mergePipes 34 = .ok (.iconst 0, 1) := by decide +kernel
theorem dX3_mergePipes_35 : decode cX3_mergePipes 35 = .ok (.istore_n 2, 1) := by decide +kernel
theorem dX3_mergePipes_36 : decode cX3_mergePipes 36 = .ok (.iload_n 2, 1) := by decide +kernel
theorem dX3_mergePipes_37 : decode cX3_mergePipes 37 = .ok (.iconst 2, 1) := by decide +kernel
theorem dX3_mergePipes_38 : decode cX3_mergePipes 38 = .ok (.if_icmp .ge 38, 3) := by decide +kernel
theorem dX3_mergePipes_41 : decode cX3_mergePipes 41 = .ok (.aload_n 0, 1) := by decide +kernel
theorem dX3_mergePipes_42 : decode cX3_mergePipes 42 = .ok (.getfield 15, 3) := by decide +kernel
theorem dX3_mergePipes_45 : decode cX3_mergePipes 45 = .ok (.iload_n 1, 1) := by decide +kernel
theorem dX3_mergePipes_46 : decode cX3_mergePipes 46 = .ok (.iload_n 2, 1) := by decide +kernel
theorem dX3_mergePipes_47 : decode cX3_mergePipes 47 = .ok (.invokevirtual 55, 3) := by decide +kernel
theorem dX3_mergePipes_50 : decode cX3_mergePipes 50 = .ok (.ifCond .ne 20, 3) := by decide +kernel
theorem dX3_mergePipes_53 : decode cX3_mergePipes 53 = .ok (.aload_n 0, 1) := by decide +kernel
theorem dX3_mergePipes_54 : decode cX3_mergePipes 54 = .ok (.iload_n 1, 1) := by decide +kernel
theorem dX3_mergePipes_55 : decode cX3_mergePipes 55 = .ok (.invokestatic 58, 3) := by decide +kernel
theorem dX3_mergePipes_58 : decode cX3_mergePipes 58 = .ok (.aload_n 0, 1) := by decide +kernel
theorem dX3_mergePipes_59 : decode cX3_mergePipes 59 = .ok (.getfield 15, 3) := by decide +kernel
theorem dX3_mergePipes_62 : decode cX3_mergePipes 62 = .ok (.iload_n 1, 1) := by decide +kernel
theorem dX3_mergePipes_63 : decode cX3_mergePipes 63 = .ok (.iload_n 2, 1) := by decide +kernel
theorem dX3_mergePipes_64 : decode cX3_mergePipes 64 = .ok (.invokevirtual 61, 3) := by decide +kernel
theorem dX3_mergePipes_67 : decode cX3_mergePipes 67 = .ok (.invokevirtual 64, 3) := by decide +kernel
theorem dX3_mergePipes_70 : decode cX3_mergePipes 70 = .ok (.iinc 2 1, 3) := by decide +kernel
theorem dX3_mergePipes_73 : decode cX3_mergePipes 73 = .ok (.goto (-37), 3) := by decide +kernel
theorem dX3_mergePipes_76 : decode cX3_mergePipes 76 = .ok (.iinc 1 1, 3) := by decide +kernel
theorem dX3_mergePipes_79 : decode cX3_mergePipes 79 = .ok (.goto (-56), 3) := by decide +kernel
theorem dX3_mergePipes_82 : decode cX3_mergePipes 82 = .ok (.return_, 1) := by decide +kernel
set_option maxRecDepth 20000 in
theorem ggX3_merge_X3_firstOfSet : GoodIn wsX3_merge wsX3_firstOfSet := goodIn_r _ [13, 1, 14, 15] (by decide +kernel) (by decide +kernel)
set_option maxRecDepth 20000 in
theorem gX3_merge_X3_firstOfSet : GoodIn wsX3_merge (wsV RX3 48 RX3 yX3_firstOfSet wsX3_firstOfSet) := goodIn_app (goodIn_of _ (by decide +kernel)) ggX3_merge_X3_firstOfSet
theorem dX3_merge_0 : decode cX3_merge 0 = .ok (.aload_n 0, 1) := by decide +kernel
theorem dX3_merge_1 : decode cX3_merge 1 = .ok (.iload_n 1, 1) := by decide +kernel
theorem dX3_merge_2 : decode cX3_merge 2 = .ok (.invokevirtual 48, 3) := by decide +kernel
theorem dX3_merge_5 : decode cX3_merge 5 = .ok (.istore_n 3, 1) := by decide +kernel
theorem dX3_merge_6 : decode cX3_merge 6 = .ok (.aload_n 0, 1) := by decide +kernel
theorem dX3_merge_7 : decode cX3_merge 7 = .ok (.iload_n 2, 1) := by decide +kernel
theorem dX3_merge_8 : decode cX3_merge 8 = .ok (.invokevirtual 48, 3) := by decide +kernel
theorem dX3_merge_11 : decode cX3_merge 11 = .ok (.istore 4, 2) := by decide +kernel
theorem dX3_merge_13 : decode cX3_merge 13 = .ok (.aload_n 0, 1) := by decide +kernel
theorem dX3_merge_14 : decode cX3_merge 14 = .ok (.getfield 9, 3) := by decide +kernel
theorem dX3_merge_17 : decode cX3_merge 17 = .ok (.iload_n 3, 1) := by decide +kernel
theorem dX3_merge_18 : decode cX3_merge 18 = .ok (.iload 4, 2) := by decide +kernel
theorem dX3_merge_20 : decode cX3_merge 20 = .ok (.invokestatic 68, 3) := by decide +kernel
theorem dX3_merge_23 : decode cX3_merge 23 = .ok (.iload_n 3, 1) := by decide +kernel
theorem dX3_merge_24 : decode cX3_merge 24 = .ok (.iload 4, 2) := by decide +kernel
theorem dX3_merge_26 : decode cX3_merge 26 = .ok (.invokestatic 73, 3) := by decide +kernel
theorem dX3_merge_29 : decode cX3_merge 29 = .ok (.iastore, 1) := by decide +kernel
theorem dX3_merge_30 : decode cX3_merge 30 = .ok (.return_, 1) := by decide +kernel
theorem dX3_firstOfSet_0 : decode cX3_firstOfSet 0 = .ok (.iload_n 1, 1) := by decide +kernel
theorem dX3_firstOfSet_1 : decode cX3_firstOfSet 1 = .ok (.istore_n 2, 1) := by decide +kernel
theorem dX3_firstOfSet_2 : decode cX3_firstOfSet 2 = .ok (.iconst 0, 1) := by decide +kernel
theorem dX3_firstOfSet_3 : decode cX3_firstOfSet 3 = .ok (.istore_n 3, 1) := by decide +kernel
theorem dX3_firstOfSet_4 : decode cX3_firstOfSet 4 = .ok (.iload_n 3, 1) := by decide +kernel
theorem dX3_firstOfSet_5 : decode cX3_firstOfSet 5 = .ok (.bipush 28, 2) := by decide +kernel
theorem dX3_firstOfSet_7 : decode cX3_firstOfSet 7 = .ok (.if_icmp .ge 26, 3) := by decide +kernel
theorem dX3_firstOfSet_10 : decode cX3_firstOfSet 10 = .ok (.aload_n 0, 1) := by decide +kernel
theorem dX3_firstOfSet_11 : decode cX3_firstOfSet 11 = .ok (.getfield 9, 3) := by decide +kernel
theorem dX3_firstOfSet_14 : decode cX3_firstOfSet 14 = .ok (.iload_n 2, 1) := by decide +kernel
theorem dX3_firstOfSet_15 : decode cX3_firstOfSet 15 = .ok (.iaload, 1) := by decide +kernel
theorem dX3_firstOfSet_16 : decode cX3_firstOfSet 16 = .ok (.iload_n 2, 1) := by decide +kernel
theorem dX3_firstOfSet_17 : decode cX3_firstOfSet 17 = .ok (.if_icmp .eq 16, 3) := by decide +kernel
theorem dX3_firstOfSet_20 : decode cX3_firstOfSet 20 = .ok (.aload_n 0, 1) := by decide +kernel
theorem dX3_firstOfSet_21 : decode cX3_firstOfSet 21 = .ok (.getfield 9, 3) := by decide +kernel
theorem dX3_firstOfSet_24 : decode cX3_firstOfSet 24 = .ok (.iload_n 2, 1) := by decide +kernel
theorem dX3_firstOfSet_25 : decode cX3_firstOfSet 25 = .ok (.iaload, 1) := by decide +kernel
theorem dX3_firstOfSet_26 : decode cX3_firstOfSet 26 = .ok (.istore_n 2, 1) := by decide +kernel
theorem dX3_firstOfSet_27 : decode cX3_firstOfSet 27 = .ok (.iinc 3 1, 3) := by decide +kernel
theorem dX3_firstOfSet_30 : decode cX3_firstOfSet 30 = .ok (.goto (-26), 3) := by decide +kernel
theorem dX3_firstOfSet_33 : decode cX3_firstOfSet 33 = .ok (.iload_n 2, 1) := by decide +kernel
theorem dX3_firstOfSet_34 : decode cX3_firstOfSet 34 = .ok (.ireturn, 1) := by decide +kernel
theorem dX4_init_0 : decode cX4_init 0 = .ok (.aload_n 0, 1) := by decide +kernel
theorem dX4_init_1 : decode cX4_init 1 = .ok (.invokespecial 3, 3) := by decide +kernel
theorem dX4_init_4 : decode cX4_init 4 = .ok (.aload_n 0, 1) := by decide +kernel
theorem dX4_init_5 : decode cX4_init 5 = .ok (.sipush 144, 3) := by decide +kernel
theorem dX4_init_8 : decode cX4_init 8 = .ok (.newarray .int, 2) := by decide +kernel
theorem dX4_init_10 : decode cX4_init 10 = .ok (.putfield 9, 3) := by decide +kernel
theorem dX4_init_13 : decode cX4_init 13 = .ok (.aload_n 0, 1) := by decide +kernel
theorem dX4_init_14 : decode cX4_init 14 = .ok (.bipush 6, 2) := by decide +kernel
theorem dX4_init_16 : decode cX4_init 16 = .ok (.newarray .int, 2) := by decide +kernel
theorem dX4_init_18 : decode cX4_init 18 = .ok (.putfield 15, 3) := by decide +kernel
theorem dX4_init_21 : decode cX4_init 21 = .ok (.aload_n 0, 1) := by decide +kernel
theorem dX4_init_22 : decode cX4_init 22 = .ok (.sipush 384, 3) := by decide +kernel
theorem dX4_init_25 : decode cX4_init 25 = .ok (.newarray .int, 2) := by decide +kernel
theorem dX4_init_27 : decode cX4_init 27 = .ok (.putfield 18, 3) := by decide +kernel
theorem dX4_init_30 : decode cX4_init 30 = .ok (.aload_n 0, 1) := by decide +kernel
theorem dX4_init_31 : decode cX4_init 31 = .ok (.aload_n 1, 1) := by decide +kernel
theorem dX4_init_32 : decode cX4_init 32 = .ok (.putfield 21, 3) := by decide +kernel
theorem dX4_init_35 : decode cX4_init 35 = .ok (.return_, 1) := by decide +kernel
set_option maxRecDepth 20000 in
theorem ggX4_leastLength_X4_listStops : GoodIn wsX4_leastLength wsX4_listStops := goodIn_r _ [11, 12, 13, 14, 15, 16, 17, 18, 19, 20, 21, 22, 23, 24, 25, 26, 27, 28, 69, 70, 71, 72, 73, 74, 75, 76, 77, 78, 79, 80, 81, 82, 83, 84] (by decide +kernel) (by decide +kernel)
set_option maxRecDepth 20000 in
theorem gX4_leastLength_X4_listStops : GoodIn wsX4_leastLength (wsV RX4 25 RX4 yX4_listStops wsX4_listStops) := goodIn_app (goodIn_of _ (by decide +kernel)) ggX4_leastLength_X4_listStops
set_option maxRecDepth 20000 in
theorem ggX4_leastLength_X4_measure : GoodIn wsX4_leastLength wsX4_measure := goodIn_r _ [32, 33, 2, 12, 34, 35, 36, 17, 37, 38, 39, 40, 41, 42, 27, 43, 44, 45, 46, 47, 48, 49, 50, 10, 51, 3, 4, 5, 6, 52, 53, 54, 55, 56, 57, 58, 59, 60, 61, 62, 63, 64, 69, 70, 71, 72, 73, 74, 75, 76, 77, 78, 79, 80, 81, 82, 83, 84] (by decide +kernel) (by decide +kernel)
set_option maxRecDepth 20000 in
theorem gX4_leastLength_X4_measure : GoodIn wsX4_leastLength (wsV RX4 29 RX4 yX4_measure wsX4_measure) := goodIn_app (goodIn_of _ (by decide +kernel)) ggX4_leastLength_X4_measure
set_option maxRecDepth 20000 in
theorem ggX4_leastLength_X5_hasBit : GoodIn wsX4_leastLength wsX5_hasBit := goodIn_r _ [22] (by decide +kernel) (by decide +kernel)
set_option maxRecDepth 20000 in
theorem gX4_leastLength_X5_hasBit_n32 : GoodIn wsX4_leastLength (wsX5_hasBit) := ggX4_leastLength_X5_hasBit
set_option maxRecDepth 20000 in
theorem ggX4_leastLength_X4_leastEnding : GoodIn wsX4_leastLength wsX4_leastEnding := goodIn_r _ [68, 13, 2, 1, 3, 4, 5, 6, 61, 62, 63, 10, 64, 33, 20, 21, 22, 69, 70, 71, 72] (by decide +kernel) (by decide +kernel)
set_option maxRecDepth 20000 in
theorem gX4_leastLength_X4_leastEnding : GoodIn wsX4_leastLength (wsV RX4 36 RX4 yX4_leastEnding wsX4_leastEnding) := goodIn_app (goodIn_of _ (by decide +kernel)) ggX4_leastLength_X4_leastEnding
theorem dX4_leastLength_0 : decode cX4_leastLength 0 = .ok (.aload_n 0, 1) := by decide +kernel
theorem dX4_leastLength_1 : decode cX4_leastLength 1 = .ok (.iload_n 2, 1) := by decide +kernel
theorem dX4_leastLength_2 : decode cX4_leastLength 2 = .ok (.invokevirtual 25, 3) := by decide +kernel
theorem dX4_leastLength_5 : decode cX4_leastLength 5 = .ok (.istore_n 3, 1) := by decide +kernel
theorem dX4_leastLength_6 : decode cX4_leastLength 6 = .ok (.iload_n 3, 1) := by decide +kernel
theorem dX4_leastLength_7 : decode cX4_leastLength 7 = .ok (.ifCond .ne 5, 3) := by decide +kernel
theorem dX4_leastLength_10 : decode cX4_leastLength 10 = .ok (.iconst 0, 1) := by decide +kernel
theorem dX4_leastLength_11 : decode cX4_leastLength 11 = .ok (.ireturn, 1) := by decide +kernel
theorem dX4_leastLength_12 : decode cX4_leastLength 12 = .ok (.aload_n 0, 1) := by decide +kernel
theorem dX4_leastLength_13 : decode cX4_leastLength 13 = .ok (.invokevirtual 29, 3) := by decide +kernel
theorem dX4_leastLength_16 : decode cX4_leastLength 16 = .ok (.iconst 1, 1) := by decide +kernel
theorem dX4_leastLength_17 : decode cX4_leastLength 17 = .ok (.iload_n 3, 1) := by decide +kernel
theorem dX4_leastLength_18 : decode cX4_leastLength 18 = .ok (.ishl, 1) := by decide +kernel
theorem dX4_leastLength_19 : decode cX4_leastLength 19 = .ok (.iconst 1, 1) := by decide +kernel
theorem dX4_leastLength_20 : decode cX4_leastLength 20 = .ok (.isub, 1) := by decide +kernel
theorem dX4_leastLength_21 : decode cX4_leastLength 21 = .ok (.istore 4, 2) := by decide +kernel
theorem dX4_leastLength_23 : decode cX4_leastLength 23 = .ok (.iconst 1, 1) := by decide +kernel
theorem dX4_leastLength_24 : decode cX4_leastLength 24 = .ok (.istore 5, 2) := by decide +kernel
theorem dX4_leastLength_26 : decode cX4_leastLength 26 = .ok (.iload 5, 2) := by decide +kernel
theorem dX4_leastLength_28 : decode cX4_leastLength 28 = .ok (.iload 4, 2) := by decide +kernel
theorem dX4_leastLength_30 : decode cX4_leastLength 30 = .ok (.if_icmp .gt 57, 3) := by decide +kernel
theorem dX4_leastLength_33 : decode cX4_leastLength 33 = .ok (.iconst 0, 1) := by decide +kernel
theorem dX4_leastLength_34 : decode cX4_leastLength 34 = .ok (.istore 6, 2) := by decide +kernel
theorem dX4_leastLength_36 : decode cX4_leastLength 36 = .ok (.iload 6, 2) := by decide +kernel
theorem dX4_leastLength_38 : decode cX4_leastLength 38 = .ok (.iload_n 3, 1) := by decide +kernel
theorem dX4_leastLength_39 : decode cX4_leastLength 39 = .ok (.if_icmp .ge 42, 3) := by decide +kernel
theorem dX4_leastLength_42 : decode cX4_leastLength 42 = .ok (.iload 5, 2) := by decide +kernel
theorem dX4_leastLength_44 : decode cX4_leastLength 44 = .ok (.iload 6, 2) := by decide +kernel
theorem dX4_leastLength_46 : decode cX4_leastLength 46 = .ok (.invokestatic 32, 3) := by decide +kernel
theorem dX4_leastLength_49 : decode cX4_leastLength 49 = .ok (.ifCond .eq 26, 3) := by decide +kernel
theorem dX4_leastLength_52 : decode cX4_leastLength 52 = .ok (.aload_n 0, 1) := by decide +kernel
theorem dX4_leastLength_53 : decode cX4_leastLength 53 = .ok (.getfield 18, 3) := by decide +kernel
theorem dX4_leastLength_56 : decode cX4_leastLength 56 = .ok (.iload 5, 2) := by decide +kernel
theorem dX4_leastLength_58 : decode cX4_leastLength 58 = .ok (.bipush 6, 2) := by decide +kernel
theorem dX4_leastLength_60 : decode cX4_leastLength 60 = .ok (.imul, 1) := by decide +kernel
theorem dX4_leastLength_61 : decode cX4_leastLength 61 = .ok (.iload 6, 2) := by decide +kernel
theorem dX4_leastLength_63 : decode cX4_leastLength 63 = .ok (.iadd, 1) := by decide +kernel
theorem dX4_leastLength_64 : decode cX4_leastLength 64 = .ok (.aload_n 0, 1) := by decide +kernel
theorem dX4_leastLength_65 : decode cX4_leastLength 65 = .ok (.iload_n 1, 1) := by decide +kernel
theorem dX4_leastLength_66 : decode cX4_leastLength 66 = .ok (.iload 5, 2) := by decide +kernel
theorem dX4_leastLength_68 : decode cX4_leastLength 68 = .ok (.iload 6, 2) := by decide +kernel
theorem dX4_leastLength_70 : decode cX4_leastLength 70 = .ok (.iload_n 3, 1) := by decide +kernel
theorem dX4_leastLength_71 : decode cX4_leastLength 71 = .ok (.invokevirtual 36, 3) := by decide +kernel
theorem dX4_leastLength_74 : decode cX4_leastLength 74 = .ok (.iastore, 1) := by decide +kernel
theorem dX4_leastLength_75 : decode cX4_leastLength 75 = .ok (.iinc 6 1, 3) := by decide +kernel
theorem dX4_leastLength_78 : decode cX4_leastLength 78 = .ok (.goto (-42), 3) := by decide +kernel
theorem dX4_leastLength_81 : decode cX4_leastLength 81 = .ok (.iinc 5 1, 3) := by decide +kernel
theorem dX4_leastLength_84 : decode cX4_leastLength 84 = .ok (.goto (-58), 3) := by decide +kernel
theorem dX4_leastLength_87 : decode cX4_leastLength 87 = .ok (.ldc 40, 2) := by decide +kernel
theorem dX4_leastLength_89 : decode cX4_leastLength 89 = .ok (.istore 5, 2) := by decide +kernel
theorem dX4_leastLength_91 : decode cX4_leastLength 91 = .ok (.iconst 0, 1) := by decide +kernel
theorem dX4_leastLength_92 : decode cX4_leastLength 92 = .ok (.istore 6, 2) := by decide +kernel
theorem dX4_leastLength_94 : decode cX4_leastLength 94 = .ok (.iload 6, 2) := by decide +kernel
theorem dX4_leastLength_96 : decode cX4_leastLength 96 = .ok (.iload_n 3, 1) := by decide +kernel
theorem dX4_leastLength_97 : decode cX4_leastLength 97 = .ok (.if_icmp .ge 29, 3) := by decide +kernel
theorem dX4_leastLength_100 : decode cX4_leastLength 100 = .ok (.iload 5, 2) := by decide +kernel
theorem dX4_leastLength_102 : decode cX4_leastLength 102 = .ok (.aload_n 0, 1) := by decide +kernel
theorem dX4_leastLength_103 : decode cX4_leastLength 103 = .ok (.getfield 18, 3) := by decide +kernel
theorem dX4_leastLength_106 : decode cX4_leastLength 106 = .ok (.iload 4, 2) := by decide +kernel
theorem dX4_leastLength_108 : decode cX4_leastLength 108 = .ok (.bipush 6, 2) := by decide +kernel
theorem dX4_leastLength_110 : decode cX4_leastLength 110 = .ok (.imul, 1) := by decide +kernel
theorem dX4_leastLength_111 : decode cX4_leastLength 111 = .ok (.iload 6, 2) := by decide +kernel
theorem dX4_leastLength_113 : decode cX4_leastLength 113 = .ok (.iadd, 1) := by decide +kernel
theorem dX4_leastLength_114 : decode cX4_leastLength 114 = .ok (.iaload, 1) := by decide +kernel
theorem dX4_leastLength_115 : decode cX4_leastLength 115 = .ok (.invokestatic 41, 3) := by decide +kernel
theorem dX4_leastLength_118 : decode cX4_leastLength 118 = .ok (.istore 5, 2) := by decide +kernel
theorem dX4_leastLength_120 : decode cX4_leastLength 120 = .ok (.iinc 6 1, 3) := by decide +kernel
theorem dX4_leastLength_123 : decode cX4_leastLength 123 = .ok (.goto (-29), 3) := by decide +kernel
theorem dX4_leastLength_126 : decode cX4_leastLength 126 = .ok (.iload 5, 2) := by decide +kernel
theorem dX4_leastLength_128 : decode cX4_leastLength 128 = .ok (.ldc 40, 2) := by decide +kernel
theorem dX4_leastLength_130 : decode cX4_leastLength 130 = .ok (.if_icmp .ge 8, 3) := by decide +kernel
theorem dX4_leastLength_133 : decode cX4_leastLength 133 = .ok (.iload 5, 2) := by decide +kernel
theorem dX4_leastLength_135 : decode cX4_leastLength 135 = .ok (.goto 4, 3) := by decide +kernel
theorem dX4_leastLength_138 : decode cX4_leastLength 138 = .ok (.iconst (-1), 1) := by decide +kernel
theorem dX4_leastLength_139 : decode cX4_leastLength 139 = .ok (.ireturn, 1) := by decide +kernel
set_option maxRecDepth 20000 in
theorem ggX4_listStops_X2_valveCount : GoodIn wsX4_listStops wsX2_valveCount := goodIn_r _ [7, 8, 22, 23, 24, 25, 26, 27, 28, 29, 30, 31, 32, 33] (by decide +kernel) (by decide +kernel)
set_option maxRecDepth 20000 in
theorem gX4_listStops_X2_valveCount : GoodIn wsX4_listStops (wsV RX4 47 RX2 yX2_valveCount wsX2_valveCount) := goodIn_app (goodIn_of _ (by decide +kernel)) ggX4_listStops_X2_valveCount
set_option maxRecDepth 20000 in
theorem ggX4_listStops_X5_hasBit : GoodIn wsX4_listStops wsX5_hasBit := goodIn_r _ [11] (by decide +kernel) (by decide +kernel)
set_option maxRecDepth 20000 in
theorem gX4_listStops_X5_hasBit_n32 : GoodIn wsX4_listStops (wsX5_hasBit) := ggX4_listStops_X5_hasBit
set_option maxRecDepth 20000 in
theorem ggX4_listStops_X2_nodeOfValve : GoodIn wsX4_listStops wsX2_nodeOfValve := goodIn_r _ [15, 16, 17, 22, 23, 24, 25, 26, 27, 28, 29, 30, 31, 32, 33] (by decide +kernel) (by decide +kernel)
set_option maxRecDepth 20000 in
theorem gX4_listStops_X2_nodeOfValve : GoodIn wsX4_listStops (wsV RX4 53 RX2 yX2_nodeOfValve wsX2_nodeOfValve) := goodIn_app (goodIn_of _ (by decide +kernel)) ggX4_listStops_X2_nodeOfValve
theorem dX4_listStops_0 : decode cX4_listStops 0 = .ok (.iconst 0, 1) := by decide +kernel
theorem dX4_listStops_1 : decode cX4_listStops 1 = .ok (.istore_n 2, 1) := by decide +kernel
theorem dX4_listStops_2 : decode cX4_listStops 2 = .ok (.iconst 0, 1) := by decide +kernel
theorem dX4_listStops_3 : decode cX4_listStops 3 = .ok (.istore_n 3, 1) := by decide +kernel
theorem dX4_listStops_4 : decode cX4_listStops 4 = .ok (.iload_n 3, 1) := by decide +kernel
theorem dX4_listStops_5 : decode cX4_listStops 5 = .ok (.aload_n 0, 1) := by decide +kernel
theorem dX4_listStops_6 : decode cX4_listStops 6 = .ok (.getfield 21, 3) := by decide +kernel
theorem dX4_listStops_9 : decode cX4_listStops 9 = .ok (.invokevirtual 47, 3) := by decide +kernel
theorem dX4_listStops_12 : decode cX4_listStops 12 = .ok (.if_icmp .ge 40, 3) := by decide +kernel
theorem dX4_listStops_15 : decode cX4_listStops 15 = .ok (.iload_n 1, 1) := by decide +kernel
theorem dX4_listStops_16 : decode cX4_listStops 16 = .ok (.iload_n 3, 1) := by decide +kernel
theorem dX4_listStops_17 : decode cX4_listStops 17 = .ok (.invokestatic 32, 3) := by decide +kernel
theorem dX4_listStops_20 : decode cX4_listStops 20 = .ok (.ifCond .eq 26, 3) := by decide +kernel
theorem dX4_listStops_23 : decode cX4_listStops 23 = .ok (.iload_n 2, 1) := by decide +kernel
theorem dX4_listStops_24 : decode cX4_listStops 24 = .ok (.bipush 6, 2) := by decide +kernel
theorem dX4_listStops_26 : decode cX4_listStops 26 = .ok (.if_icmp .ge 20, 3) := by decide +kernel
theorem dX4_listStops_29 : decode cX4_listStops 29 = .ok (.aload_n 0, 1) := by decide +kernel
theorem dX4_listStops_30 : decode cX4_listStops 30 = .ok (.getfield 15, 3) := by decide +kernel
theorem dX4_listStops_33 : decode cX4_listStops 33 = .ok (.iload_n 2, 1) := by decide +kernel
theorem dX4_listStops_34 : decode cX4_listStops 34 = .ok (.aload_n 0, 1) := by decide +kernel
theorem dX4_listStops_35 : decode cX4_listStops 35 = .ok (.getfield 21, 3) := by decide +kernel
theorem dX4_listStops_38 : decode cX4_listStops 38 = .ok (.iload_n 3, 1) := by decide +kernel
theorem dX4_listStops_39 : decode cX4_listStops 39 = .ok (.invokevirtual 53, 3) := by decide +kernel
theorem dX4_listStops_42 : decode cX4_listStops 42 = .ok (.iastore, 1) := by decide +kernel
theorem dX4_listStops_43 : decode cX4_listStops 43 = .ok (.iinc 2 1, 3) := by decide +kernel
theorem dX4_listStops_46 : decode cX4_listStops 46 = .ok (.iinc 3 1, 3) := by decide +kernel
theorem dX4_listStops_49 : decode cX4_listStops 49 = .ok (.goto (-45), 3) := by decide +kernel
theorem dX4_listStops_52 : decode cX4_listStops 52 = .ok (.iload_n 2, 1) := by decide +kernel
theorem dX4_listStops_53 : decode cX4_listStops 53 = .ok (.ireturn, 1) := by decide +kernel
set_option maxRecDepth 20000 in
theorem ggX4_leastEnding_X4_lengthBetween : GoodIn wsX4_leastEnding wsX4_lengthBetween := goodIn_r _ [12, 13, 17, 18, 19, 20] (by decide +kernel) (by decide +kernel)
set_option maxRecDepth 20000 in
theorem gX4_leastEnding_X4_lengthBetween : GoodIn wsX4_leastEnding (wsV RX4 56 RX4 yX4_lengthBetween wsX4_lengthBetween) := goodIn_app (goodIn_of _ (by decide +kernel)) ggX4_leastEnding_X4_lengthBetween
set_option maxRecDepth 20000 in
theorem ggX4_leastEnding_X5_hasBit : GoodIn wsX4_leastEnding wsX5_hasBit := goodIn_r _ [16] (by decide +kernel) (by decide +kernel)
set_option maxRecDepth 20000 in
theorem gX4_leastEnding_X5_hasBit_n32 : GoodIn wsX4_leastEnding (wsX5_hasBit) := ggX4_leastEnding_X5_hasBit
theorem dX4_leastEnding_0 : decode cX4_leastEnding 0 = .ok (.iload_n 2, 1) := by decide +kernel
theorem dX4_leastEnding_1 : decode cX4_leastEnding 1 = .ok (.iconst 1, 1) := by decide +kernel
theorem dX4_leastEnding_2 : decode cX4_leastEnding 2 = .ok (.iload_n 3, 1) := by decide +kernel
theorem dX4_leastEnding_3 : decode cX4_leastEnding 3 = .ok (.ishl, 1) := by decide +kernel
theorem dX4_leastEnding_4 : decode cX4_leastEnding 4 = .ok (.iconst (-1), 1) := by decide +kernel
theorem dX4_leastEnding_5 : decode cX4_leastEnding 5 = .ok (.ixor, 1) := by decide +kernel
theorem dX4_leastEnding_6 : decode cX4_leastEnding 6 = .ok (.iand, 1) := by decide +kernel
theorem dX4_leastEnding_7 : decode cX4_leastEnding 7 = .ok (.istore 5, 2) := by decide +kernel
theorem dX4_leastEnding_9 : decode cX4_leastEnding 9 = .ok (.iload 5, 2) := by decide +kernel
theorem dX4_leastEnding_11 : decode cX4_leastEnding 11 = .ok (.ifCond .ne 15, 3) := by decide +kernel
theorem dX4_leastEnding_14 : decode cX4_leastEnding 14 = .ok (.aload_n 0, 1) := by decide +kernel
theorem dX4_leastEnding_15 : decode cX4_leastEnding 15 = .ok (.iload_n 1, 1) := by decide +kernel
theorem dX4_leastEnding_16 : decode cX4_leastEnding 16 = .ok (.aload_n 0, 1) := by decide +kernel
theorem dX4_leastEnding_17 : decode cX4_leastEnding 17 = .ok (.getfield 15, 3) := by decide +kernel
theorem dX4_leastEnding_20 : decode cX4_leastEnding 20 = .ok (.iload_n 3, 1) := by decide +kernel
theorem dX4_leastEnding_21 : decode cX4_leastEnding 21 = .ok (.iaload, 1) := by decide +kernel
theorem dX4_leastEnding_22 : decode cX4_leastEnding 22 = .ok (.invokevirtual 56, 3) := by decide +kernel
theorem dX4_leastEnding_25 : decode cX4_leastEnding 25 = .ok (.ireturn, 1) := by decide +kernel
theorem dX4_leastEnding_26 : decode cX4_leastEnding 26 = .ok (.ldc 40, 2) := by decide +kernel
theorem dX4_leastEnding_28 : decode cX4_leastEnding 28 = .ok (.istore 6, 2) := by decide +kernel
theorem dX4_leastEnding_30 : decode cX4_leastEnding 30 = .ok (.iconst 0, 1) := by decide +kernel
theorem dX4_leastEnding_31 : decode cX4_leastEnding 31 = .ok (.istore 7, 2) := by decide +kernel
theorem dX4_leastEnding_33 : decode cX4_leastEnding 33 = .ok (.iload 7, 2) := by decide +kernel
theorem dX4_leastEnding_35 : decode cX4_leastEnding 35 = .ok (.iload 4, 2) := by decide +kernel
theorem dX4_leastEnding_37 : decode cX4_leastEnding 37 = .ok (.if_icmp .ge 61, 3) := by decide +kernel
theorem dX4_leastEnding_40 : decode cX4_leastEnding 40 = .ok (.iload 5, 2) := by decide +kernel
theorem dX4_leastEnding_42 : decode cX4_leastEnding 42 = .ok (.iload 7, 2) := by decide +kernel
theorem dX4_leastEnding_44 : decode cX4_leastEnding 44 = .ok (.invokestatic 32, 3) := by decide +kernel
theorem dX4_leastEnding_47 : decode cX4_leastEnding 47 = .ok (.ifCond .eq 45, 3) := by decide +kernel
theorem dX4_leastEnding_50 : decode cX4_leastEnding 50 = .ok (.aload_n 0, 1) := by decide +kernel
theorem dX4_leastEnding_51 : decode cX4_leastEnding 51 = .ok (.aload_n 0, 1) := by decide +kernel
theorem dX4_leastEnding_52 : decode cX4_leastEnding 52 = .ok (.getfield 15, 3) := by decide +kernel
theorem dX4_leastEnding_55 : decode cX4_leastEnding 55 = .ok (.iload 7, 2) := by decide +kernel
theorem dX4_leastEnding_57 : decode cX4_leastEnding 57 = .ok (.iaload, 1) := by decide +kernel
theorem dX4_leastEnding_58 : decode cX4_leastEnding 58 = .ok (.aload_n 0, 1) := by decide +kernel
theorem dX4_leastEnding_59 : decode cX4_leastEnding 59 = .ok (.getfield 15, 3) := by decide +kernel
theorem dX4_leastEnding_62 : decode cX4_leastEnding 62 = .ok (.iload_n 3, 1) := by decide +kernel
theorem dX4_leastEnding_63 : decode cX4_leastEnding 63 = .ok (.iaload, 1) := by decide +kernel
theorem dX4_leastEnding_64 : decode cX4_leastEnding 64 = .ok (.invokevirtual 56, 3) := by decide +kernel
theorem dX4_leastEnding_67 : decode cX4_leastEnding 67 = .ok (.istore 8, 2) := by decide +kernel
theorem dX4_leastEnding_69 : decode cX4_leastEnding 69 = .ok (.iload 6, 2) := by decide +kernel
theorem dX4_leastEnding_71 : decode cX4_leastEnding 71 = .ok (.aload_n 0, 1) := by decide +kernel
theorem dX4_leastEnding_72 : decode cX4_leastEnding 72 = .ok (.getfield 18, 3) := by decide +kernel
theorem dX4_leastEnding_75 : decode cX4_leastEnding 75 = .ok (.iload 5, 2) := by decide +kernel
theorem dX4_leastEnding_77 : decode cX4_leastEnding 77 = .ok (.bipush 6, 2) := by decide +kernel
theorem dX4_leastEnding_79 : decode cX4_leastEnding 79 = .ok (.imul, 1) := by decide +kernel
theorem dX4_leastEnding_80 : decode cX4_leastEnding 80 = .ok (.iload 7, 2) := by decide +kernel
theorem dX4_leastEnding_82 : decode cX4_leastEnding 82 = .ok (.iadd, 1) := by decide +kernel
theorem dX4_leastEnding_83 : decode cX4_leastEnding 83 = .ok (.iaload, 1) := by decide +kernel
theorem dX4_leastEnding_84 : decode cX4_leastEnding 84 = .ok (.iload 8, 2) := by decide +kernel
theorem dX4_leastEnding_86 : decode cX4_leastEnding 86 = .ok (.iadd, 1) := by decide +kernel
theorem dX4_leastEnding_87 : decode cX4_leastEnding 87 = .ok (.invokestatic 41, 3) := by decide +kernel
theorem dX4_leastEnding_90 : decode cX4_leastEnding 90 = .ok (.istore 6, 2) := by decide +kernel
theorem dX4_leastEnding_92 : decode cX4_leastEnding 92 = .ok (.iinc 7 1, 3) := by decide +kernel
theorem dX4_leastEnding_95 : decode cX4_leastEnding 95 = .ok (.goto (-62), 3) := by decide +kernel
theorem dX4_leastEnding_98 : decode cX4_leastEnding 98 = .ok (.iload 6, 2) := by decide +kernel
theorem dX4_leastEnding_100 : decode cX4_leastEnding 100 = .ok (.ireturn, 1) := by decide +kernel
theorem dX4_lengthBetween_0 : decode cX4_lengthBetween 0 = .ok (.aload_n 0, 1) := by decide +kernel
theorem dX4_lengthBetween_1 : decode cX4_lengthBetween 1 = .ok (.getfield 9, 3) := by decide +kernel
theorem dX4_lengthBetween_4 : decode cX4_lengthBetween 4 = .ok (.iload_n 1, 1) := by decide +kernel
theorem dX4_lengthBetween_5 : decode cX4_lengthBetween 5 = .ok (.bipush 12, 2) := by decide +kernel
theorem dX4_lengthBetween_7 : decode cX4_lengthBetween 7 = .ok (.imul, 1) := by decide +kernel
theorem dX4_lengthBetween_8 : decode cX4_lengthBetween 8 = .ok (.iload_n 2, 1) := by decide +kernel
theorem dX4_lengthBetween_9 : decode cX4_lengthBetween 9 = .ok (.iadd, 1) := by decide +kernel
theorem dX4_lengthBetween_10 : decode cX4_lengthBetween 10 = .ok (.iaload, 1) := by decide +kernel
theorem dX4_lengthBetween_11 : decode cX4_lengthBetween 11 = .ok (.ireturn, 1) := by decide +kernel
set_option maxRecDepth 20000 in
theorem ggX4_measure_X2_pipeCount : GoodIn wsX4_measure wsX2_pipeCount := goodIn_r _ [8, 9, 46, 47, 48, 49, 50, 51, 52, 53, 54, 55, 56, 57] (by decide +kernel) (by decide +kernel)
set_option maxRecDepth 20000 in
theorem gX4_measure_X2_pipeCount : GoodIn wsX4_measure (wsV RX4 59 RX2 yX2_pipeCount wsX2_pipeCount) := goodIn_app (goodIn_of _ (by decide +kernel)) ggX4_measure_X2_pipeCount
set_option maxRecDepth 20000 in
theorem ggX4_measure_X2_nodeAt : GoodIn wsX4_measure wsX2_nodeAt := goodIn_r _ [13, 14, 46, 47, 48, 49, 50, 51, 52, 53, 54, 55, 56, 57] (by decide +kernel) (by decide +kernel)
set_option maxRecDepth 20000 in
theorem gX4_measure_X2_nodeAt : GoodIn wsX4_measure (wsV RX4 62 RX2 yX2_nodeAt wsX2_nodeAt) := goodIn_app (goodIn_of _ (by decide +kernel)) ggX4_measure_X2_nodeAt
set_option maxRecDepth 20000 in
theorem ggX4_measure_X2_lengthOf : GoodIn wsX4_measure wsX2_lengthOf := goodIn_r _ [18, 19, 46, 47, 48, 49, 50, 51, 52, 53, 54, 55, 56, 57] (by decide +kernel) (by decide +kernel)
set_option maxRecDepth 20000 in
theorem gX4_measure_X2_lengthOf : GoodIn wsX4_measure (wsV RX4 65 RX2 yX2_lengthOf wsX2_lengthOf) := goodIn_app (goodIn_of _ (by decide +kernel)) ggX4_measure_X2_lengthOf
set_option maxRecDepth 20000 in
theorem ggX4_measure_X4_shorten : GoodIn wsX4_measure wsX4_shorten := goodIn_r _ [24, 1, 25, 26, 27, 28, 42, 43, 44, 45] (by decide +kernel) (by decide +kernel)
set_option maxRecDepth 20000 in
theorem gX4_measure_X4_shorten : GoodIn wsX4_measure (wsV RX4 68 RX4 yX4_shorten wsX4_shorten) := goodIn_app (goodIn_of _ (by decide +kernel)) ggX4_measure_X4_shorten
set_option maxRecDepth 20000 in
theorem ggX4_measure_X2_nodeCount : GoodIn wsX4_measure wsX2_nodeCount := goodIn_r _ [32, 33, 46, 47, 48, 49, 50, 51, 52, 53, 54, 55, 56, 57] (by decide +kernel) (by decide +kernel)
set_option maxRecDepth 20000 in
theorem gX4_measure_X2_nodeCount : GoodIn wsX4_measure (wsV RX4 72 RX2 yX2_nodeCount wsX2_nodeCount) := goodIn_app (goodIn_of _ (by decide +kernel)) ggX4_measure_X2_nodeCount
set_option maxRecDepth 20000 in
theorem ggX4_measure_X4_shortenBy : GoodIn wsX4_measure wsX4_shortenBy := goodIn_r _ [37, 3, 29, 30, 31, 7, 32, 33, 38, 39, 40, 23, 41, 1, 20, 21, 22, 24, 25, 26, 27, 28, 42, 43, 44, 45, 46, 47, 48, 49, 50, 51, 52, 53, 54, 55, 56, 57] (by decide +kernel) (by decide +kernel)
set_option maxRecDepth 20000 in
theorem gX4_measure_X4_shortenBy : GoodIn wsX4_measure (wsV RX4 75 RX4 yX4_shortenBy wsX4_shortenBy) := goodIn_app (goodIn_of _ (by decide +kernel)) ggX4_measure_X4_shortenBy
theorem dX4_measure_0 : decode cX4_measure 0 = .ok (.iconst 0, 1) := by decide +kernel
theorem dX4_measure_1 : decode cX4_measure 1 = .ok (.istore_n 1, 1) := by decide +kernel
theorem dX4_measure_2 : decode cX4_measure 2 = .ok (.iload_n 1, 1) := by decide +kernel
theorem dX4_measure_3 : decode cX4_measure 3 = .ok (.bipush 12, 2) := by decide +kernel
theorem dX4_measure_5 : decode cX4_measure 5 = .ok (.if_icmp .ge 45, 3) := by decide +kernel
theorem dX4_measure_8 : decode cX4_measure 8 = .ok (.iconst 0, 1) := by decide +kernel
theorem dX4_measure_9 : decode cX4_measure 9 = .ok (.istore_n 2, 1) := by decide +kernel
theorem dX4_measure_10 : decode cX4_measure 10 = .ok (.iload_n 2, 1) := by decide +kernel
theorem dX4_measure_11 : decode cX4_measure 11 = .ok (.bipush 12, 2) := by decide +kernel
theorem dX4_measure_13 : decode cX4_measure 13 = .ok (.if_icmp .ge 31, 3) := by decide +kernel
theorem dX4_measure_16 : decode cX4_measure 16 = .ok (.aload_n 0, 1) := by decide +kernel
theorem dX4_measure_17 : decode cX4_measure 17 = .ok (.getfield 9, 3) := by decide +kernel
theorem dX4_measure_20 : decode cX4_measure 20 = .ok (.iload_n 1, 1) := by decide +kernel
theorem dX4_measure_21 : decode cX4_measure 21 = .ok (.bipush 12, 2) := by decide +kernel
theorem dX4_measure_23 : decode cX4_measure 23 = .ok (.imul, 1) := by decide +kernel
theorem dX4_measure_24 : decode cX4_measure 24 = .ok (.iload_n 2, 1) := by decide +kernel
theorem dX4_measure_25 : decode cX4_measure 25 = .ok (.iadd, 1) := by decide +kernel
theorem dX4_measure_26 : decode cX4_measure 26 = .ok (.iload_n 1, 1) := by decide +kernel
theorem dX4_measure_27 : decode cX4_measure 27 = .ok (.iload_n 2, 1) := by decide +kernel
theorem dX4_measure_28 : decode cX4_measure 28 = .ok (.if_icmp .ne 7, 3) := by decide +kernel
theorem dX4_measure_31 : decode cX4_measure 31 = .ok (.iconst 0, 1) := by decide +kernel
theorem dX4_measure_32 : decode cX4_measure 32 = .ok (.goto 5, 3) := by decide +kernel
theorem dX4_measure_35 : decode cX4_measure 35 = .ok (.ldc 40, 2) := by decide +kernel
theorem dX4_measure_37 : decode cX4_measure 37 = .ok (.iastore, 1) := by decide +kernel
theorem dX4_measure_38 : decode cX4_measure 38 = .ok (.iinc 2 1, 3) := by decide +kernel
theorem dX4_measure_41 : decode cX4_measure 41 = .ok (.goto (-31), 3) := by decide +kernel
theorem dX4_measure_44 : decode cX4_measure 44 = .ok (.iinc 1 1, 3) := by decide +kernel
theorem dX4_measure_47 : decode cX4_measure 47 = .ok (.goto (-45), 3) := by decide +kernel
theorem dX4_measure_50 : decode cX4_measure 50 = .ok (.iconst 0, 1) := by decide +kernel
theorem dX4_measure_51 : decode cX4_measure 51 = .ok (.istore_n 1, 1) := by decide +kernel
theorem dX4_measure_52 : decode cX4_measure 52 = .ok (.iload_n 1, 1) := by decide +kernel
theorem dX4_measure_53 : decode cX4_measure 53 = .ok (.aload_n 0, 1) := by decide +kernel
theorem dX4_measure_54 : decode cX4_measure 54 = .ok (.getfield 21, 3) := by decide +kernel
theorem dX4_measure_57 : decode cX4_measure 57 = .ok (.invokevirtual 59, 3) := by decide +kernel
theorem dX4_measure_60 : decode cX4_measure 60 = .ok (.if_icmp .ge 57, 3) := by decide +kernel
theorem dX4_measure_63 : decode cX4_measure 63 = .ok (.aload_n 0, 1) := by decide +kernel
theorem dX4_measure_64 : decode cX4_measure 64 = .ok (.getfield 21, 3) := by decide +kernel
theorem dX4_measure_67 : decode cX4_measure 67 = .ok (.iload_n 1, 1) := by decide +kernel
theorem dX4_measure_68 : decode cX4_measure 68 = .ok (.iconst 0, 1) := by decide +kernel
theorem dX4_measure_69 : decode cX4_measure 69 = .ok (.invokevirtual 62, 3) := by decide +kernel
theorem dX4_measure_72 : decode cX4_measure 72 = .ok (.istore_n 2, 1) := by decide +kernel
theorem dX4_measure_73 : decode cX4_measure 73 = .ok (.aload_n 0, 1) := by decide +kernel
theorem dX4_measure_74 : decode cX4_measure 74 = .ok (.getfield 21, 3) := by decide +kernel
theorem dX4_measure_77 : decode cX4_measure 77 = .ok (.iload_n 1, 1) := by decide +kernel
theorem dX4_measure_78 : decode cX4_measure 78 = .ok (.iconst 1, 1) := by decide +kernel
theorem dX4_measure_79 : decode cX4_measure 79 = .ok (.invokevirtual 62, 3) := by decide +kernel
theorem dX4_measure_82 : decode cX4_measure 82 = .ok (.istore_n 3, 1) := by decide +kernel
theorem dX4_measure_83 : decode cX4_measure 83 = .ok (.aload_n 0, 1) := by decide +kernel
theorem dX4_measure_84 : decode cX4_measure 84 = .ok (.iload_n 2, 1) := by decide +kernel
theorem dX4_measure_85 : decode cX4_measure 85 = .ok (.iload_n 3, 1) := by decide +kernel
theorem dX4_measure_86 : decode cX4_measure 86 = .ok (.aload_n 0, 1) := by decide +kernel
theorem dX4_measure_87 : decode cX4_measure 87 = .ok (.getfield 21, 3) := by decide +kernel
theorem dX4_measure_90 : decode cX4_measure 90 = .ok (.iload_n 1, 1) := by decide +kernel
theorem dX4_measure_91 : decode cX4_measure 91 = .ok (.invokevirtual 65, 3) := by decide +kernel
theorem dX4_measure_94 : decode cX4_measure 94 = .ok (.invokevirtual 68, 3) := by decide +kernel
theorem dX4_measure_97 : decode cX4_measure 97 = .ok (.aload_n 0, 1) := by decide +kernel
theorem dX4_measure_98 : decode cX4_measure 98 = .ok (.iload_n 3, 1) := by decide +kernel
theorem dX4_measure_99 : decode cX4_measure 99 = .ok (.iload_n 2, 1) := by decide +kernel
theorem dX4_measure_100 : decode cX4_measure 100 = .ok (.aload_n 0, 1) := by decide +kernel
theorem dX4_measure_101 : decode cX4_measure 101 = .ok (.getfield 21, 3) := by decide +kernel
theorem dX4_measure_104 : decode cX4_measure 104 = .ok (.iload_n 1, 1) := by decide +kernel
theorem dX4_measure_105 : decode cX4_measure 105 = .ok (.invokevirtual 65, 3) := by decide +kernel
theorem dX4_measure_108 : decode cX4_measure 108 = .ok (.invokevirtual 68, 3) := by decide +kernel
theorem dX4_measure_111 : decode cX4_measure 111 = .ok (.iinc 1 1, 3) := by decide +kernel
theorem dX4_measure_114 : decode cX4_measure 114 = .ok (.goto (-62), 3) := by decide +kernel
theorem dX4_measure_117 : decode cX4_measure 117 = .ok (.iconst 0, 1) := by decide +kernel
theorem dX4_measure_118 : decode cX4_measure 118 = .ok (.istore_n 1, 1) := by decide +kernel
theorem dX4_measure_119 : decode cX4_measure 119 = .ok (.iload_n 1, 1) := by decide +kernel
theorem dX4_measure_120 : decode cX4_measure 120 = .ok (.aload_n 0, 1) := by decide +kernel
theorem dX4_measure_121 : decode cX4_measure 121 = .ok (.getfield 21, 3) := by decide +kernel
theorem dX4_measure_124 : decode cX4_measure 124 = .ok (.invokevirtual 72, 3) := by decide +kernel
theorem dX4_measure_127 : decode cX4_measure 127 = .ok (.if_icmp .ge 14, 3) := by decide +kernel
theorem dX4_measure_130 : decode cX4_measure 130 = .ok (.aload_n 0, 1) := by decide +kernel
theorem dX4_measure_131 : decode cX4_measure 131 = .ok (.iload_n 1, 1) := by decide +kernel
theorem dX4_measure_132 : decode cX4_measure 132 = .ok (.invokevirtual 75, 3) := by decide +kernel
theorem dX4_measure_135 : decode cX4_measure 135 = .ok (.iinc 1 1, 3) := by decide +kernel
theorem dX4_measure_138 : decode cX4_measure 138 = .ok (.goto (-19), 3) := by decide +kernel
theorem dX4_measure_141 : decode cX4_measure 141 = .ok (.return_, 1) := by decide +kernel
set_option maxRecDepth 20000 in
theorem ggX4_shortenBy_X2_nodeCount : GoodIn wsX4_shortenBy wsX2_nodeCount := goodIn_r _ [6, 7, 26, 27, 28, 29, 30, 31, 32, 33, 34, 35, 36, 37] (by decide +kernel) (by decide +kernel)
set_option maxRecDepth 20000 in
theorem gX4_shortenBy_X2_nodeCount : GoodIn wsX4_shortenBy (wsV RX4 72 RX2 yX2_nodeCount wsX2_nodeCount) := goodIn_app (goodIn_of _ (by decide +kernel)) ggX4_shortenBy_X2_nodeCount
set_option maxRecDepth 20000 in
theorem ggX4_shortenBy_X4_lengthBetween : GoodIn wsX4_shortenBy wsX4_lengthBetween := goodIn_r _ [12, 13, 22, 23, 24, 25] (by decide +kernel) (by decide +kernel)
set_option maxRecDepth 20000 in
theorem gX4_shortenBy_X4_lengthBetween : GoodIn wsX4_shortenBy (wsV RX4 56 RX4 yX4_lengthBetween wsX4_lengthBetween) := goodIn_app (goodIn_of _ (by decide +kernel)) ggX4_shortenBy_X4_lengthBetween
set_option maxRecDepth 20000 in
theorem ggX4_shortenBy_X4_shorten : GoodIn wsX4_shortenBy wsX4_shorten := goodIn_r _ [17, 13, 18, 19, 20, 21, 22, 23, 24, 25] (by decide +kernel) (by decide +kernel)
set_option maxRecDepth 20000 in
theorem gX4_shortenBy_X4_shorten : GoodIn wsX4_shortenBy (wsV RX4 68 RX4 yX4_shorten wsX4_shorten) := goodIn_app (goodIn_of _ (by decide +kernel)) ggX4_shortenBy_X4_shorten
theorem dX4_shortenBy_0 : decode cX4_shortenBy 0 = .ok (.iconst 0, 1) := by decide +kernel
theorem dX4_shortenBy_1 : decode cX4_shortenBy 1 = .ok (.istore_n 2, 1) := by decide +kernel
theorem dX4_shortenBy_2 : decode cX4_shortenBy 2 = .ok (.iload_n 2, 1) := by decide +kernel
theorem dX4_shortenBy_3 : decode cX4_shortenBy 3 = .ok (.aload_n 0, 1) := by decide +kernel
theorem dX4_shortenBy_4 : decode cX4_shortenBy 4 = .ok (.getfield 21, 3) := by decide +kernel
theorem dX4_shortenBy_7 : decode cX4_shortenBy 7 = .ok (.invokevirtual 72, 3) := by decide +kernel
theorem dX4_shortenBy_10 : decode cX4_shortenBy 10 = .ok (.if_icmp .ge 51, 3) := by decide +kernel
theorem dX4_shortenBy_13 : decode cX4_shortenBy 13 = .ok (.iconst 0, 1) := by decide +kernel
theorem dX4_shortenBy_14 : decode cX4_shortenBy 14 = .ok (.istore_n 3, 1) := by decide +kernel
theorem dX4_shortenBy_15 : decode cX4_shortenBy 15 = .ok (.iload_n 3, 1) := by decide +kernel
theorem dX4_shortenBy_16 : decode cX4_shortenBy 16 = .ok (.aload_n 0, 1) := by decide +kernel
theorem dX4_shortenBy_17 : decode cX4_shortenBy 17 = .ok (.getfield 21, 3) := by decide +kernel
theorem dX4_shortenBy_20 : decode cX4_shortenBy 20 = .ok (.invokevirtual 72, 3) := by decide +kernel
theorem dX4_shortenBy_23 : decode cX4_shortenBy 23 = .ok (.if_icmp .ge 32, 3) := by decide +kernel
theorem dX4_shortenBy_26 : decode cX4_shortenBy 26 = .ok (.aload_n 0, 1) := by decide +kernel
theorem dX4_shortenBy_27 : decode cX4_shortenBy 27 = .ok (.iload_n 2, 1) := by decide +kernel
theorem dX4_shortenBy_28 : decode cX4_shortenBy 28 = .ok (.iload_n 1, 1) := by decide +kernel
theorem dX4_shortenBy_29 : decode cX4_shortenBy 29 = .ok (.invokevirtual 56, 3) := by decide +kernel
theorem dX4_shortenBy_32 : decode cX4_shortenBy 32 = .ok (.aload_n 0, 1) := by decide +kernel
theorem dX4_shortenBy_33 : decode cX4_shortenBy 33 = .ok (.iload_n 1, 1) := by decide +kernel
theorem dX4_shortenBy_34 : decode cX4_shortenBy 34 = .ok (.iload_n 3, 1) := by decide +kernel
theorem dX4_shortenBy_35 : decode cX4_shortenBy 35 = .ok (.invokevirtual 56, 3) := by decide +kernel
theorem dX4_shortenBy_38 : decode cX4_shortenBy 38 = .ok (.iadd, 1) := by decide +kernel
theorem dX4_shortenBy_39 : decode cX4_shortenBy 39 = .ok (.istore 4, 2) := by decide +kernel
theorem dX4_shortenBy_41 : decode cX4_shortenBy 41 = .ok (.aload_n 0, 1) := by decide +kernel
theorem dX4_shortenBy_42 : decode cX4_shortenBy 42 = .ok (.iload_n 2, 1) := by decide +kernel
theorem dX4_shortenBy_43 : decode cX4_shortenBy 43 = .ok (.iload_n 3, 1) := by decide +kernel
theorem dX4_shortenBy_44 : decode cX4_shortenBy 44 = .ok (.iload 4, 2) := by decide +kernel
theorem dX4_shortenBy_46 : decode cX4_shortenBy 46 = .ok (.invokevirtual 68, 3) := by decide +kernel
theorem dX4_shortenBy_49 : decode cX4_shortenBy 49 = .ok (.iinc 3 1, 3) := by decide +kernel
theorem dX4_shortenBy_52 : decode cX4_shortenBy 52 = .ok (.goto (-37), 3) := by decide +kernel
theorem dX4_shortenBy_55 : decode cX4_shortenBy 55 = .ok (.iinc 2 1, 3) := by decide +kernel
theorem dX4_shortenBy_58 : decode cX4_shortenBy 58 = .ok (.goto (-56), 3) := by decide +kernel
theorem dX4_shortenBy_61 : decode cX4_shortenBy 61 = .ok (.return_, 1) := by decide +kernel
theorem dX4_shorten_0 : decode cX4_shorten 0 = .ok (.iload_n 1, 1) := by decide +kernel
theorem dX4_shorten_1 : decode cX4_shorten 1 = .ok (.bipush 12, 2) := by decide +kernel
theorem dX4_shorten_3 : decode cX4_shorten 3 = .ok (.imul, 1) := by decide +kernel
theorem dX4_shorten_4 : decode cX4_shorten 4 = .ok (.iload_n 2, 1) := by decide +kernel
theorem dX4_shorten_5 : decode cX4_shorten 5 = .ok (.iadd, 1) := by decide +kernel
theorem dX4_shorten_6 : decode cX4_shorten 6 = .ok (.istore 4, 2) := by decide +kernel
theorem dX4_shorten_8 : decode cX4_shorten 8 = .ok (.aload_n 0, 1) := by decide +kernel
theorem dX4_shorten_9 : decode cX4_shorten 9 = .ok (.getfield 9, 3) := by decide +kernel
theorem dX4_shorten_12 : decode cX4_shorten 12 = .ok (.iload 4, 2) := by decide +kernel
theorem dX4_shorten_14 : decode cX4_shorten 14 = .ok (.aload_n 0, 1) := by decide +kernel
theorem dX4_shorten_15 : decode cX4_shorten 15 = .ok (.getfield 9, 3) := by decide +kernel
theorem dX4_shorten_18 : decode cX4_shorten 18 = .ok (.iload 4, 2) := by decide +kernel
theorem dX4_shorten_20 : decode cX4_shorten 20 = .ok (.iaload, 1) := by decide +kernel
theorem dX4_shorten_21 : decode cX4_shorten 21 = .ok (.iload_n 3, 1) := by decide +kernel
theorem dX4_shorten_22 : decode cX4_shorten 22 = .ok (.invokestatic 41, 3) := by decide +kernel
theorem dX4_shorten_25 : decode cX4_shorten 25 = .ok (.iastore, 1) := by decide +kernel
theorem dX4_shorten_26 : decode cX4_shorten 26 = .ok (.return_, 1) := by decide +kernel
