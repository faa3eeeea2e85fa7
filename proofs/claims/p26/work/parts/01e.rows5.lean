set_option maxRecDepth 20000 in
theorem ggX5_init_X2_init : GoodIn wsX5_init wsX2_init := goodIn_r _ [25, 26, 2, 3, 27, 28, 29, 30, 31, 32, 33, 64, 65, 66, 67, 68, 69, 70, 71, 72, 73, 74, 75] (by decide +kernel) (by decide +kernel)
set_option maxRecDepth 20000 in
theorem gX5_init_X2_init_n11 : GoodIn wsX5_init (wsX2_init) := ggX5_init_X2_init
set_option maxRecDepth 20000 in
theorem ggX5_init_X3_init : GoodIn wsX5_init wsX3_init := goodIn_r _ [36, 37, 2, 3, 27, 38, 39, 81, 82] (by decide +kernel) (by decide +kernel)
set_option maxRecDepth 20000 in
theorem gX5_init_X3_init : GoodIn wsX5_init (wsX3_init) := ggX5_init_X3_init
set_option maxRecDepth 20000 in
theorem ggX5_init_X0_init : GoodIn wsX5_init wsX0_init := goodIn_r _ [42, 43, 2, 3, 27, 44, 45, 46, 47, 48, 49, 83, 84, 85, 86, 87, 88] (by decide +kernel) (by decide +kernel)
set_option maxRecDepth 20000 in
theorem gX5_init_X0_init : GoodIn wsX5_init (wsX0_init) := ggX5_init_X0_init
set_option maxRecDepth 20000 in
theorem ggX5_init_X1_init : GoodIn wsX5_init wsX1_init := goodIn_r _ [52, 53, 2, 3, 27, 54, 55, 89, 90] (by decide +kernel) (by decide +kernel)
set_option maxRecDepth 20000 in
theorem gX5_init_X1_init : GoodIn wsX5_init (wsX1_init) := ggX5_init_X1_init
set_option maxRecDepth 20000 in
theorem ggX5_init_X4_init : GoodIn wsX5_init wsX4_init := goodIn_r _ [58, 59, 2, 3, 27, 60, 61, 62, 63, 91, 92, 93, 94] (by decide +kernel) (by decide +kernel)
set_option maxRecDepth 20000 in
theorem gX5_init_X4_init : GoodIn wsX5_init (wsX4_init) := ggX5_init_X4_init
theorem dX5_init_0 : decode cX5_init 0 = .ok (.aload_n 0, 1) := by decide +kernel
theorem dX5_init_1 : decode cX5_init 1 = .ok (.invokespecial 3, 3) := by decide +kernel
theorem dX5_init_4 : decode cX5_init 4 = .ok (.aload_n 0, 1) := by decide +kernel
theorem dX5_init_5 : decode cX5_init 5 = .ok (.new 9, 3) := by decide +kernel
theorem dX5_init_8 : decode cX5_init 8 = .ok (.dup, 1) := by decide +kernel
theorem dX5_init_9 : decode cX5_init 9 = .ok (.invokespecial 11, 3) := by decide +kernel
theorem dX5_init_12 : decode cX5_init 12 = .ok (.putfield 12, 3) := by decide +kernel
theorem dX5_init_15 : decode cX5_init 15 = .ok (.aload_n 0, 1) := by decide +kernel
theorem dX5_init_16 : decode cX5_init 16 = .ok (.new 16, 3) := by decide +kernel
theorem dX5_init_19 : decode cX5_init 19 = .ok (.dup, 1) := by decide +kernel
theorem dX5_init_20 : decode cX5_init 20 = .ok (.aload_n 0, 1) := by decide +kernel
theorem dX5_init_21 : decode cX5_init 21 = .ok (.getfield 12, 3) := by decide +kernel
theorem dX5_init_24 : decode cX5_init 24 = .ok (.invokespecial 18, 3) := by decide +kernel
theorem dX5_init_27 : decode cX5_init 27 = .ok (.putfield 21, 3) := by decide +kernel
theorem dX5_init_30 : decode cX5_init 30 = .ok (.aload_n 0, 1) := by decide +kernel
theorem dX5_init_31 : decode cX5_init 31 = .ok (.new 25, 3) := by decide +kernel
theorem dX5_init_34 : decode cX5_init 34 = .ok (.dup, 1) := by decide +kernel
theorem dX5_init_35 : decode cX5_init 35 = .ok (.aload_n 0, 1) := by decide +kernel
theorem dX5_init_36 : decode cX5_init 36 = .ok (.getfield 12, 3) := by decide +kernel
theorem dX5_init_39 : decode cX5_init 39 = .ok (.invokespecial 27, 3) := by decide +kernel
theorem dX5_init_42 : decode cX5_init 42 = .ok (.putfield 28, 3) := by decide +kernel
theorem dX5_init_45 : decode cX5_init 45 = .ok (.aload_n 0, 1) := by decide +kernel
theorem dX5_init_46 : decode cX5_init 46 = .ok (.new 32, 3) := by decide +kernel
theorem dX5_init_49 : decode cX5_init 49 = .ok (.dup, 1) := by decide +kernel
theorem dX5_init_50 : decode cX5_init 50 = .ok (.aload_n 0, 1) := by decide +kernel
theorem dX5_init_51 : decode cX5_init 51 = .ok (.getfield 12, 3) := by decide +kernel
theorem dX5_init_54 : decode cX5_init 54 = .ok (.invokespecial 34, 3) := by decide +kernel
theorem dX5_init_57 : decode cX5_init 57 = .ok (.putfield 35, 3) := by decide +kernel
theorem dX5_init_60 : decode cX5_init 60 = .ok (.aload_n 0, 1) := by decide +kernel
theorem dX5_init_61 : decode cX5_init 61 = .ok (.new 39, 3) := by decide +kernel
theorem dX5_init_64 : decode cX5_init 64 = .ok (.dup, 1) := by decide +kernel
theorem dX5_init_65 : decode cX5_init 65 = .ok (.aload_n 0, 1) := by decide +kernel
theorem dX5_init_66 : decode cX5_init 66 = .ok (.getfield 12, 3) := by decide +kernel
theorem dX5_init_69 : decode cX5_init 69 = .ok (.invokespecial 41, 3) := by decide +kernel
theorem dX5_init_72 : decode cX5_init 72 = .ok (.putfield 42, 3) := by decide +kernel
theorem dX5_init_75 : decode cX5_init 75 = .ok (.return_, 1) := by decide +kernel
set_option maxRecDepth 20000 in
theorem ggX5_addNode_X2_nodeCount : GoodIn wsX5_addNode wsX2_nodeCount := goodIn_r _ [8, 9, 29, 30, 31, 32, 33, 34, 35, 36, 37, 38, 39, 40] (by decide +kernel) (by decide +kernel)
set_option maxRecDepth 20000 in
theorem gX5_addNode_X2_nodeCount : GoodIn wsX5_addNode (wsV RX5 46 RX2 yX2_nodeCount wsX2_nodeCount) := goodIn_app (goodIn_of _ (by decide +kernel)) ggX5_addNode_X2_nodeCount
set_option maxRecDepth 20000 in
theorem ggX5_addNode_X2_putNode : GoodIn wsX5_addNode wsX2_putNode := goodIn_r _ [13, 9, 14, 15, 16, 7, 17, 18, 19, 20, 21, 22, 23, 29, 30, 31, 32, 33, 34, 35, 36, 37, 38, 39, 40] (by decide +kernel) (by decide +kernel)
set_option maxRecDepth 20000 in
theorem gX5_addNode_X2_putNode : GoodIn wsX5_addNode (wsV RX5 57 RX2 yX2_putNode wsX2_putNode) := goodIn_app (goodIn_of _ (by decide +kernel)) ggX5_addNode_X2_putNode
theorem dX5_addNode_0 : decode cX5_addNode 0 = .ok (.aload_n 0, 1) := by decide +kernel
theorem dX5_addNode_1 : decode cX5_addNode 1 = .ok (.getfield 12, 3) := by decide +kernel
theorem dX5_addNode_4 : decode cX5_addNode 4 = .ok (.invokevirtual 46, 3) := by decide +kernel
theorem dX5_addNode_7 : decode cX5_addNode 7 = .ok (.bipush 12, 2) := by decide +kernel
theorem dX5_addNode_9 : decode cX5_addNode 9 = .ok (.if_icmp .lt 13, 3) := by decide +kernel
theorem dX5_addNode_12 : decode cX5_addNode 12 = .ok (.new 50, 3) := by decide +kernel
theorem dX5_addNode_15 : decode cX5_addNode 15 = .ok (.dup, 1) := by decide +kernel
theorem dX5_addNode_16 : decode cX5_addNode 16 = .ok (.ldc 52, 2) := by decide +kernel
theorem dX5_addNode_18 : decode cX5_addNode 18 = .ok (.invokespecial 54, 3) := by decide +kernel
theorem dX5_addNode_21 : decode cX5_addNode 21 = .ok (.athrow, 1) := by decide +kernel
theorem dX5_addNode_22 : decode cX5_addNode 22 = .ok (.aload_n 0, 1) := by decide +kernel
theorem dX5_addNode_23 : decode cX5_addNode 23 = .ok (.getfield 12, 3) := by decide +kernel
theorem dX5_addNode_26 : decode cX5_addNode 26 = .ok (.iload_n 1, 1) := by decide +kernel
theorem dX5_addNode_27 : decode cX5_addNode 27 = .ok (.invokevirtual 57, 3) := by decide +kernel
theorem dX5_addNode_30 : decode cX5_addNode 30 = .ok (.ireturn, 1) := by decide +kernel
set_option maxRecDepth 20000 in
theorem ggX5_addPipe_X5_requireNode : GoodIn wsX5_addPipe wsX5_requireNode := goodIn_ca (goodIn_r _ [10, 11, 12, 5, 13, 14, 15, 16, 17, 18, 38, 39, 40, 41, 42, 43, 44, 45, 46, 47, 48, 49, 50, 51, 52, 53, 54] (by decide +kernel) (by decide +kernel)) (goodIn_sub (fun _ h => List.mem_cons_of_mem _ (List.mem_append_right _ h)) (by decide +kernel))
set_option maxRecDepth 20000 in
theorem gX5_addPipe_X5_requireNode : GoodIn wsX5_addPipe (wsV RX5 61 RX5 yX5_requireNode wsX5_requireNode) := goodIn_app (goodIn_of _ (by decide +kernel)) ggX5_addPipe_X5_requireNode
set_option maxRecDepth 20000 in
theorem ggX5_addPipe_X2_pipeCount : GoodIn wsX5_addPipe wsX2_pipeCount := goodIn_r _ [22, 23, 43, 44, 45, 46, 47, 48, 49, 50, 51, 52, 53, 54] (by decide +kernel) (by decide +kernel)
set_option maxRecDepth 20000 in
theorem gX5_addPipe_X2_pipeCount : GoodIn wsX5_addPipe (wsV RX5 74 RX2 yX2_pipeCount wsX2_pipeCount) := goodIn_app (goodIn_of _ (by decide +kernel)) ggX5_addPipe_X2_pipeCount
set_option maxRecDepth 20000 in
theorem ggX5_addPipe_X2_putPipe : GoodIn wsX5_addPipe wsX2_putPipe := goodIn_r _ [27, 23, 28, 29, 30, 31, 32, 16, 33, 34, 35, 36, 9, 37, 43, 44, 45, 46, 47, 48, 49, 50, 51, 52, 53, 54] (by decide +kernel) (by decide +kernel)
set_option maxRecDepth 20000 in
theorem gX5_addPipe_X2_putPipe : GoodIn wsX5_addPipe (wsV RX5 79 RX2 yX2_putPipe wsX2_putPipe) := goodIn_app (goodIn_of _ (by decide +kernel)) ggX5_addPipe_X2_putPipe
theorem dX5_addPipe_0 : decode cX5_addPipe 0 = .ok (.aload_n 0, 1) := by decide +kernel
theorem dX5_addPipe_1 : decode cX5_addPipe 1 = .ok (.iload_n 1, 1) := by decide +kernel
theorem dX5_addPipe_2 : decode cX5_addPipe 2 = .ok (.invokevirtual 61, 3) := by decide +kernel
theorem dX5_addPipe_5 : decode cX5_addPipe 5 = .ok (.aload_n 0, 1) := by decide +kernel
theorem dX5_addPipe_6 : decode cX5_addPipe 6 = .ok (.iload_n 2, 1) := by decide +kernel
theorem dX5_addPipe_7 : decode cX5_addPipe 7 = .ok (.invokevirtual 61, 3) := by decide +kernel
theorem dX5_addPipe_10 : decode cX5_addPipe 10 = .ok (.iload_n 1, 1) := by decide +kernel
theorem dX5_addPipe_11 : decode cX5_addPipe 11 = .ok (.iload_n 2, 1) := by decide +kernel
theorem dX5_addPipe_12 : decode cX5_addPipe 12 = .ok (.if_icmp .ne 13, 3) := by decide +kernel
theorem dX5_addPipe_15 : decode cX5_addPipe 15 = .ok (.new 65, 3) := by decide +kernel
theorem dX5_addPipe_18 : decode cX5_addPipe 18 = .ok (.dup, 1) := by decide +kernel
theorem dX5_addPipe_19 : decode cX5_addPipe 19 = .ok (.ldc 67, 2) := by decide +kernel
theorem dX5_addPipe_21 : decode cX5_addPipe 21 = .ok (.invokespecial 69, 3) := by decide +kernel
theorem dX5_addPipe_24 : decode cX5_addPipe 24 = .ok (.athrow, 1) := by decide +kernel
theorem dX5_addPipe_25 : decode cX5_addPipe 25 = .ok (.iload_n 3, 1) := by decide +kernel
theorem dX5_addPipe_26 : decode cX5_addPipe 26 = .ok (.iconst 1, 1) := by decide +kernel
theorem dX5_addPipe_27 : decode cX5_addPipe 27 = .ok (.if_icmp .lt 9, 3) := by decide +kernel
theorem dX5_addPipe_30 : decode cX5_addPipe 30 = .ok (.iload_n 3, 1) := by decide +kernel
theorem dX5_addPipe_31 : decode cX5_addPipe 31 = .ok (.bipush 99, 2) := by decide +kernel
theorem dX5_addPipe_33 : decode cX5_addPipe 33 = .ok (.if_icmp .le 13, 3) := by decide +kernel
theorem dX5_addPipe_36 : decode cX5_addPipe 36 = .ok (.new 65, 3) := by decide +kernel
theorem dX5_addPipe_39 : decode cX5_addPipe 39 = .ok (.dup, 1) := by decide +kernel
theorem dX5_addPipe_40 : decode cX5_addPipe 40 = .ok (.ldc 70, 2) := by decide +kernel
theorem dX5_addPipe_42 : decode cX5_addPipe 42 = .ok (.invokespecial 69, 3) := by decide +kernel
theorem dX5_addPipe_45 : decode cX5_addPipe 45 = .ok (.athrow, 1) := by decide +kernel
theorem dX5_addPipe_46 : decode cX5_addPipe 46 = .ok (.iload 4, 2) := by decide +kernel
theorem dX5_addPipe_48 : decode cX5_addPipe 48 = .ok (.ifCond .lt 10, 3) := by decide +kernel
theorem dX5_addPipe_51 : decode cX5_addPipe 51 = .ok (.iload 4, 2) := by decide +kernel
theorem dX5_addPipe_53 : decode cX5_addPipe 53 = .ok (.bipush 99, 2) := by decide +kernel
theorem dX5_addPipe_55 : decode cX5_addPipe 55 = .ok (.if_icmp .le 13, 3) := by decide +kernel
theorem dX5_addPipe_58 : decode cX5_addPipe 58 = .ok (.new 65, 3) := by decide +kernel
theorem dX5_addPipe_61 : decode cX5_addPipe 61 = .ok (.dup, 1) := by decide +kernel
theorem dX5_addPipe_62 : decode cX5_addPipe 62 = .ok (.ldc 72, 2) := by decide +kernel
theorem dX5_addPipe_64 : decode cX5_addPipe 64 = .ok (.invokespecial 69, 3) := by decide +kernel
theorem dX5_addPipe_67 : decode cX5_addPipe 67 = .ok (.athrow, 1) := by decide +kernel
theorem dX5_addPipe_68 : decode cX5_addPipe 68 = .ok (.aload_n 0, 1) := by decide +kernel
theorem dX5_addPipe_69 : decode cX5_addPipe 69 = .ok (.getfield 12, 3) := by decide +kernel
theorem dX5_addPipe_72 : decode cX5_addPipe 72 = .ok (.invokevirtual 74, 3) := by decide +kernel
theorem dX5_addPipe_75 : decode cX5_addPipe 75 = .ok (.bipush 16, 2) := by decide +kernel
theorem dX5_addPipe_77 : decode cX5_addPipe 77 = .ok (.if_icmp .lt 13, 3) := by decide +kernel
theorem dX5_addPipe_80 : decode cX5_addPipe 80 = .ok (.new 50, 3) := by decide +kernel
theorem dX5_addPipe_83 : decode cX5_addPipe 83 = .ok (.dup, 1) := by decide +kernel
theorem dX5_addPipe_84 : decode cX5_addPipe 84 = .ok (.ldc 77, 2) := by decide +kernel
theorem dX5_addPipe_86 : decode cX5_addPipe 86 = .ok (.invokespecial 54, 3) := by decide +kernel
theorem dX5_addPipe_89 : decode cX5_addPipe 89 = .ok (.athrow, 1) := by decide +kernel
theorem dX5_addPipe_90 : decode cX5_addPipe 90 = .ok (.aload_n 0, 1) := by decide +kernel
theorem dX5_addPipe_91 : decode cX5_addPipe 91 = .ok (.getfield 12, 3) := by decide +kernel
theorem dX5_addPipe_94 : decode cX5_addPipe 94 = .ok (.iload_n 1, 1) := by decide +kernel
theorem dX5_addPipe_95 : decode cX5_addPipe 95 = .ok (.iload_n 2, 1) := by decide +kernel
theorem dX5_addPipe_96 : decode cX5_addPipe 96 = .ok (.iload_n 3, 1) := by decide +kernel
theorem dX5_addPipe_97 : decode cX5_addPipe 97 = .ok (.iload 4, 2) := by decide +kernel
theorem dX5_addPipe_99 : decode cX5_addPipe 99 = .ok (.invokevirtual 79, 3) := by decide +kernel
theorem dX5_addPipe_102 : decode cX5_addPipe 102 = .ok (.ireturn, 1) := by decide +kernel
set_option maxRecDepth 20000 in
theorem ggX5_addValve_X5_requirePipe : GoodIn wsX5_addValve wsX5_requirePipe := goodIn_ca (goodIn_r _ [10, 11, 12, 5, 13, 14, 15, 16, 17, 18, 34, 35, 36, 37, 38, 39, 40, 41, 42, 43, 44, 45, 46, 47, 48, 49, 50] (by decide +kernel) (by decide +kernel)) (goodIn_sub (fun _ h => List.mem_cons_of_mem _ (List.mem_append_right _ h)) (by decide +kernel))
set_option maxRecDepth 20000 in
theorem gX5_addValve_X5_requirePipe : GoodIn wsX5_addValve (wsV RX5 83 RX5 yX5_requirePipe wsX5_requirePipe) := goodIn_app (goodIn_of _ (by decide +kernel)) ggX5_addValve_X5_requirePipe
set_option maxRecDepth 20000 in
theorem ggX5_addValve_X2_valveBitAt : GoodIn wsX5_addValve wsX2_valveBitAt := goodIn_r _ [22, 23, 39, 40, 41, 42, 43, 44, 45, 46, 47, 48, 49, 50] (by decide +kernel) (by decide +kernel)
set_option maxRecDepth 20000 in
theorem gX5_addValve_X2_valveBitAt : GoodIn wsX5_addValve (wsV RX5 88 RX2 yX2_valveBitAt wsX2_valveBitAt) := goodIn_app (goodIn_of _ (by decide +kernel)) ggX5_addValve_X2_valveBitAt
set_option maxRecDepth 20000 in
theorem ggX5_addValve_X2_valveCount : GoodIn wsX5_addValve wsX2_valveCount := goodIn_r _ [27, 28, 39, 40, 41, 42, 43, 44, 45, 46, 47, 48, 49, 50] (by decide +kernel) (by decide +kernel)
set_option maxRecDepth 20000 in
theorem gX5_addValve_X2_valveCount : GoodIn wsX5_addValve (wsV RX5 94 RX2 yX2_valveCount wsX2_valveCount) := goodIn_app (goodIn_of _ (by decide +kernel)) ggX5_addValve_X2_valveCount
set_option maxRecDepth 20000 in
theorem ggX5_addValve_X2_putValve : GoodIn wsX5_addValve wsX2_putValve := goodIn_r _ [32, 28, 23, 33, 39, 40, 41, 42, 43, 44, 45, 46, 47, 48, 49, 50] (by decide +kernel) (by decide +kernel)
set_option maxRecDepth 20000 in
theorem gX5_addValve_X2_putValve : GoodIn wsX5_addValve (wsV RX5 99 RX2 yX2_putValve wsX2_putValve) := goodIn_app (goodIn_of _ (by decide +kernel)) ggX5_addValve_X2_putValve
theorem dX5_addValve_0 : decode cX5_addValve 0 = .ok (.aload_n 0, 1) := by decide +kernel
theorem dX5_addValve_1 : decode cX5_addValve 1 = .ok (.iload_n 1, 1) := by decide +kernel
theorem dX5_addValve_2 : decode cX5_addValve 2 = .ok (.invokevirtual 83, 3) := by decide +kernel
theorem dX5_addValve_5 : decode cX5_addValve 5 = .ok (.iload_n 2, 1) := by decide +kernel
theorem dX5_addValve_6 : decode cX5_addValve 6 = .ok (.ifCond .lt 8, 3) := by decide +kernel
theorem dX5_addValve_9 : decode cX5_addValve 9 = .ok (.iload_n 2, 1) := by decide +kernel
theorem dX5_addValve_10 : decode cX5_addValve 10 = .ok (.iconst 2, 1) := by decide +kernel
theorem dX5_addValve_11 : decode cX5_addValve 11 = .ok (.if_icmp .lt 13, 3) := by decide +kernel
theorem dX5_addValve_14 : decode cX5_addValve 14 = .ok (.new 65, 3) := by decide +kernel
theorem dX5_addValve_17 : decode cX5_addValve 17 = .ok (.dup, 1) := by decide +kernel
theorem dX5_addValve_18 : decode cX5_addValve 18 = .ok (.ldc 86, 2) := by decide +kernel
theorem dX5_addValve_20 : decode cX5_addValve 20 = .ok (.invokespecial 69, 3) := by decide +kernel
theorem dX5_addValve_23 : decode cX5_addValve 23 = .ok (.athrow, 1) := by decide +kernel
theorem dX5_addValve_24 : decode cX5_addValve 24 = .ok (.aload_n 0, 1) := by decide +kernel
theorem dX5_addValve_25 : decode cX5_addValve 25 = .ok (.getfield 12, 3) := by decide +kernel
theorem dX5_addValve_28 : decode cX5_addValve 28 = .ok (.iload_n 1, 1) := by decide +kernel
theorem dX5_addValve_29 : decode cX5_addValve 29 = .ok (.iload_n 2, 1) := by decide +kernel
theorem dX5_addValve_30 : decode cX5_addValve 30 = .ok (.invokevirtual 88, 3) := by decide +kernel
theorem dX5_addValve_33 : decode cX5_addValve 33 = .ok (.ifCond .eq 13, 3) := by decide +kernel
theorem dX5_addValve_36 : decode cX5_addValve 36 = .ok (.new 50, 3) := by decide +kernel
theorem dX5_addValve_39 : decode cX5_addValve 39 = .ok (.dup, 1) := by decide +kernel
theorem dX5_addValve_40 : decode cX5_addValve 40 = .ok (.ldc 92, 2) := by decide +kernel
theorem dX5_addValve_42 : decode cX5_addValve 42 = .ok (.invokespecial 54, 3) := by decide +kernel
theorem dX5_addValve_45 : decode cX5_addValve 45 = .ok (.athrow, 1) := by decide +kernel
theorem dX5_addValve_46 : decode cX5_addValve 46 = .ok (.aload_n 0, 1) := by decide +kernel
theorem dX5_addValve_47 : decode cX5_addValve 47 = .ok (.getfield 12, 3) := by decide +kernel
theorem dX5_addValve_50 : decode cX5_addValve 50 = .ok (.invokevirtual 94, 3) := by decide +kernel
theorem dX5_addValve_53 : decode cX5_addValve 53 = .ok (.bipush 12, 2) := by decide +kernel
theorem dX5_addValve_55 : decode cX5_addValve 55 = .ok (.if_icmp .lt 13, 3) := by decide +kernel
theorem dX5_addValve_58 : decode cX5_addValve 58 = .ok (.new 50, 3) := by decide +kernel
theorem dX5_addValve_61 : decode cX5_addValve 61 = .ok (.dup, 1) := by decide +kernel
theorem dX5_addValve_62 : decode cX5_addValve 62 = .ok (.ldc 97, 2) := by decide +kernel
theorem dX5_addValve_64 : decode cX5_addValve 64 = .ok (.invokespecial 54, 3) := by decide +kernel
theorem dX5_addValve_67 : decode cX5_addValve 67 = .ok (.athrow, 1) := by decide +kernel
theorem dX5_addValve_68 : decode cX5_addValve 68 = .ok (.aload_n 0, 1) := by decide +kernel
theorem dX5_addValve_69 : decode cX5_addValve 69 = .ok (.getfield 12, 3) := by decide +kernel
theorem dX5_addValve_72 : decode cX5_addValve 72 = .ok (.iload_n 1, 1) := by decide +kernel
theorem dX5_addValve_73 : decode cX5_addValve 73 = .ok (.iload_n 2, 1) := by decide +kernel
theorem dX5_addValve_74 : decode cX5_addValve 74 = .ok (.invokevirtual 99, 3) := by decide +kernel
theorem dX5_addValve_77 : decode cX5_addValve 77 = .ok (.ireturn, 1) := by decide +kernel
set_option maxRecDepth 20000 in
theorem ggX5_setSource_X5_requireNode : GoodIn wsX5_setSource wsX5_requireNode := goodIn_ca (goodIn_r _ [6, 7, 8, 1, 9, 10, 11, 12, 13, 14, 24, 25, 26, 27, 28, 29, 30, 31, 32, 33, 34, 35, 36, 37, 38, 39, 40] (by decide +kernel) (by decide +kernel)) (goodIn_sub (fun _ h => List.mem_cons_of_mem _ (List.mem_append_right _ h)) (by decide +kernel))
set_option maxRecDepth 20000 in
theorem gX5_setSource_X5_requireNode : GoodIn wsX5_setSource (wsV RX5 61 RX5 yX5_requireNode wsX5_requireNode) := goodIn_app (goodIn_of _ (by decide +kernel)) ggX5_setSource_X5_requireNode
set_option maxRecDepth 20000 in
theorem ggX5_setSource_X2_markSource : GoodIn wsX5_setSource wsX2_markSource := goodIn_r _ [18, 19, 20, 5, 21, 22, 23, 29, 30, 31, 32, 33, 34, 35, 36, 37, 38, 39, 40] (by decide +kernel) (by decide +kernel)
set_option maxRecDepth 20000 in
theorem gX5_setSource_X2_markSource : GoodIn wsX5_setSource (wsV RX5 102 RX2 yX2_markSource wsX2_markSource) := goodIn_app (goodIn_of _ (by decide +kernel)) ggX5_setSource_X2_markSource
theorem dX5_setSource_0 : decode cX5_setSource 0 = .ok (.aload_n 0, 1) := by decide +kernel
theorem dX5_setSource_1 : decode cX5_setSource 1 = .ok (.iload_n 1, 1) := by decide +kernel
theorem dX5_setSource_2 : decode cX5_setSource 2 = .ok (.invokevirtual 61, 3) := by decide +kernel
theorem dX5_setSource_5 : decode cX5_setSource 5 = .ok (.aload_n 0, 1) := by decide +kernel
theorem dX5_setSource_6 : decode cX5_setSource 6 = .ok (.getfield 12, 3) := by decide +kernel
theorem dX5_setSource_9 : decode cX5_setSource 9 = .ok (.iload_n 1, 1) := by decide +kernel
theorem dX5_setSource_10 : decode cX5_setSource 10 = .ok (.iload_n 2, 1) := by decide +kernel
theorem dX5_setSource_11 : decode cX5_setSource 11 = .ok (.invokevirtual 102, 3) := by decide +kernel
theorem dX5_setSource_14 : decode cX5_setSource 14 = .ok (.ireturn, 1) := by decide +kernel
set_option maxRecDepth 20000 in
theorem ggX5_setStuck_X5_requireValve : GoodIn wsX5_setStuck wsX5_requireValve := goodIn_ca (goodIn_r _ [6, 7, 8, 1, 9, 10, 11, 12, 13, 14, 24, 25, 26, 27, 28, 29, 30, 31, 32, 33, 34, 35, 36, 37, 38, 39, 40] (by decide +kernel) (by decide +kernel)) (goodIn_sub (fun _ h => List.mem_cons_of_mem _ (List.mem_append_right _ h)) (by decide +kernel))
set_option maxRecDepth 20000 in
theorem gX5_setStuck_X5_requireValve : GoodIn wsX5_setStuck (wsV RX5 106 RX5 yX5_requireValve wsX5_requireValve) := goodIn_app (goodIn_of _ (by decide +kernel)) ggX5_setStuck_X5_requireValve
set_option maxRecDepth 20000 in
theorem ggX5_setStuck_X2_markStuck : GoodIn wsX5_setStuck wsX2_markStuck := goodIn_r _ [18, 19, 20, 5, 21, 22, 23, 29, 30, 31, 32, 33, 34, 35, 36, 37, 38, 39, 40] (by decide +kernel) (by decide +kernel)
set_option maxRecDepth 20000 in
theorem gX5_setStuck_X2_markStuck : GoodIn wsX5_setStuck (wsV RX5 109 RX2 yX2_markStuck wsX2_markStuck) := goodIn_app (goodIn_of _ (by decide +kernel)) ggX5_setStuck_X2_markStuck
theorem dX5_setStuck_0 : decode cX5_setStuck 0 = .ok (.aload_n 0, 1) := by decide +kernel
theorem dX5_setStuck_1 : decode cX5_setStuck 1 = .ok (.iload_n 1, 1) := by decide +kernel
theorem dX5_setStuck_2 : decode cX5_setStuck 2 = .ok (.invokevirtual 106, 3) := by decide +kernel
theorem dX5_setStuck_5 : decode cX5_setStuck 5 = .ok (.aload_n 0, 1) := by decide +kernel
theorem dX5_setStuck_6 : decode cX5_setStuck 6 = .ok (.getfield 12, 3) := by decide +kernel
theorem dX5_setStuck_9 : decode cX5_setStuck 9 = .ok (.iload_n 1, 1) := by decide +kernel
theorem dX5_setStuck_10 : decode cX5_setStuck 10 = .ok (.iload_n 2, 1) := by decide +kernel
theorem dX5_setStuck_11 : decode cX5_setStuck 11 = .ok (.invokevirtual 109, 3) := by decide +kernel
theorem dX5_setStuck_14 : decode cX5_setStuck 14 = .ok (.ireturn, 1) := by decide +kernel
set_option maxRecDepth 20000 in
theorem ggX5_turn_X5_requireValve : GoodIn wsX5_turn wsX5_requireValve := goodIn_ca (goodIn_r _ [8, 9, 10, 3, 11, 12, 13, 14, 15, 16, 31, 32, 33, 34, 35, 36, 37, 38, 39, 40, 41, 42, 43, 44, 45, 46, 47] (by decide +kernel) (by decide +kernel)) (goodIn_sub (fun _ h => List.mem_cons_of_mem _ (List.mem_append_right _ h)) (by decide +kernel))
set_option maxRecDepth 20000 in
theorem gX5_turn_X5_requireValve : GoodIn wsX5_turn (wsV RX5 106 RX5 yX5_requireValve wsX5_requireValve) := goodIn_app (goodIn_of _ (by decide +kernel)) ggX5_turn_X5_requireValve
set_option maxRecDepth 20000 in
theorem ggX5_turn_X2_isStuck : GoodIn wsX5_turn wsX2_isStuck := goodIn_r _ [20, 21, 22, 7, 23, 36, 37, 38, 39, 40, 41, 42, 43, 44, 45, 46, 47] (by decide +kernel) (by decide +kernel)
set_option maxRecDepth 20000 in
theorem gX5_turn_X2_isStuck : GoodIn wsX5_turn (wsV RX5 112 RX2 yX2_isStuck wsX2_isStuck) := goodIn_app (goodIn_of _ (by decide +kernel)) ggX5_turn_X2_isStuck
set_option maxRecDepth 20000 in
theorem ggX5_turn_X2_markShut : GoodIn wsX5_turn wsX2_markShut := goodIn_r _ [27, 28, 22, 7, 23, 29, 30, 36, 37, 38, 39, 40, 41, 42, 43, 44, 45, 46, 47] (by decide +kernel) (by decide +kernel)
set_option maxRecDepth 20000 in
theorem gX5_turn_X2_markShut : GoodIn wsX5_turn (wsV RX5 118 RX2 yX2_markShut wsX2_markShut) := goodIn_app (goodIn_of _ (by decide +kernel)) ggX5_turn_X2_markShut
theorem dX5_turn_0 : decode cX5_turn 0 = .ok (.aload_n 0, 1) := by decide +kernel
theorem dX5_turn_1 : decode cX5_turn 1 = .ok (.iload_n 1, 1) := by decide +kernel
theorem dX5_turn_2 : decode cX5_turn 2 = .ok (.invokevirtual 106, 3) := by decide +kernel
theorem dX5_turn_5 : decode cX5_turn 5 = .ok (.aload_n 0, 1) := by decide +kernel
theorem dX5_turn_6 : decode cX5_turn 6 = .ok (.getfield 12, 3) := by decide +kernel
theorem dX5_turn_9 : decode cX5_turn 9 = .ok (.iload_n 1, 1) := by decide +kernel
theorem dX5_turn_10 : decode cX5_turn 10 = .ok (.invokevirtual 112, 3) := by decide +kernel
theorem dX5_turn_13 : decode cX5_turn 13 = .ok (.ifCond .eq 13, 3) := by decide +kernel
theorem dX5_turn_16 : decode cX5_turn 16 = .ok (.new 50, 3) := by decide +kernel
theorem dX5_turn_19 : decode cX5_turn 19 = .ok (.dup, 1) := by decide +kernel
theorem dX5_turn_20 : decode cX5_turn 20 = .ok (.ldc 116, 2) := by decide +kernel
theorem dX5_turn_22 : decode cX5_turn 22 = .ok (.invokespecial 54, 3) := by decide +kernel
theorem dX5_turn_25 : decode cX5_turn 25 = .ok (.athrow, 1) := by decide +kernel
theorem dX5_turn_26 : decode cX5_turn 26 = .ok (.aload_n 0, 1) := by decide +kernel
theorem dX5_turn_27 : decode cX5_turn 27 = .ok (.getfield 12, 3) := by decide +kernel
theorem dX5_turn_30 : decode cX5_turn 30 = .ok (.iload_n 1, 1) := by decide +kernel
theorem dX5_turn_31 : decode cX5_turn 31 = .ok (.iload_n 2, 1) := by decide +kernel
theorem dX5_turn_32 : decode cX5_turn 32 = .ok (.invokevirtual 118, 3) := by decide +kernel
theorem dX5_turn_35 : decode cX5_turn 35 = .ok (.ireturn, 1) := by decide +kernel
set_option maxRecDepth 20000 in
theorem ggX5_nodes_X2_nodeCount : GoodIn wsX5_nodes wsX2_nodeCount := goodIn_r _ [6, 7, 13, 14, 15, 16, 17, 18, 19, 20, 21, 22, 23, 24] (by decide +kernel) (by decide +kernel)
set_option maxRecDepth 20000 in
theorem gX5_nodes_X2_nodeCount : GoodIn wsX5_nodes (wsV RX5 46 RX2 yX2_nodeCount wsX2_nodeCount) := goodIn_app (goodIn_of _ (by decide +kernel)) ggX5_nodes_X2_nodeCount
theorem dX5_nodes_0 : decode cX5_nodes 0 = .ok (.aload_n 0, 1) := by decide +kernel
theorem dX5_nodes_1 : decode cX5_nodes 1 = .ok (.getfield 12, 3) := by decide +kernel
theorem dX5_nodes_4 : decode cX5_nodes 4 = .ok (.invokevirtual 46, 3) := by decide +kernel
theorem dX5_nodes_7 : decode cX5_nodes 7 = .ok (.ireturn, 1) := by decide +kernel
set_option maxRecDepth 20000 in
theorem ggX5_pipes_X2_pipeCount : GoodIn wsX5_pipes wsX2_pipeCount := goodIn_r _ [6, 7, 13, 14, 15, 16, 17, 18, 19, 20, 21, 22, 23, 24] (by decide +kernel) (by decide +kernel)
set_option maxRecDepth 20000 in
theorem gX5_pipes_X2_pipeCount : GoodIn wsX5_pipes (wsV RX5 74 RX2 yX2_pipeCount wsX2_pipeCount) := goodIn_app (goodIn_of _ (by decide +kernel)) ggX5_pipes_X2_pipeCount
theorem dX5_pipes_0 : decode cX5_pipes 0 = .ok (.aload_n 0, 1) := by decide +kernel
theorem dX5_pipes_1 : decode cX5_pipes 1 = .ok (.getfield 12, 3) := by decide +kernel
theorem dX5_pipes_4 : decode cX5_pipes 4 = .ok (.invokevirtual 74, 3) := by decide +kernel
theorem dX5_pipes_7 : decode cX5_pipes 7 = .ok (.ireturn, 1) := by decide +kernel
set_option maxRecDepth 20000 in
theorem ggX5_valves_X2_valveCount : GoodIn wsX5_valves wsX2_valveCount := goodIn_r _ [6, 7, 13, 14, 15, 16, 17, 18, 19, 20, 21, 22, 23, 24] (by decide +kernel) (by decide +kernel)
set_option maxRecDepth 20000 in
theorem gX5_valves_X2_valveCount : GoodIn wsX5_valves (wsV RX5 94 RX2 yX2_valveCount wsX2_valveCount) := goodIn_app (goodIn_of _ (by decide +kernel)) ggX5_valves_X2_valveCount
theorem dX5_valves_0 : decode cX5_valves 0 = .ok (.aload_n 0, 1) := by decide +kernel
theorem dX5_valves_1 : decode cX5_valves 1 = .ok (.getfield 12, 3) := by decide +kernel
theorem dX5_valves_4 : decode cX5_valves 4 = .ok (.invokevirtual 94, 3) := by decide +kernel
theorem dX5_valves_7 : decode cX5_valves 7 = .ok (.ireturn, 1) := by decide +kernel
set_option maxRecDepth 20000 in
theorem ggX5_isNodeDry_X5_requireNode : GoodIn wsX5_isNodeDry wsX5_requireNode := goodIn_ca (goodIn_r _ [5, 6, 7, 8, 9, 10, 11, 12, 13, 14, 35, 36, 37, 38, 39, 40, 41, 42, 43, 44, 45, 46, 47, 48, 49, 50, 51] (by decide +kernel) (by decide +kernel)) (goodIn_sub (fun _ h => List.mem_cons_of_mem _ (List.mem_append_right _ h)) (by decide +kernel))
set_option maxRecDepth 20000 in
theorem gX5_isNodeDry_X5_requireNode : GoodIn wsX5_isNodeDry (wsV RX5 61 RX5 yX5_requireNode wsX5_requireNode) := goodIn_app (goodIn_of _ (by decide +kernel)) ggX5_isNodeDry_X5_requireNode
set_option maxRecDepth 20000 in
theorem ggX5_isNodeDry_X5_isDry : GoodIn wsX5_isNodeDry wsX5_isDry := goodIn_r _ [18, 8, 19, 20, 21, 12, 22, 23, 24, 25, 26, 27, 28, 29, 30, 31, 32, 33, 4, 34, 35, 36, 37, 38, 39, 40, 41, 42, 43, 44, 45, 46, 47, 48, 49, 50, 51] (by decide +kernel) (by decide +kernel)
set_option maxRecDepth 20000 in
theorem gX5_isNodeDry_X5_isDry : GoodIn wsX5_isNodeDry (wsV RX5 121 RX5 yX5_isDry wsX5_isDry) := goodIn_app (goodIn_of _ (by decide +kernel)) ggX5_isNodeDry_X5_isDry
theorem dX5_isNodeDry_0 : decode cX5_isNodeDry 0 = .ok (.aload_n 0, 1) := by decide +kernel
theorem dX5_isNodeDry_1 : decode cX5_isNodeDry 1 = .ok (.iload_n 1, 1) := by decide +kernel
theorem dX5_isNodeDry_2 : decode cX5_isNodeDry 2 = .ok (.invokevirtual 61, 3) := by decide +kernel
theorem dX5_isNodeDry_5 : decode cX5_isNodeDry 5 = .ok (.aload_n 0, 1) := by decide +kernel
theorem dX5_isNodeDry_6 : decode cX5_isNodeDry 6 = .ok (.iload_n 1, 1) := by decide +kernel
theorem dX5_isNodeDry_7 : decode cX5_isNodeDry 7 = .ok (.invokevirtual 121, 3) := by decide +kernel
theorem dX5_isNodeDry_10 : decode cX5_isNodeDry 10 = .ok (.ireturn, 1) := by decide +kernel
set_option maxRecDepth 20000 in
theorem ggX5_isPipeDry_X5_requirePipe : GoodIn wsX5_isPipeDry wsX5_requirePipe := goodIn_ca (goodIn_r _ [5, 6, 7, 8, 9, 10, 11, 12, 13, 14, 37, 38, 39, 40, 41, 42, 43, 44, 45, 46, 47, 48, 49, 50, 51, 52, 53] (by decide +kernel) (by decide +kernel)) (goodIn_sub (fun _ h => List.mem_cons_of_mem _ (List.mem_append_right _ h)) (by decide +kernel))
set_option maxRecDepth 20000 in
theorem gX5_isPipeDry_X5_requirePipe : GoodIn wsX5_isPipeDry (wsV RX5 83 RX5 yX5_requirePipe wsX5_requirePipe) := goodIn_app (goodIn_of _ (by decide +kernel)) ggX5_isPipeDry_X5_requirePipe
set_option maxRecDepth 20000 in
theorem ggX5_isPipeDry_X5_partOfPipe : GoodIn wsX5_isPipeDry wsX5_partOfPipe := goodIn_r _ [17] (by decide +kernel) (by decide +kernel)
set_option maxRecDepth 20000 in
theorem gX5_isPipeDry_X5_partOfPipe : GoodIn wsX5_isPipeDry (va_wsS RX5 124 yX5_partOfPipe wsX5_partOfPipe) := goodIn_app (goodIn_of _ (by decide +kernel)) ggX5_isPipeDry_X5_partOfPipe
set_option maxRecDepth 20000 in
theorem ggX5_isPipeDry_X5_isDry : GoodIn wsX5_isPipeDry wsX5_isDry := goodIn_r _ [21, 8, 22, 23, 24, 12, 25, 26, 27, 28, 29, 30, 31, 14, 32, 33, 34, 35, 4, 36, 37, 38, 39, 40, 41, 42, 43, 44, 45, 46, 47, 48, 49, 50, 51, 52, 53] (by decide +kernel) (by decide +kernel)
set_option maxRecDepth 20000 in
theorem gX5_isPipeDry_X5_isDry : GoodIn wsX5_isPipeDry (wsV RX5 121 RX5 yX5_isDry wsX5_isDry) := goodIn_app (goodIn_of _ (by decide +kernel)) ggX5_isPipeDry_X5_isDry
theorem dX5_isPipeDry_0 : decode cX5_isPipeDry 0 = .ok (.aload_n 0, 1) := by decide +kernel
theorem dX5_isPipeDry_1 : decode cX5_isPipeDry 1 = .ok (.iload_n 1, 1) := by decide +kernel
theorem dX5_isPipeDry_2 : decode cX5_isPipeDry 2 = .ok (.invokevirtual 83, 3) := by decide +kernel
theorem dX5_isPipeDry_5 : decode cX5_isPipeDry 5 = .ok (.aload_n 0, 1) := by decide +kernel
theorem dX5_isPipeDry_6 : decode cX5_isPipeDry 6 = .ok (.iload_n 1, 1) := by decide +kernel
theorem dX5_isPipeDry_7 : decode cX5_isPipeDry 7 = .ok (.invokestatic 124, 3) := by decide +kernel
theorem dX5_isPipeDry_10 : decode cX5_isPipeDry 10 = .ok (.invokevirtual 121, 3) := by decide +kernel
theorem dX5_isPipeDry_13 : decode cX5_isPipeDry 13 = .ok (.ireturn, 1) := by decide +kernel
set_option maxRecDepth 20000 in
theorem ggX5_supplied_X2_wetBehind : GoodIn wsX5_supplied wsX2_wetBehind := goodIn_r _ [6, 7, 8, 9, 10, 11, 5, 12, 13, 14, 15, 31, 32, 33, 34, 35, 36, 37, 38, 39, 40, 41, 42] (by decide +kernel) (by decide +kernel)
set_option maxRecDepth 20000 in
theorem gX5_supplied_X2_wetBehind : GoodIn wsX5_supplied (wsV RX5 128 RX2 yX2_wetBehind wsX2_wetBehind) := goodIn_app (goodIn_of _ (by decide +kernel)) ggX5_supplied_X2_wetBehind
set_option maxRecDepth 20000 in
theorem ggX5_supplied_X2_customersOf : GoodIn wsX5_supplied wsX2_customersOf := goodIn_r _ [19, 13, 20, 21, 22, 23, 24, 25, 31, 32, 33, 34, 35, 36, 37, 38, 39, 40, 41, 42] (by decide +kernel) (by decide +kernel)
set_option maxRecDepth 20000 in
theorem gX5_supplied_X2_customersOf : GoodIn wsX5_supplied (wsV RX5 131 RX2 yX2_customersOf wsX2_customersOf) := goodIn_app (goodIn_of _ (by decide +kernel)) ggX5_supplied_X2_customersOf
theorem dX5_supplied_0 : decode cX5_supplied 0 = .ok (.aload_n 0, 1) := by decide +kernel
theorem dX5_supplied_1 : decode cX5_supplied 1 = .ok (.getfield 12, 3) := by decide +kernel
theorem dX5_supplied_4 : decode cX5_supplied 4 = .ok (.aload_n 0, 1) := by decide +kernel
theorem dX5_supplied_5 : decode cX5_supplied 5 = .ok (.getfield 12, 3) := by decide +kernel
theorem dX5_supplied_8 : decode cX5_supplied 8 = .ok (.iconst 0, 1) := by decide +kernel
theorem dX5_supplied_9 : decode cX5_supplied 9 = .ok (.invokevirtual 128, 3) := by decide +kernel
theorem dX5_supplied_12 : decode cX5_supplied 12 = .ok (.invokevirtual 131, 3) := by decide +kernel
theorem dX5_supplied_15 : decode cX5_supplied 15 = .ok (.ireturn, 1) := by decide +kernel
set_option maxRecDepth 20000 in
theorem ggX5_segments_X3_count : GoodIn wsX5_segments wsX3_count := goodIn_r _ [6, 7, 8, 9, 5, 10, 11, 12, 13, 14, 15, 16, 17, 18, 19, 20, 21, 22, 23, 24, 25, 26, 27, 28, 29, 30, 31, 32, 33, 39, 40, 41, 42, 43, 44, 45, 46, 47, 48, 49, 50, 51, 52] (by decide +kernel) (by decide +kernel)
set_option maxRecDepth 20000 in
theorem gX5_segments_X3_count : GoodIn wsX5_segments (wsV RX5 134 RX3 yX3_count wsX3_count) := goodIn_app (goodIn_of _ (by decide +kernel)) ggX5_segments_X3_count
theorem dX5_segments_0 : decode cX5_segments 0 = .ok (.aload_n 0, 1) := by decide +kernel
theorem dX5_segments_1 : decode cX5_segments 1 = .ok (.getfield 21, 3) := by decide +kernel
theorem dX5_segments_4 : decode cX5_segments 4 = .ok (.invokevirtual 134, 3) := by decide +kernel
theorem dX5_segments_7 : decode cX5_segments 7 = .ok (.ireturn, 1) := by decide +kernel
set_option maxRecDepth 20000 in
theorem ggX5_segmentOfNode_X5_requireNode : GoodIn wsX5_segmentOfNode wsX5_requireNode := goodIn_ca (goodIn_r _ [6, 7, 8, 9, 10, 11, 12, 13, 14, 15, 50, 51, 52, 53, 54, 55, 56, 57, 58, 59, 60, 61, 62, 63, 64, 65, 66] (by decide +kernel) (by decide +kernel)) (goodIn_sub (fun _ h => List.mem_cons_of_mem _ (List.mem_append_right _ h)) (by decide +kernel))
set_option maxRecDepth 20000 in
theorem gX5_segmentOfNode_X5_requireNode : GoodIn wsX5_segmentOfNode (wsV RX5 61 RX5 yX5_requireNode wsX5_requireNode) := goodIn_app (goodIn_of _ (by decide +kernel)) ggX5_segmentOfNode_X5_requireNode
set_option maxRecDepth 20000 in
theorem ggX5_segmentOfNode_X3_numberByWalking : GoodIn wsX5_segmentOfNode wsX3_numberByWalking := goodIn_r _ [20, 21, 22, 23, 19, 24, 25, 26, 27, 28, 13, 29, 30, 31, 32, 33, 34, 35, 36, 37, 38, 39, 40, 41, 42, 43, 44, 45, 15, 46, 5, 47, 48, 49, 67, 68, 55, 56, 57, 58, 59, 60, 61, 62, 63, 64, 65, 66] (by decide +kernel) (by decide +kernel)
set_option maxRecDepth 20000 in
theorem gX5_segmentOfNode_X3_numberByWalking : GoodIn wsX5_segmentOfNode (wsV RX5 137 RX3 yX3_numberByWalking wsX3_numberByWalking) := goodIn_app (goodIn_of _ (by decide +kernel)) ggX5_segmentOfNode_X3_numberByWalking
theorem dX5_segmentOfNode_0 : decode cX5_segmentOfNode 0 = .ok (.aload_n 0, 1) := by decide +kernel
theorem dX5_segmentOfNode_1 : decode cX5_segmentOfNode 1 = .ok (.iload_n 1, 1) := by decide +kernel
theorem dX5_segmentOfNode_2 : decode cX5_segmentOfNode 2 = .ok (.invokevirtual 61, 3) := by decide +kernel
theorem dX5_segmentOfNode_5 : decode cX5_segmentOfNode 5 = .ok (.aload_n 0, 1) := by decide +kernel
theorem dX5_segmentOfNode_6 : decode cX5_segmentOfNode 6 = .ok (.getfield 21, 3) := by decide +kernel
theorem dX5_segmentOfNode_9 : decode cX5_segmentOfNode 9 = .ok (.iload_n 1, 1) := by decide +kernel
theorem dX5_segmentOfNode_10 : decode cX5_segmentOfNode 10 = .ok (.invokevirtual 137, 3) := by decide +kernel
theorem dX5_segmentOfNode_13 : decode cX5_segmentOfNode 13 = .ok (.ireturn, 1) := by decide +kernel
set_option maxRecDepth 20000 in
theorem ggX5_segmentOfPipe_X5_requirePipe : GoodIn wsX5_segmentOfPipe wsX5_requirePipe := goodIn_ca (goodIn_r _ [6, 7, 8, 9, 10, 11, 12, 13, 14, 15, 51, 52, 53, 54, 55, 56, 57, 58, 59, 60, 61, 62, 63, 64, 65, 66, 67] (by decide +kernel) (by decide +kernel)) (goodIn_sub (fun _ h => List.mem_cons_of_mem _ (List.mem_append_right _ h)) (by decide +kernel))
set_option maxRecDepth 20000 in
theorem gX5_segmentOfPipe_X5_requirePipe : GoodIn wsX5_segmentOfPipe (wsV RX5 83 RX5 yX5_requirePipe wsX5_requirePipe) := goodIn_app (goodIn_of _ (by decide +kernel)) ggX5_segmentOfPipe_X5_requirePipe
set_option maxRecDepth 20000 in
theorem ggX5_segmentOfPipe_X5_partOfPipe : GoodIn wsX5_segmentOfPipe wsX5_partOfPipe := goodIn_r _ [18] (by decide +kernel) (by decide +kernel)
set_option maxRecDepth 20000 in
theorem gX5_segmentOfPipe_X5_partOfPipe : GoodIn wsX5_segmentOfPipe (va_wsS RX5 124 yX5_partOfPipe wsX5_partOfPipe) := goodIn_app (goodIn_of _ (by decide +kernel)) ggX5_segmentOfPipe_X5_partOfPipe
set_option maxRecDepth 20000 in
theorem ggX5_segmentOfPipe_X3_numberByWalking : GoodIn wsX5_segmentOfPipe wsX3_numberByWalking := goodIn_r _ [23, 24, 25, 26, 22, 27, 28, 29, 30, 31, 13, 32, 15, 33, 34, 35, 36, 37, 38, 39, 40, 41, 42, 43, 44, 45, 46, 47, 48, 17, 5, 18, 49, 50, 68, 69, 56, 57, 58, 59, 60, 61, 62, 63, 64, 65, 66, 67] (by decide +kernel) (by decide +kernel)
set_option maxRecDepth 20000 in
theorem gX5_segmentOfPipe_X3_numberByWalking : GoodIn wsX5_segmentOfPipe (wsV RX5 137 RX3 yX3_numberByWalking wsX3_numberByWalking) := goodIn_app (goodIn_of _ (by decide +kernel)) ggX5_segmentOfPipe_X3_numberByWalking
theorem dX5_segmentOfPipe_0 : decode cX5_segmentOfPipe 0 = .ok (.aload_n 0, 1) := by decide +kernel
theorem dX5_segmentOfPipe_1 : decode cX5_segmentOfPipe 1 = .ok (.iload_n 1, 1) := by decide +kernel
theorem dX5_segmentOfPipe_2 : decode cX5_segmentOfPipe 2 = .ok (.invokevirtual 83, 3) := by decide +kernel
theorem dX5_segmentOfPipe_5 : decode cX5_segmentOfPipe 5 = .ok (.aload_n 0, 1) := by decide +kernel
theorem dX5_segmentOfPipe_6 : decode cX5_segmentOfPipe 6 = .ok (.getfield 21, 3) := by decide +kernel
theorem dX5_segmentOfPipe_9 : decode cX5_segmentOfPipe 9 = .ok (.iload_n 1, 1) := by decide +kernel
theorem dX5_segmentOfPipe_10 : decode cX5_segmentOfPipe 10 = .ok (.invokestatic 124, 3) := by decide +kernel
theorem dX5_segmentOfPipe_13 : decode cX5_segmentOfPipe 13 = .ok (.invokevirtual 137, 3) := by decide +kernel
theorem dX5_segmentOfPipe_16 : decode cX5_segmentOfPipe 16 = .ok (.ireturn, 1) := by decide +kernel
set_option maxRecDepth 20000 in
theorem ggX5_segmentByMerging_X5_requirePipe : GoodIn wsX5_segmentByMerging wsX5_requirePipe := goodIn_ca (goodIn_r _ [6, 7, 8, 9, 10, 11, 12, 13, 14, 15, 61, 62, 63, 64, 65, 66, 67, 68, 69, 70, 71, 72, 73, 74, 75, 76, 77] (by decide +kernel) (by decide +kernel)) (goodIn_sub (fun _ h => List.mem_cons_of_mem _ (List.mem_append_right _ h)) (by decide +kernel))
set_option maxRecDepth 20000 in
theorem gX5_segmentByMerging_X5_requirePipe : GoodIn wsX5_segmentByMerging (wsV RX5 83 RX5 yX5_requirePipe wsX5_requirePipe) := goodIn_app (goodIn_of _ (by decide +kernel)) ggX5_segmentByMerging_X5_requirePipe
set_option maxRecDepth 20000 in
theorem ggX5_segmentByMerging_X5_partOfPipe : GoodIn wsX5_segmentByMerging wsX5_partOfPipe := goodIn_r _ [18] (by decide +kernel) (by decide +kernel)
set_option maxRecDepth 20000 in
theorem gX5_segmentByMerging_X5_partOfPipe : GoodIn wsX5_segmentByMerging (va_wsS RX5 124 yX5_partOfPipe wsX5_partOfPipe) := goodIn_app (goodIn_of _ (by decide +kernel)) ggX5_segmentByMerging_X5_partOfPipe
set_option maxRecDepth 20000 in
theorem ggX5_segmentByMerging_X3_numberByMerging : GoodIn wsX5_segmentByMerging wsX3_numberByMerging := goodIn_r _ [23, 24, 25, 26, 27, 22, 28, 29, 30, 11, 12, 13, 14, 15, 31, 32, 33, 34, 35, 17, 5, 18, 36, 37, 38, 39, 40, 41, 42, 43, 44, 45, 46, 47, 48, 49, 50, 51, 52, 53, 54, 55, 56, 57, 58, 59, 60, 78, 79, 66, 67, 68, 69, 70, 71, 72, 73, 74, 75, 76, 77] (by decide +kernel) (by decide +kernel)
set_option maxRecDepth 20000 in
theorem gX5_segmentByMerging_X3_numberByMerging : GoodIn wsX5_segmentByMerging (wsV RX5 140 RX3 yX3_numberByMerging wsX3_numberByMerging) := goodIn_app (goodIn_of _ (by decide +kernel)) ggX5_segmentByMerging_X3_numberByMerging
theorem dX5_segmentByMerging_0 : decode cX5_segmentByMerging 0 = .ok (.aload_n 0, 1) := by decide +kernel
theorem dX5_segmentByMerging_1 : decode cX5_segmentByMerging 1 = .ok (.iload_n 1, 1) := by decide +kernel
theorem dX5_segmentByMerging_2 : decode cX5_segmentByMerging 2 = .ok (.invokevirtual 83, 3) := by decide +kernel
theorem dX5_segmentByMerging_5 : decode cX5_segmentByMerging 5 = .ok (.aload_n 0, 1) := by decide +kernel
theorem dX5_segmentByMerging_6 : decode cX5_segmentByMerging 6 = .ok (.getfield 21, 3) := by decide +kernel
theorem dX5_segmentByMerging_9 : decode cX5_segmentByMerging 9 = .ok (.iload_n 1, 1) := by decide +kernel
theorem dX5_segmentByMerging_10 : decode cX5_segmentByMerging 10 = .ok (.invokestatic 124, 3) := by decide +kernel
theorem dX5_segmentByMerging_13 : decode cX5_segmentByMerging 13 = .ok (.invokevirtual 140, 3) := by decide +kernel
theorem dX5_segmentByMerging_16 : decode cX5_segmentByMerging 16 = .ok (.ireturn, 1) := by decide +kernel
set_option maxRecDepth 20000 in
theorem ggX5_ring_X5_requirePipe : GoodIn wsX5_ring wsX5_requirePipe := goodIn_ca (goodIn_r _ [6, 7, 8, 9, 10, 11, 12, 13, 14, 15, 76, 77, 78, 79, 80, 81, 82, 83, 84, 85, 86, 87, 88, 89, 90, 91, 92] (by decide +kernel) (by decide +kernel)) (goodIn_sub (fun _ h => List.mem_cons_of_mem _ (List.mem_append_left _ (List.mem_append_right _ h))) (by decide +kernel))
set_option maxRecDepth 20000 in
theorem gX5_ring_X5_requirePipe : GoodIn wsX5_ring (wsV RX5 83 RX5 yX5_requirePipe wsX5_requirePipe) := goodIn_app (goodIn_of _ (by decide +kernel)) ggX5_ring_X5_requirePipe
set_option maxRecDepth 20000 in
theorem ggX5_ring_X5_regionWithoutSource : GoodIn wsX5_ring wsX5_regionWithoutSource := goodIn_ca (goodIn_r _ [19, 20, 21, 1, 9, 22, 23, 24, 25, 26, 27, 5, 28, 29, 30, 31, 32, 33, 34, 35, 36, 13, 37, 38, 39, 40, 41, 42, 43, 15, 44, 45, 46, 47, 48, 49, 50, 76, 77, 78, 79, 80, 93, 94, 95, 96, 97, 98, 81, 82, 83, 84, 85, 86, 87, 88, 89, 90, 91, 92] (by decide +kernel) (by decide +kernel)) (goodIn_sub (fun _ h => List.mem_cons_of_mem _ (List.mem_append_right _ h)) (by decide +kernel))
set_option maxRecDepth 20000 in
theorem gX5_ring_X5_regionWithoutSource : GoodIn wsX5_ring (wsV RX5 143 RX5 yX5_regionWithoutSource wsX5_regionWithoutSource) := goodIn_app (goodIn_of _ (by decide +kernel)) ggX5_ring_X5_regionWithoutSource
set_option maxRecDepth 20000 in
theorem ggX5_ring_X0_ringOf : GoodIn wsX5_ring wsX0_ringOf := goodIn_r _ [54, 33, 55, 56, 57, 13, 58, 59, 60, 61, 62, 63, 64, 27, 5, 28, 65, 66, 67, 68, 69, 70, 71, 72, 73, 74, 75, 39, 38, 93, 94, 95, 96, 97, 98, 81, 82, 83, 84, 85, 86, 87, 88, 89, 90, 91, 92] (by decide +kernel) (by decide +kernel)
set_option maxRecDepth 20000 in
theorem gX5_ring_X0_ringOf : GoodIn wsX5_ring (wsV RX5 146 RX0 yX0_ringOf wsX0_ringOf) := goodIn_app (goodIn_of _ (by decide +kernel)) ggX5_ring_X0_ringOf
theorem dX5_ring_0 : decode cX5_ring 0 = .ok (.aload_n 0, 1) := by decide +kernel
theorem dX5_ring_1 : decode cX5_ring 1 = .ok (.iload_n 1, 1) := by decide +kernel
theorem dX5_ring_2 : decode cX5_ring 2 = .ok (.invokevirtual 83, 3) := by decide +kernel
theorem dX5_ring_5 : decode cX5_ring 5 = .ok (.aload_n 0, 1) := by decide +kernel
theorem dX5_ring_6 : decode cX5_ring 6 = .ok (.getfield 28, 3) := by decide +kernel
theorem dX5_ring_9 : decode cX5_ring 9 = .ok (.aload_n 0, 1) := by decide +kernel
theorem dX5_ring_10 : decode cX5_ring 10 = .ok (.iload_n 1, 1) := by decide +kernel
theorem dX5_ring_11 : decode cX5_ring 11 = .ok (.invokevirtual 143, 3) := by decide +kernel
theorem dX5_ring_14 : decode cX5_ring 14 = .ok (.invokevirtual 146, 3) := by decide +kernel
theorem dX5_ring_17 : decode cX5_ring 17 = .ok (.ireturn, 1) := by decide +kernel
set_option maxRecDepth 20000 in
theorem ggX5_cutOff_X5_requirePipe : GoodIn wsX5_cutOff wsX5_requirePipe := goodIn_ca (goodIn_r _ [6, 7, 8, 9, 10, 11, 12, 13, 14, 15, 90, 91, 92, 93, 94, 95, 96, 97, 98, 99, 100, 101, 102, 103, 104, 105, 106] (by decide +kernel) (by decide +kernel)) (goodIn_sub (fun _ h => List.mem_cons_of_mem _ (List.mem_append_left _ (List.mem_append_right _ h))) (by decide +kernel))
set_option maxRecDepth 20000 in
theorem gX5_cutOff_X5_requirePipe : GoodIn wsX5_cutOff (wsV RX5 83 RX5 yX5_requirePipe wsX5_requirePipe) := goodIn_app (goodIn_of _ (by decide +kernel)) ggX5_cutOff_X5_requirePipe
set_option maxRecDepth 20000 in
theorem ggX5_cutOff_X5_regionWithoutSource : GoodIn wsX5_cutOff wsX5_regionWithoutSource := goodIn_ca (goodIn_r _ [19, 20, 21, 1, 9, 22, 23, 24, 25, 26, 27, 5, 28, 29, 30, 31, 32, 33, 34, 35, 36, 13, 37, 38, 39, 40, 41, 42, 43, 15, 44, 45, 46, 47, 48, 49, 50, 90, 91, 92, 93, 94, 107, 108, 109, 110, 111, 112, 95, 96, 97, 98, 99, 100, 101, 102, 103, 104, 105, 106] (by decide +kernel) (by decide +kernel)) (goodIn_sub (fun _ h => List.mem_cons_of_mem _ (List.mem_append_right _ h)) (by decide +kernel))
set_option maxRecDepth 20000 in
theorem gX5_cutOff_X5_regionWithoutSource : GoodIn wsX5_cutOff (wsV RX5 143 RX5 yX5_regionWithoutSource wsX5_regionWithoutSource) := goodIn_app (goodIn_of _ (by decide +kernel)) ggX5_cutOff_X5_regionWithoutSource
set_option maxRecDepth 20000 in
theorem ggX5_cutOff_X0_customersLost : GoodIn wsX5_cutOff wsX0_customersLost := goodIn_r _ [54, 33, 55, 56, 57, 13, 58, 50, 39, 59, 41, 42, 43, 15, 44, 45, 60, 61, 62, 25, 63, 64, 65, 66, 67, 68, 69, 70, 71, 72, 73, 27, 5, 28, 74, 75, 76, 77, 78, 79, 80, 81, 82, 83, 84, 38, 85, 86, 87, 88, 89, 107, 108, 109, 110, 111, 112, 95, 96, 97, 98, 99, 100, 101, 102, 103, 104, 105, 106] (by decide +kernel) (by decide +kernel)
set_option maxRecDepth 20000 in
theorem gX5_cutOff_X0_customersLost : GoodIn wsX5_cutOff (wsV RX5 149 RX0 yX0_customersLost wsX0_customersLost) := goodIn_app (goodIn_of _ (by decide +kernel)) ggX5_cutOff_X0_customersLost
theorem dX5_cutOff_0 : decode cX5_cutOff 0 = .ok (.aload_n 0, 1) := by decide +kernel
theorem dX5_cutOff_1 : decode cX5_cutOff 1 = .ok (.iload_n 1, 1) := by decide +kernel
theorem dX5_cutOff_2 : decode cX5_cutOff 2 = .ok (.invokevirtual 83, 3) := by decide +kernel
theorem dX5_cutOff_5 : decode cX5_cutOff 5 = .ok (.aload_n 0, 1) := by decide +kernel
theorem dX5_cutOff_6 : decode cX5_cutOff 6 = .ok (.getfield 28, 3) := by decide +kernel
theorem dX5_cutOff_9 : decode cX5_cutOff 9 = .ok (.aload_n 0, 1) := by decide +kernel
theorem dX5_cutOff_10 : decode cX5_cutOff 10 = .ok (.iload_n 1, 1) := by decide +kernel
theorem dX5_cutOff_11 : decode cX5_cutOff 11 = .ok (.invokevirtual 143, 3) := by decide +kernel
theorem dX5_cutOff_14 : decode cX5_cutOff 14 = .ok (.invokevirtual 149, 3) := by decide +kernel
theorem dX5_cutOff_17 : decode cX5_cutOff 17 = .ok (.ireturn, 1) := by decide +kernel
set_option maxRecDepth 20000 in
theorem ggX5_fewest_X5_requirePipe : GoodIn wsX5_fewest wsX5_requirePipe := goodIn_ca (goodIn_r _ [6, 7, 8, 9, 10, 11, 12, 13, 14, 15, 95, 96, 97, 98, 99, 100, 101, 102, 103, 104, 105, 106, 107, 108, 109, 110, 111] (by decide +kernel) (by decide +kernel)) (goodIn_sub (fun _ h => List.mem_cons_of_mem _ (List.mem_append_right _ h)) (by decide +kernel))
set_option maxRecDepth 20000 in
theorem gX5_fewest_X5_requirePipe : GoodIn wsX5_fewest (wsV RX5 83 RX5 yX5_requirePipe wsX5_requirePipe) := goodIn_app (goodIn_of _ (by decide +kernel)) ggX5_fewest_X5_requirePipe
set_option maxRecDepth 20000 in
theorem ggX5_fewest_X0_countWays : GoodIn wsX5_fewest wsX0_countWays := goodIn_r _ [20, 21, 22, 23, 24, 19, 25, 26, 5, 27, 28, 29, 30, 31, 32, 33, 34, 35, 13, 36, 37, 38, 39, 40, 41, 42, 15, 43, 44, 45, 46, 47, 48, 49, 50, 51, 52, 53, 54, 55, 56, 57, 58, 59, 60, 61, 62, 63, 64, 65, 66, 67, 68, 69, 70, 71, 72, 73, 74, 75, 76, 77, 78, 79, 80, 81, 82, 83, 84, 85, 86, 87, 88, 89, 90, 91, 92, 93, 94, 112, 113, 114, 115, 116, 117, 100, 101, 102, 103, 104, 105, 106, 107, 108, 109, 110, 111] (by decide +kernel) (by decide +kernel)
set_option maxRecDepth 20000 in
theorem gX5_fewest_X0_countWays : GoodIn wsX5_fewest (wsV RX5 152 RX0 yX0_countWays wsX0_countWays) := goodIn_app (goodIn_of _ (by decide +kernel)) ggX5_fewest_X0_countWays
theorem dX5_fewest_0 : decode cX5_fewest 0 = .ok (.aload_n 0, 1) := by decide +kernel
theorem dX5_fewest_1 : decode cX5_fewest 1 = .ok (.iload_n 1, 1) := by decide +kernel
theorem dX5_fewest_2 : decode cX5_fewest 2 = .ok (.invokevirtual 83, 3) := by decide +kernel
theorem dX5_fewest_5 : decode cX5_fewest 5 = .ok (.aload_n 0, 1) := by decide +kernel
theorem dX5_fewest_6 : decode cX5_fewest 6 = .ok (.getfield 28, 3) := by decide +kernel
theorem dX5_fewest_9 : decode cX5_fewest 9 = .ok (.iload_n 1, 1) := by decide +kernel
theorem dX5_fewest_10 : decode cX5_fewest 10 = .ok (.invokevirtual 152, 3) := by decide +kernel
theorem dX5_fewest_13 : decode cX5_fewest 13 = .ok (.ireturn, 1) := by decide +kernel
set_option maxRecDepth 20000 in
theorem ggX5_fewestByTrying_X5_requirePipe : GoodIn wsX5_fewestByTrying wsX5_requirePipe := goodIn_ca (goodIn_r _ [6, 7, 8, 9, 10, 11, 12, 13, 14, 15, 94, 95, 96, 97, 98, 99, 100, 101, 102, 103, 104, 105, 106, 107, 108, 109, 110] (by decide +kernel) (by decide +kernel)) (goodIn_sub (fun _ h => List.mem_cons_of_mem _ (List.mem_append_right _ h)) (by decide +kernel))
set_option maxRecDepth 20000 in
theorem gX5_fewestByTrying_X5_requirePipe : GoodIn wsX5_fewestByTrying (wsV RX5 83 RX5 yX5_requirePipe wsX5_requirePipe) := goodIn_app (goodIn_of _ (by decide +kernel)) ggX5_fewestByTrying_X5_requirePipe
set_option maxRecDepth 20000 in
theorem ggX5_fewestByTrying_X0_trySets : GoodIn wsX5_fewestByTrying wsX0_trySets := goodIn_r _ [20, 21, 22, 23, 24, 19, 25, 26, 5, 27, 28, 29, 30, 31, 32, 33, 34, 13, 35, 36, 37, 38, 39, 40, 41, 15, 42, 43, 44, 45, 46, 47, 48, 49, 50, 51, 52, 53, 54, 55, 56, 57, 58, 59, 60, 61, 62, 63, 64, 65, 66, 67, 68, 69, 70, 71, 72, 73, 74, 75, 76, 77, 78, 79, 80, 81, 82, 83, 84, 85, 86, 87, 88, 89, 90, 91, 92, 93, 111, 112, 113, 114, 115, 116, 99, 100, 101, 102, 103, 104, 105, 106, 107, 108, 109, 110] (by decide +kernel) (by decide +kernel)
set_option maxRecDepth 20000 in
theorem gX5_fewestByTrying_X0_trySets : GoodIn wsX5_fewestByTrying (wsV RX5 155 RX0 yX0_trySets wsX0_trySets) := goodIn_app (goodIn_of _ (by decide +kernel)) ggX5_fewestByTrying_X0_trySets
theorem dX5_fewestByTrying_0 : decode cX5_fewestByTrying 0 = .ok (.aload_n 0, 1) := by decide +kernel
theorem dX5_fewestByTrying_1 : decode cX5_fewestByTrying 1 = .ok (.iload_n 1, 1) := by decide +kernel
theorem dX5_fewestByTrying_2 : decode cX5_fewestByTrying 2 = .ok (.invokevirtual 83, 3) := by decide +kernel
theorem dX5_fewestByTrying_5 : decode cX5_fewestByTrying 5 = .ok (.aload_n 0, 1) := by decide +kernel
theorem dX5_fewestByTrying_6 : decode cX5_fewestByTrying 6 = .ok (.getfield 28, 3) := by decide +kernel
theorem dX5_fewestByTrying_9 : decode cX5_fewestByTrying 9 = .ok (.iload_n 1, 1) := by decide +kernel
theorem dX5_fewestByTrying_10 : decode cX5_fewestByTrying 10 = .ok (.invokevirtual 155, 3) := by decide +kernel
theorem dX5_fewestByTrying_13 : decode cX5_fewestByTrying 13 = .ok (.ireturn, 1) := by decide +kernel
set_option maxRecDepth 20000 in
theorem ggX5_distance_X5_requireNode : GoodIn wsX5_distance wsX5_requireNode := goodIn_ca (goodIn_r _ [6, 7, 8, 9, 10, 11, 12, 13, 14, 15, 69, 70, 71, 72, 73, 74, 75, 76, 77, 78, 79, 80, 81, 82, 83, 84, 85] (by decide +kernel) (by decide +kernel)) (goodIn_sub (fun _ h => List.mem_cons_of_mem _ (List.mem_append_right _ h)) (by decide +kernel))
set_option maxRecDepth 20000 in
theorem gX5_distance_X5_requireNode : GoodIn wsX5_distance (wsV RX5 61 RX5 yX5_requireNode wsX5_requireNode) := goodIn_app (goodIn_of _ (by decide +kernel)) ggX5_distance_X5_requireNode
set_option maxRecDepth 20000 in
theorem ggX5_distance_X1_distanceOf : GoodIn wsX5_distance wsX1_distanceOf := goodIn_r _ [20, 21, 22, 23, 24, 25, 19, 26, 27, 28, 29, 30, 13, 31, 32, 33, 5, 34, 35, 11, 12, 14, 15, 36, 37, 38, 39, 40, 41, 42, 43, 44, 45, 46, 47, 48, 49, 50, 51, 52, 53, 54, 55, 56, 57, 58, 59, 60, 61, 62, 63, 64, 65, 66, 67, 68, 86, 87, 74, 75, 76, 77, 78, 79, 80, 81, 82, 83, 84, 85] (by decide +kernel) (by decide +kernel)
set_option maxRecDepth 20000 in
theorem gX5_distance_X1_distanceOf : GoodIn wsX5_distance (wsV RX5 158 RX1 yX1_distanceOf wsX1_distanceOf) := goodIn_app (goodIn_of _ (by decide +kernel)) ggX5_distance_X1_distanceOf
theorem dX5_distance_0 : decode cX5_distance 0 = .ok (.aload_n 0, 1) := by decide +kernel
theorem dX5_distance_1 : decode cX5_distance 1 = .ok (.iload_n 1, 1) := by decide +kernel
theorem dX5_distance_2 : decode cX5_distance 2 = .ok (.invokevirtual 61, 3) := by decide +kernel
theorem dX5_distance_5 : decode cX5_distance 5 = .ok (.aload_n 0, 1) := by decide +kernel
theorem dX5_distance_6 : decode cX5_distance 6 = .ok (.getfield 35, 3) := by decide +kernel
theorem dX5_distance_9 : decode cX5_distance 9 = .ok (.iload_n 1, 1) := by decide +kernel
theorem dX5_distance_10 : decode cX5_distance 10 = .ok (.invokevirtual 158, 3) := by decide +kernel
theorem dX5_distance_13 : decode cX5_distance 13 = .ok (.ireturn, 1) := by decide +kernel
set_option maxRecDepth 20000 in
theorem ggX5_flushAt_X1_pipeAndEndAt : GoodIn wsX5_flushAt wsX1_pipeAndEndAt := goodIn_r _ [8, 9, 10, 11, 12, 7, 13, 14, 15, 16, 17, 18, 19, 20, 21, 22, 23, 24, 25, 26, 27, 28, 29, 30, 31, 32, 33, 34, 35, 36, 37, 38, 39, 40, 41, 42, 43, 44, 45, 46, 47, 48, 49, 50, 51, 52, 53, 54, 55, 56, 57, 58, 59, 60, 61, 62, 63, 64, 65, 66, 67, 68, 69, 70, 71, 72, 73, 74, 75, 76, 77, 78, 79, 80, 81, 82, 88, 89, 90, 91, 92, 93, 94, 95, 96, 97, 98, 99, 100, 101] (by decide +kernel) (by decide +kernel)
set_option maxRecDepth 20000 in
theorem gX5_flushAt_X1_pipeAndEndAt : GoodIn wsX5_flushAt (wsV RX5 161 RX1 yX1_pipeAndEndAt wsX1_pipeAndEndAt) := goodIn_app (goodIn_of _ (by decide +kernel)) ggX5_flushAt_X1_pipeAndEndAt
theorem dX5_flushAt_0 : decode cX5_flushAt 0 = .ok (.aload_n 0, 1) := by decide +kernel
theorem dX5_flushAt_1 : decode cX5_flushAt 1 = .ok (.getfield 35, 3) := by decide +kernel
theorem dX5_flushAt_4 : decode cX5_flushAt 4 = .ok (.iload_n 1, 1) := by decide +kernel
theorem dX5_flushAt_5 : decode cX5_flushAt 5 = .ok (.invokevirtual 161, 3) := by decide +kernel
theorem dX5_flushAt_8 : decode cX5_flushAt 8 = .ok (.istore_n 2, 1) := by decide +kernel
theorem dX5_flushAt_9 : decode cX5_flushAt 9 = .ok (.iload_n 2, 1) := by decide +kernel
theorem dX5_flushAt_10 : decode cX5_flushAt 10 = .ok (.iconst (-1), 1) := by decide +kernel
theorem dX5_flushAt_11 : decode cX5_flushAt 11 = .ok (.if_icmp .ne 13, 3) := by decide +kernel
theorem dX5_flushAt_14 : decode cX5_flushAt 14 = .ok (.new 164, 3) := by decide +kernel
theorem dX5_flushAt_17 : decode cX5_flushAt 17 = .ok (.dup, 1) := by decide +kernel
theorem dX5_flushAt_18 : decode cX5_flushAt 18 = .ok (.ldc 166, 2) := by decide +kernel
theorem dX5_flushAt_20 : decode cX5_flushAt 20 = .ok (.invokespecial 168, 3) := by decide +kernel
theorem dX5_flushAt_23 : decode cX5_flushAt 23 = .ok (.athrow, 1) := by decide +kernel
theorem dX5_flushAt_24 : decode cX5_flushAt 24 = .ok (.iload_n 2, 1) := by decide +kernel
theorem dX5_flushAt_25 : decode cX5_flushAt 25 = .ok (.ireturn, 1) := by decide +kernel
set_option maxRecDepth 20000 in
theorem ggX5_walk_X5_requireNode : GoodIn wsX5_walk wsX5_requireNode := goodIn_ca (goodIn_r _ [9, 10, 11, 3, 12, 13, 14, 15, 16, 17, 92, 93, 94, 95, 96, 97, 98, 99, 100, 101, 102, 103, 104, 105, 106, 107, 108] (by decide +kernel) (by decide +kernel)) (goodIn_sub (fun _ h => List.mem_cons_of_mem _ (List.mem_append_right _ h)) (by decide +kernel))
set_option maxRecDepth 20000 in
theorem gX5_walk_X5_requireNode : GoodIn wsX5_walk (wsV RX5 61 RX5 yX5_requireNode wsX5_requireNode) := goodIn_app (goodIn_of _ (by decide +kernel)) ggX5_walk_X5_requireNode
set_option maxRecDepth 20000 in
theorem ggX5_walk_X2_valveCount : GoodIn wsX5_walk wsX2_valveCount := goodIn_r _ [21, 22, 97, 98, 99, 100, 101, 102, 103, 104, 105, 106, 107, 108] (by decide +kernel) (by decide +kernel)
set_option maxRecDepth 20000 in
theorem gX5_walk_X2_valveCount : GoodIn wsX5_walk (wsV RX5 94 RX2 yX2_valveCount wsX2_valveCount) := goodIn_app (goodIn_of _ (by decide +kernel)) ggX5_walk_X2_valveCount
set_option maxRecDepth 20000 in
theorem ggX5_walk_J6_bitCount_0f7a4 : GoodIn wsX5_walk wsJ6_bitCount_0f7a4 := goodIn_r _ [26, 27, 28, 29] (by decide +kernel) (by decide +kernel)
set_option maxRecDepth 20000 in
theorem gX5_walk_J6_bitCount_0f7a4 : GoodIn wsX5_walk (va_wsS RX5 171 yJ6_bitCount_0f7a4 wsJ6_bitCount_0f7a4) := goodIn_app (goodIn_of _ (by decide +kernel)) ggX5_walk_J6_bitCount_0f7a4
set_option maxRecDepth 20000 in
theorem ggX5_walk_X4_leastLength : GoodIn wsX5_walk wsX4_leastLength := goodIn_r _ [34, 35, 36, 37, 38, 39, 40, 41, 42, 43, 33, 44, 45, 46, 47, 19, 20, 15, 21, 22, 48, 8, 49, 50, 51, 52, 53, 54, 55, 56, 57, 58, 59, 60, 61, 62, 63, 64, 65, 66, 67, 68, 69, 70, 71, 72, 73, 74, 75, 76, 77, 78, 79, 13, 14, 16, 17, 80, 81, 82, 83, 84, 85, 86, 87, 88, 89, 90, 91, 109, 110, 111, 112, 97, 98, 99, 100, 101, 102, 103, 104, 105, 106, 107, 108] (by decide +kernel) (by decide +kernel)
set_option maxRecDepth 20000 in
theorem gX5_walk_X4_leastLength : GoodIn wsX5_walk (wsV RX5 178 RX4 yX4_leastLength wsX4_leastLength) := goodIn_app (goodIn_of _ (by decide +kernel)) ggX5_walk_X4_leastLength
theorem dX5_walk_0 : decode cX5_walk 0 = .ok (.aload_n 0, 1) := by decide +kernel
theorem dX5_walk_1 : decode cX5_walk 1 = .ok (.iload_n 1, 1) := by decide +kernel
theorem dX5_walk_2 : decode cX5_walk 2 = .ok (.invokevirtual 61, 3) := by decide +kernel
theorem dX5_walk_5 : decode cX5_walk 5 = .ok (.iload_n 2, 1) := by decide +kernel
theorem dX5_walk_6 : decode cX5_walk 6 = .ok (.ifCond .lt 16, 3) := by decide +kernel
theorem dX5_walk_9 : decode cX5_walk 9 = .ok (.iload_n 2, 1) := by decide +kernel
theorem dX5_walk_10 : decode cX5_walk 10 = .ok (.iconst 1, 1) := by decide +kernel
theorem dX5_walk_11 : decode cX5_walk 11 = .ok (.aload_n 0, 1) := by decide +kernel
theorem dX5_walk_12 : decode cX5_walk 12 = .ok (.getfield 12, 3) := by decide +kernel
theorem dX5_walk_15 : decode cX5_walk 15 = .ok (.invokevirtual 94, 3) := by decide +kernel
theorem dX5_walk_18 : decode cX5_walk 18 = .ok (.ishl, 1) := by decide +kernel
theorem dX5_walk_19 : decode cX5_walk 19 = .ok (.if_icmp .lt 13, 3) := by decide +kernel
theorem dX5_walk_22 : decode cX5_walk 22 = .ok (.new 65, 3) := by decide +kernel
theorem dX5_walk_25 : decode cX5_walk 25 = .ok (.dup, 1) := by decide +kernel
theorem dX5_walk_26 : decode cX5_walk 26 = .ok (.ldc 169, 2) := by decide +kernel
theorem dX5_walk_28 : decode cX5_walk 28 = .ok (.invokespecial 69, 3) := by decide +kernel
theorem dX5_walk_31 : decode cX5_walk 31 = .ok (.athrow, 1) := by decide +kernel
theorem dX5_walk_32 : decode cX5_walk 32 = .ok (.iload_n 2, 1) := by decide +kernel
theorem dX5_walk_33 : decode cX5_walk 33 = .ok (.invokestatic 171, 3) := by decide +kernel
theorem dX5_walk_36 : decode cX5_walk 36 = .ok (.bipush 6, 2) := by decide +kernel
theorem dX5_walk_38 : decode cX5_walk 38 = .ok (.if_icmp .le 13, 3) := by decide +kernel
theorem dX5_walk_41 : decode cX5_walk 41 = .ok (.new 65, 3) := by decide +kernel
theorem dX5_walk_44 : decode cX5_walk 44 = .ok (.dup, 1) := by decide +kernel
theorem dX5_walk_45 : decode cX5_walk 45 = .ok (.ldc 176, 2) := by decide +kernel
theorem dX5_walk_47 : decode cX5_walk 47 = .ok (.invokespecial 69, 3) := by decide +kernel
theorem dX5_walk_50 : decode cX5_walk 50 = .ok (.athrow, 1) := by decide +kernel
theorem dX5_walk_51 : decode cX5_walk 51 = .ok (.aload_n 0, 1) := by decide +kernel
theorem dX5_walk_52 : decode cX5_walk 52 = .ok (.getfield 42, 3) := by decide +kernel
theorem dX5_walk_55 : decode cX5_walk 55 = .ok (.iload_n 1, 1) := by decide +kernel
theorem dX5_walk_56 : decode cX5_walk 56 = .ok (.iload_n 2, 1) := by decide +kernel
theorem dX5_walk_57 : decode cX5_walk 57 = .ok (.invokevirtual 178, 3) := by decide +kernel
theorem dX5_walk_60 : decode cX5_walk 60 = .ok (.ireturn, 1) := by decide +kernel
set_option maxRecDepth 20000 in
theorem ggX5_requireNode_X2_nodeCount : GoodIn wsX5_requireNode wsX2_nodeCount := goodIn_r _ [8, 9, 15, 16, 17, 18, 19, 20, 21, 22, 23, 24, 25, 26] (by decide +kernel) (by decide +kernel)
set_option maxRecDepth 20000 in
theorem gX5_requireNode_X2_nodeCount : GoodIn wsX5_requireNode (wsV RX5 46 RX2 yX2_nodeCount wsX2_nodeCount) := goodIn_app (goodIn_of _ (by decide +kernel)) ggX5_requireNode_X2_nodeCount
theorem dX5_requireNode_0 : decode cX5_requireNode 0 = .ok (.iload_n 1, 1) := by decide +kernel
theorem dX5_requireNode_1 : decode cX5_requireNode 1 = .ok (.ifCond .lt 14, 3) := by decide +kernel
theorem dX5_requireNode_4 : decode cX5_requireNode 4 = .ok (.iload_n 1, 1) := by decide +kernel
theorem dX5_requireNode_5 : decode cX5_requireNode 5 = .ok (.aload_n 0, 1) := by decide +kernel
theorem dX5_requireNode_6 : decode cX5_requireNode 6 = .ok (.getfield 12, 3) := by decide +kernel
theorem dX5_requireNode_9 : decode cX5_requireNode 9 = .ok (.invokevirtual 46, 3) := by decide +kernel
theorem dX5_requireNode_12 : decode cX5_requireNode 12 = .ok (.if_icmp .lt 13, 3) := by decide +kernel
theorem dX5_requireNode_15 : decode cX5_requireNode 15 = .ok (.new 164, 3) := by decide +kernel
theorem dX5_requireNode_18 : decode cX5_requireNode 18 = .ok (.dup, 1) := by decide +kernel
theorem dX5_requireNode_19 : decode cX5_requireNode 19 = .ok (.ldc 181, 2) := by decide +kernel
theorem dX5_requireNode_21 : decode cX5_requireNode 21 = .ok (.invokespecial 168, 3) := by decide +kernel
theorem dX5_requireNode_24 : decode cX5_requireNode 24 = .ok (.athrow, 1) := by decide +kernel
theorem dX5_requireNode_25 : decode cX5_requireNode 25 = .ok (.return_, 1) := by decide +kernel
set_option maxRecDepth 20000 in
theorem ggX5_requirePipe_X2_pipeCount : GoodIn wsX5_requirePipe wsX2_pipeCount := goodIn_r _ [8, 9, 15, 16, 17, 18, 19, 20, 21, 22, 23, 24, 25, 26] (by decide +kernel) (by decide +kernel)
set_option maxRecDepth 20000 in
theorem gX5_requirePipe_X2_pipeCount : GoodIn wsX5_requirePipe (wsV RX5 74 RX2 yX2_pipeCount wsX2_pipeCount) := goodIn_app (goodIn_of _ (by decide +kernel)) ggX5_requirePipe_X2_pipeCount
theorem dX5_requirePipe_0 : decode cX5_requirePipe 0 = .ok (.iload_n 1, 1) := by decide +kernel
theorem dX5_requirePipe_1 : decode cX5_requirePipe 1 = .ok (.ifCond .lt 14, 3) := by decide +kernel
theorem dX5_requirePipe_4 : decode cX5_requirePipe 4 = .ok (.iload_n 1, 1) := by decide +kernel
theorem dX5_requirePipe_5 : decode cX5_requirePipe 5 = .ok (.aload_n 0, 1) := by decide +kernel
theorem dX5_requirePipe_6 : decode cX5_requirePipe 6 = .ok (.getfield 12, 3) := by decide +kernel
theorem dX5_requirePipe_9 : decode cX5_requirePipe 9 = .ok (.invokevirtual 74, 3) := by decide +kernel
theorem dX5_requirePipe_12 : decode cX5_requirePipe 12 = .ok (.if_icmp .lt 13, 3) := by decide +kernel
theorem dX5_requirePipe_15 : decode cX5_requirePipe 15 = .ok (.new 164, 3) := by decide +kernel
theorem dX5_requirePipe_18 : decode cX5_requirePipe 18 = .ok (.dup, 1) := by decide +kernel
theorem dX5_requirePipe_19 : decode cX5_requirePipe 19 = .ok (.ldc 183, 2) := by decide +kernel
theorem dX5_requirePipe_21 : decode cX5_requirePipe 21 = .ok (.invokespecial 168, 3) := by decide +kernel
theorem dX5_requirePipe_24 : decode cX5_requirePipe 24 = .ok (.athrow, 1) := by decide +kernel
theorem dX5_requirePipe_25 : decode cX5_requirePipe 25 = .ok (.return_, 1) := by decide +kernel
set_option maxRecDepth 20000 in
theorem ggX5_requireValve_X2_valveCount : GoodIn wsX5_requireValve wsX2_valveCount := goodIn_r _ [8, 9, 15, 16, 17, 18, 19, 20, 21, 22, 23, 24, 25, 26] (by decide +kernel) (by decide +kernel)
set_option maxRecDepth 20000 in
theorem gX5_requireValve_X2_valveCount : GoodIn wsX5_requireValve (wsV RX5 94 RX2 yX2_valveCount wsX2_valveCount) := goodIn_app (goodIn_of _ (by decide +kernel)) ggX5_requireValve_X2_valveCount
theorem dX5_requireValve_0 : decode cX5_requireValve 0 = .ok (.iload_n 1, 1) := by decide +kernel
theorem dX5_requireValve_1 : decode cX5_requireValve 1 = .ok (.ifCond .lt 14, 3) := by decide +kernel
theorem dX5_requireValve_4 : decode cX5_requireValve 4 = .ok (.iload_n 1, 1) := by decide +kernel
theorem dX5_requireValve_5 : decode cX5_requireValve 5 = .ok (.aload_n 0, 1) := by decide +kernel
theorem dX5_requireValve_6 : decode cX5_requireValve 6 = .ok (.getfield 12, 3) := by decide +kernel
theorem dX5_requireValve_9 : decode cX5_requireValve 9 = .ok (.invokevirtual 94, 3) := by decide +kernel
theorem dX5_requireValve_12 : decode cX5_requireValve 12 = .ok (.if_icmp .lt 13, 3) := by decide +kernel
theorem dX5_requireValve_15 : decode cX5_requireValve 15 = .ok (.new 164, 3) := by decide +kernel
theorem dX5_requireValve_18 : decode cX5_requireValve 18 = .ok (.dup, 1) := by decide +kernel
theorem dX5_requireValve_19 : decode cX5_requireValve 19 = .ok (.ldc 185, 2) := by decide +kernel
theorem dX5_requireValve_21 : decode cX5_requireValve 21 = .ok (.invokespecial 168, 3) := by decide +kernel
theorem dX5_requireValve_24 : decode cX5_requireValve 24 = .ok (.athrow, 1) := by decide +kernel
theorem dX5_requireValve_25 : decode cX5_requireValve 25 = .ok (.return_, 1) := by decide +kernel
set_option maxRecDepth 20000 in
theorem ggX5_isDry_X2_wetBehind : GoodIn wsX5_isDry wsX2_wetBehind := goodIn_r _ [6, 7, 8, 9, 10, 11, 5, 12, 13, 14, 15, 25, 26, 27, 28, 29, 30, 31, 32, 33, 34, 35, 36] (by decide +kernel) (by decide +kernel)
set_option maxRecDepth 20000 in
theorem gX5_isDry_X2_wetBehind : GoodIn wsX5_isDry (wsV RX5 128 RX2 yX2_wetBehind wsX2_wetBehind) := goodIn_app (goodIn_of _ (by decide +kernel)) ggX5_isDry_X2_wetBehind
set_option maxRecDepth 20000 in
theorem ggX5_isDry_X5_hasBit : GoodIn wsX5_isDry wsX5_hasBit := goodIn_r _ [19] (by decide +kernel) (by decide +kernel)
set_option maxRecDepth 20000 in
theorem gX5_isDry_X5_hasBit : GoodIn wsX5_isDry (va_wsS RX5 187 yX5_hasBit wsX5_hasBit) := goodIn_app (goodIn_of _ (by decide +kernel)) ggX5_isDry_X5_hasBit
theorem dX5_isDry_0 : decode cX5_isDry 0 = .ok (.aload_n 0, 1) := by decide +kernel
theorem dX5_isDry_1 : decode cX5_isDry 1 = .ok (.getfield 12, 3) := by decide +kernel
theorem dX5_isDry_4 : decode cX5_isDry 4 = .ok (.iconst 0, 1) := by decide +kernel
theorem dX5_isDry_5 : decode cX5_isDry 5 = .ok (.invokevirtual 128, 3) := by decide +kernel
theorem dX5_isDry_8 : decode cX5_isDry 8 = .ok (.iload_n 1, 1) := by decide +kernel
theorem dX5_isDry_9 : decode cX5_isDry 9 = .ok (.invokestatic 187, 3) := by decide +kernel
theorem dX5_isDry_12 : decode cX5_isDry 12 = .ok (.ifCond .ne 7, 3) := by decide +kernel
theorem dX5_isDry_15 : decode cX5_isDry 15 = .ok (.iconst 1, 1) := by decide +kernel
theorem dX5_isDry_16 : decode cX5_isDry 16 = .ok (.goto 4, 3) := by decide +kernel
theorem dX5_isDry_19 : decode cX5_isDry 19 = .ok (.iconst 0, 1) := by decide +kernel
theorem dX5_isDry_20 : decode cX5_isDry 20 = .ok (.ireturn, 1) := by decide +kernel
set_option maxRecDepth 20000 in
theorem ggX5_regionWithoutSource_X0_regionOf : GoodIn wsX5_regionWithoutSource wsX0_regionOf := goodIn_r _ [9, 10, 11, 12, 13, 14, 15, 8, 16, 17, 18, 19, 20, 21, 22, 23, 24, 25, 26, 27, 28, 29, 30, 31, 42, 43, 44, 45, 46, 47, 48, 49, 50, 51, 52, 53, 54, 55, 56, 57, 58, 59] (by decide +kernel) (by decide +kernel)
set_option maxRecDepth 20000 in
theorem gX5_regionWithoutSource_X0_regionOf : GoodIn wsX5_regionWithoutSource (wsV RX5 191 RX0 yX0_regionOf wsX0_regionOf) := goodIn_app (goodIn_of _ (by decide +kernel)) ggX5_regionWithoutSource_X0_regionOf
set_option maxRecDepth 20000 in
theorem ggX5_regionWithoutSource_X2_sources : GoodIn wsX5_regionWithoutSource wsX2_sources := goodIn_r _ [35, 36, 48, 49, 50, 51, 52, 53, 54, 55, 56, 57, 58, 59] (by decide +kernel) (by decide +kernel)
set_option maxRecDepth 20000 in
theorem gX5_regionWithoutSource_X2_sources : GoodIn wsX5_regionWithoutSource (wsV RX5 194 RX2 yX2_sources wsX2_sources) := goodIn_app (goodIn_of _ (by decide +kernel)) ggX5_regionWithoutSource_X2_sources
theorem dX5_regionWithoutSource_0 : decode cX5_regionWithoutSource 0 = .ok (.aload_n 0, 1) := by decide +kernel
theorem dX5_regionWithoutSource_1 : decode cX5_regionWithoutSource 1 = .ok (.getfield 28, 3) := by decide +kernel
theorem dX5_regionWithoutSource_4 : decode cX5_regionWithoutSource 4 = .ok (.iload_n 1, 1) := by decide +kernel
theorem dX5_regionWithoutSource_5 : decode cX5_regionWithoutSource 5 = .ok (.invokevirtual 191, 3) := by decide +kernel
theorem dX5_regionWithoutSource_8 : decode cX5_regionWithoutSource 8 = .ok (.istore_n 2, 1) := by decide +kernel
theorem dX5_regionWithoutSource_9 : decode cX5_regionWithoutSource 9 = .ok (.iload_n 2, 1) := by decide +kernel
theorem dX5_regionWithoutSource_10 : decode cX5_regionWithoutSource 10 = .ok (.aload_n 0, 1) := by decide +kernel
theorem dX5_regionWithoutSource_11 : decode cX5_regionWithoutSource 11 = .ok (.getfield 12, 3) := by decide +kernel
theorem dX5_regionWithoutSource_14 : decode cX5_regionWithoutSource 14 = .ok (.invokevirtual 194, 3) := by decide +kernel
theorem dX5_regionWithoutSource_17 : decode cX5_regionWithoutSource 17 = .ok (.iand, 1) := by decide +kernel
theorem dX5_regionWithoutSource_18 : decode cX5_regionWithoutSource 18 = .ok (.ifCond .eq 13, 3) := by decide +kernel
theorem dX5_regionWithoutSource_21 : decode cX5_regionWithoutSource 21 = .ok (.new 50, 3) := by decide +kernel
theorem dX5_regionWithoutSource_24 : decode cX5_regionWithoutSource 24 = .ok (.dup, 1) := by decide +kernel
theorem dX5_regionWithoutSource_25 : decode cX5_regionWithoutSource 25 = .ok (.ldc 197, 2) := by decide +kernel
theorem dX5_regionWithoutSource_27 : decode cX5_regionWithoutSource 27 = .ok (.invokespecial 54, 3) := by decide +kernel
theorem dX5_regionWithoutSource_30 : decode cX5_regionWithoutSource 30 = .ok (.athrow, 1) := by decide +kernel
theorem dX5_regionWithoutSource_31 : decode cX5_regionWithoutSource 31 = .ok (.iload_n 2, 1) := by decide +kernel
theorem dX5_regionWithoutSource_32 : decode cX5_regionWithoutSource 32 = .ok (.ireturn, 1) := by decide +kernel
theorem dX5_partOfPipe_0 : decode cX5_partOfPipe 0 = .ok (.bipush 12, 2) := by decide +kernel
theorem dX5_partOfPipe_2 : decode cX5_partOfPipe 2 = .ok (.iload_n 0, 1) := by decide +kernel
theorem dX5_partOfPipe_3 : decode cX5_partOfPipe 3 = .ok (.iadd, 1) := by decide +kernel
theorem dX5_partOfPipe_4 : decode cX5_partOfPipe 4 = .ok (.ireturn, 1) := by decide +kernel
theorem dX5_hasBit_0 : decode cX5_hasBit 0 = .ok (.iload_n 0, 1) := by decide +kernel
theorem dX5_hasBit_1 : decode cX5_hasBit 1 = .ok (.iload_n 1, 1) := by decide +kernel
theorem dX5_hasBit_2 : decode cX5_hasBit 2 = .ok (.ishr, 1) := by decide +kernel
theorem dX5_hasBit_3 : decode cX5_hasBit 3 = .ok (.iconst 1, 1) := by decide +kernel
theorem dX5_hasBit_4 : decode cX5_hasBit 4 = .ok (.iand, 1) := by decide +kernel
theorem dX5_hasBit_5 : decode cX5_hasBit 5 = .ok (.ifCond .eq 7, 3) := by decide +kernel
theorem dX5_hasBit_8 : decode cX5_hasBit 8 = .ok (.iconst 1, 1) := by decide +kernel
theorem dX5_hasBit_9 : decode cX5_hasBit 9 = .ok (.goto 4, 3) := by decide +kernel
theorem dX5_hasBit_12 : decode cX5_hasBit 12 = .ok (.iconst 0, 1) := by decide +kernel
theorem dX5_hasBit_13 : decode cX5_hasBit 13 = .ok (.ireturn, 1) := by decide +kernel
theorem dX5_withBit_0 : decode cX5_withBit 0 = .ok (.iload_n 2, 1) := by decide +kernel
theorem dX5_withBit_1 : decode cX5_withBit 1 = .ok (.ifCond .eq 11, 3) := by decide +kernel
theorem dX5_withBit_4 : decode cX5_withBit 4 = .ok (.iload_n 0, 1) := by decide +kernel
theorem dX5_withBit_5 : decode cX5_withBit 5 = .ok (.iconst 1, 1) := by decide +kernel
theorem dX5_withBit_6 : decode cX5_withBit 6 = .ok (.iload_n 1, 1) := by decide +kernel
theorem dX5_withBit_7 : decode cX5_withBit 7 = .ok (.ishl, 1) := by decide +kernel
theorem dX5_withBit_8 : decode cX5_withBit 8 = .ok (.ior, 1) := by decide +kernel
theorem dX5_withBit_9 : decode cX5_withBit 9 = .ok (.goto 10, 3) := by decide +kernel
theorem dX5_withBit_12 : decode cX5_withBit 12 = .ok (.iload_n 0, 1) := by decide +kernel
theorem dX5_withBit_13 : decode cX5_withBit 13 = .ok (.iconst 1, 1) := by decide +kernel
theorem dX5_withBit_14 : decode cX5_withBit 14 = .ok (.iload_n 1, 1) := by decide +kernel
theorem dX5_withBit_15 : decode cX5_withBit 15 = .ok (.ishl, 1) := by decide +kernel
theorem dX5_withBit_16 : decode cX5_withBit 16 = .ok (.iconst (-1), 1) := by decide +kernel
theorem dX5_withBit_17 : decode cX5_withBit 17 = .ok (.ixor, 1) := by decide +kernel
theorem dX5_withBit_18 : decode cX5_withBit 18 = .ok (.iand, 1) := by decide +kernel
theorem dX5_withBit_19 : decode cX5_withBit 19 = .ok (.ireturn, 1) := by decide +kernel
