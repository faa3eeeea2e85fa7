theorem dX6_init_0 : decode cX6_init 0 = .ok (.aload_n 0, 1) := by decide +kernel
theorem dX6_init_1 : decode cX6_init 1 = .ok (.invokespecial 1, 3) := by decide +kernel
theorem dX6_init_4 : decode cX6_init 4 = .ok (.aload_n 0, 1) := by decide +kernel
theorem dX6_init_5 : decode cX6_init 5 = .ok (.bipush 32, 2) := by decide +kernel
theorem dX6_init_7 : decode cX6_init 7 = .ok (.newarray .int, 2) := by decide +kernel
theorem dX6_init_9 : decode cX6_init 9 = .ok (.putfield 7, 3) := by decide +kernel
theorem dX6_init_12 : decode cX6_init 12 = .ok (.aload_n 0, 1) := by decide +kernel
theorem dX6_init_13 : decode cX6_init 13 = .ok (.bipush 32, 2) := by decide +kernel
theorem dX6_init_15 : decode cX6_init 15 = .ok (.newarray .int, 2) := by decide +kernel
theorem dX6_init_17 : decode cX6_init 17 = .ok (.putfield 13, 3) := by decide +kernel
theorem dX6_init_20 : decode cX6_init 20 = .ok (.aload_n 0, 1) := by decide +kernel
theorem dX6_init_21 : decode cX6_init 21 = .ok (.bipush 16, 2) := by decide +kernel
theorem dX6_init_23 : decode cX6_init 23 = .ok (.newarray .int, 2) := by decide +kernel
theorem dX6_init_25 : decode cX6_init 25 = .ok (.putfield 16, 3) := by decide +kernel
theorem dX6_init_28 : decode cX6_init 28 = .ok (.aload_n 0, 1) := by decide +kernel
theorem dX6_init_29 : decode cX6_init 29 = .ok (.bipush 16, 2) := by decide +kernel
theorem dX6_init_31 : decode cX6_init 31 = .ok (.newarray .int, 2) := by decide +kernel
theorem dX6_init_33 : decode cX6_init 33 = .ok (.putfield 19, 3) := by decide +kernel
theorem dX6_init_36 : decode cX6_init 36 = .ok (.aload_n 0, 1) := by decide +kernel
theorem dX6_init_37 : decode cX6_init 37 = .ok (.bipush 12, 2) := by decide +kernel
theorem dX6_init_39 : decode cX6_init 39 = .ok (.newarray .int, 2) := by decide +kernel
theorem dX6_init_41 : decode cX6_init 41 = .ok (.putfield 22, 3) := by decide +kernel
theorem dX6_init_44 : decode cX6_init 44 = .ok (.aload_n 0, 1) := by decide +kernel
theorem dX6_init_45 : decode cX6_init 45 = .ok (.bipush 12, 2) := by decide +kernel
theorem dX6_init_47 : decode cX6_init 47 = .ok (.newarray .int, 2) := by decide +kernel
theorem dX6_init_49 : decode cX6_init 49 = .ok (.putfield 25, 3) := by decide +kernel
theorem dX6_init_52 : decode cX6_init 52 = .ok (.aload_n 0, 1) := by decide +kernel
theorem dX6_init_53 : decode cX6_init 53 = .ok (.sipush 144, 3) := by decide +kernel
theorem dX6_init_56 : decode cX6_init 56 = .ok (.newarray .int, 2) := by decide +kernel
theorem dX6_init_58 : decode cX6_init 58 = .ok (.putfield 28, 3) := by decide +kernel
theorem dX6_init_61 : decode cX6_init 61 = .ok (.aload_n 0, 1) := by decide +kernel
theorem dX6_init_62 : decode cX6_init 62 = .ok (.bipush 6, 2) := by decide +kernel
theorem dX6_init_64 : decode cX6_init 64 = .ok (.newarray .int, 2) := by decide +kernel
theorem dX6_init_66 : decode cX6_init 66 = .ok (.putfield 31, 3) := by decide +kernel
theorem dX6_init_69 : decode cX6_init 69 = .ok (.aload_n 0, 1) := by decide +kernel
theorem dX6_init_70 : decode cX6_init 70 = .ok (.bipush 16, 2) := by decide +kernel
theorem dX6_init_72 : decode cX6_init 72 = .ok (.newarray .int, 2) := by decide +kernel
theorem dX6_init_74 : decode cX6_init 74 = .ok (.putfield 34, 3) := by decide +kernel
theorem dX6_init_77 : decode cX6_init 77 = .ok (.return_, 1) := by decide +kernel
theorem dX6_thrown_0 : decode cX6_thrown 0 = .ok (.aload_n 0, 1) := by decide +kernel
theorem dX6_thrown_1 : decode cX6_thrown 1 = .ok (.getfield 37, 3) := by decide +kernel
theorem dX6_thrown_4 : decode cX6_thrown 4 = .ok (.ireturn, 1) := by decide +kernel
theorem dX6_refused_0 : decode cX6_refused 0 = .ok (.aload_n 0, 1) := by decide +kernel
theorem dX6_refused_1 : decode cX6_refused 1 = .ok (.iload_n 1, 1) := by decide +kernel
theorem dX6_refused_2 : decode cX6_refused 2 = .ok (.putfield 37, 3) := by decide +kernel
theorem dX6_refused_5 : decode cX6_refused 5 = .ok (.iload_n 1, 1) := by decide +kernel
theorem dX6_refused_6 : decode cX6_refused 6 = .ok (.ifCond .eq 7, 3) := by decide +kernel
theorem dX6_refused_9 : decode cX6_refused 9 = .ok (.iconst 1, 1) := by decide +kernel
theorem dX6_refused_10 : decode cX6_refused 10 = .ok (.goto 4, 3) := by decide +kernel
theorem dX6_refused_13 : decode cX6_refused 13 = .ok (.iconst 0, 1) := by decide +kernel
theorem dX6_refused_14 : decode cX6_refused 14 = .ok (.ireturn, 1) := by decide +kernel
theorem dX6_fine_0 : decode cX6_fine 0 = .ok (.aload_n 0, 1) := by decide +kernel
theorem dX6_fine_1 : decode cX6_fine 1 = .ok (.iconst 0, 1) := by decide +kernel
theorem dX6_fine_2 : decode cX6_fine 2 = .ok (.putfield 37, 3) := by decide +kernel
theorem dX6_fine_5 : decode cX6_fine 5 = .ok (.iload_n 1, 1) := by decide +kernel
theorem dX6_fine_6 : decode cX6_fine 6 = .ok (.ireturn, 1) := by decide +kernel
theorem dX6_in_0 : decode cX6_in 0 = .ok (.iload_n 0, 1) := by decide +kernel
theorem dX6_in_1 : decode cX6_in 1 = .ok (.iload_n 1, 1) := by decide +kernel
theorem dX6_in_2 : decode cX6_in 2 = .ok (.if_icmp .lt 12, 3) := by decide +kernel
theorem dX6_in_5 : decode cX6_in 5 = .ok (.iload_n 0, 1) := by decide +kernel
theorem dX6_in_6 : decode cX6_in 6 = .ok (.iload_n 2, 1) := by decide +kernel
theorem dX6_in_7 : decode cX6_in 7 = .ok (.if_icmp .gt 7, 3) := by decide +kernel
theorem dX6_in_10 : decode cX6_in 10 = .ok (.iconst 1, 1) := by decide +kernel
theorem dX6_in_11 : decode cX6_in 11 = .ok (.goto 4, 3) := by decide +kernel
theorem dX6_in_14 : decode cX6_in 14 = .ok (.iconst 0, 1) := by decide +kernel
theorem dX6_in_15 : decode cX6_in 15 = .ok (.ireturn, 1) := by decide +kernel
set_option maxRecDepth 20000 in
theorem ggX6_isNode_X6_in : GoodIn wsX6_isNode wsX6_in := goodIn_r _ [5] (by decide +kernel) (by decide +kernel)
set_option maxRecDepth 20000 in
theorem gX6_isNode_X6_in : GoodIn wsX6_isNode (va_wsS RX6 44 yX6_in wsX6_in) := goodIn_app (goodIn_of _ (by decide +kernel)) ggX6_isNode_X6_in
theorem dX6_isNode_0 : decode cX6_isNode 0 = .ok (.iload_n 1, 1) := by decide +kernel
theorem dX6_isNode_1 : decode cX6_isNode 1 = .ok (.iconst 0, 1) := by decide +kernel
theorem dX6_isNode_2 : decode cX6_isNode 2 = .ok (.aload_n 0, 1) := by decide +kernel
theorem dX6_isNode_3 : decode cX6_isNode 3 = .ok (.getfield 41, 3) := by decide +kernel
theorem dX6_isNode_6 : decode cX6_isNode 6 = .ok (.iconst 1, 1) := by decide +kernel
theorem dX6_isNode_7 : decode cX6_isNode 7 = .ok (.isub, 1) := by decide +kernel
theorem dX6_isNode_8 : decode cX6_isNode 8 = .ok (.invokestatic 44, 3) := by decide +kernel
theorem dX6_isNode_11 : decode cX6_isNode 11 = .ok (.ireturn, 1) := by decide +kernel
set_option maxRecDepth 20000 in
theorem ggX6_isPipe_X6_in : GoodIn wsX6_isPipe wsX6_in := goodIn_r _ [5] (by decide +kernel) (by decide +kernel)
set_option maxRecDepth 20000 in
theorem gX6_isPipe_X6_in : GoodIn wsX6_isPipe (va_wsS RX6 44 yX6_in wsX6_in) := goodIn_app (goodIn_of _ (by decide +kernel)) ggX6_isPipe_X6_in
theorem dX6_isPipe_0 : decode cX6_isPipe 0 = .ok (.iload_n 1, 1) := by decide +kernel
theorem dX6_isPipe_1 : decode cX6_isPipe 1 = .ok (.iconst 0, 1) := by decide +kernel
theorem dX6_isPipe_2 : decode cX6_isPipe 2 = .ok (.aload_n 0, 1) := by decide +kernel
theorem dX6_isPipe_3 : decode cX6_isPipe 3 = .ok (.getfield 48, 3) := by decide +kernel
theorem dX6_isPipe_6 : decode cX6_isPipe 6 = .ok (.iconst 1, 1) := by decide +kernel
theorem dX6_isPipe_7 : decode cX6_isPipe 7 = .ok (.isub, 1) := by decide +kernel
theorem dX6_isPipe_8 : decode cX6_isPipe 8 = .ok (.invokestatic 44, 3) := by decide +kernel
theorem dX6_isPipe_11 : decode cX6_isPipe 11 = .ok (.ireturn, 1) := by decide +kernel
set_option maxRecDepth 20000 in
theorem ggX6_isValve_X6_in : GoodIn wsX6_isValve wsX6_in := goodIn_r _ [5] (by decide +kernel) (by decide +kernel)
set_option maxRecDepth 20000 in
theorem gX6_isValve_X6_in : GoodIn wsX6_isValve (va_wsS RX6 44 yX6_in wsX6_in) := goodIn_app (goodIn_of _ (by decide +kernel)) ggX6_isValve_X6_in
theorem dX6_isValve_0 : decode cX6_isValve 0 = .ok (.iload_n 1, 1) := by decide +kernel
theorem dX6_isValve_1 : decode cX6_isValve 1 = .ok (.iconst 0, 1) := by decide +kernel
theorem dX6_isValve_2 : decode cX6_isValve 2 = .ok (.aload_n 0, 1) := by decide +kernel
theorem dX6_isValve_3 : decode cX6_isValve 3 = .ok (.getfield 51, 3) := by decide +kernel
theorem dX6_isValve_6 : decode cX6_isValve 6 = .ok (.iconst 1, 1) := by decide +kernel
theorem dX6_isValve_7 : decode cX6_isValve 7 = .ok (.isub, 1) := by decide +kernel
theorem dX6_isValve_8 : decode cX6_isValve 8 = .ok (.invokestatic 44, 3) := by decide +kernel
theorem dX6_isValve_11 : decode cX6_isValve 11 = .ok (.ireturn, 1) := by decide +kernel
theorem dX6_bits_0 : decode cX6_bits 0 = .ok (.iconst 0, 1) := by decide +kernel
theorem dX6_bits_1 : decode cX6_bits 1 = .ok (.istore_n 1, 1) := by decide +kernel
theorem dX6_bits_2 : decode cX6_bits 2 = .ok (.iload_n 0, 1) := by decide +kernel
theorem dX6_bits_3 : decode cX6_bits 3 = .ok (.istore_n 2, 1) := by decide +kernel
theorem dX6_bits_4 : decode cX6_bits 4 = .ok (.iload_n 2, 1) := by decide +kernel
theorem dX6_bits_5 : decode cX6_bits 5 = .ok (.ifCond .eq 15, 3) := by decide +kernel
theorem dX6_bits_8 : decode cX6_bits 8 = .ok (.iinc 1 1, 3) := by decide +kernel
theorem dX6_bits_11 : decode cX6_bits 11 = .ok (.iload_n 2, 1) := by decide +kernel
theorem dX6_bits_12 : decode cX6_bits 12 = .ok (.iload_n 2, 1) := by decide +kernel
theorem dX6_bits_13 : decode cX6_bits 13 = .ok (.iconst 1, 1) := by decide +kernel
theorem dX6_bits_14 : decode cX6_bits 14 = .ok (.isub, 1) := by decide +kernel
theorem dX6_bits_15 : decode cX6_bits 15 = .ok (.iand, 1) := by decide +kernel
theorem dX6_bits_16 : decode cX6_bits 16 = .ok (.istore_n 2, 1) := by decide +kernel
theorem dX6_bits_17 : decode cX6_bits 17 = .ok (.goto (-13), 3) := by decide +kernel
theorem dX6_bits_20 : decode cX6_bits 20 = .ok (.iload_n 1, 1) := by decide +kernel
theorem dX6_bits_21 : decode cX6_bits 21 = .ok (.ireturn, 1) := by decide +kernel
set_option maxRecDepth 20000 in
theorem ggX6_addNode_X6_refused : GoodIn wsX6_addNode wsX6_refused := goodIn_r _ [7, 8, 9, 10, 11, 12, 13, 14, 15, 16, 17, 18, 19, 20, 21, 22, 23, 24, 25] (by decide +kernel) (by decide +kernel)
set_option maxRecDepth 20000 in
theorem gX6_addNode_X6_refused : GoodIn wsX6_addNode (wsV RX6 54 RX6 yX6_refused wsX6_refused) := goodIn_app (goodIn_of _ (by decide +kernel)) ggX6_addNode_X6_refused
theorem dX6_addNode_0 : decode cX6_addNode 0 = .ok (.aload_n 0, 1) := by decide +kernel
theorem dX6_addNode_1 : decode cX6_addNode 1 = .ok (.aload_n 0, 1) := by decide +kernel
theorem dX6_addNode_2 : decode cX6_addNode 2 = .ok (.getfield 41, 3) := by decide +kernel
theorem dX6_addNode_5 : decode cX6_addNode 5 = .ok (.bipush 12, 2) := by decide +kernel
theorem dX6_addNode_7 : decode cX6_addNode 7 = .ok (.if_icmp .ne 7, 3) := by decide +kernel
theorem dX6_addNode_10 : decode cX6_addNode 10 = .ok (.iconst 1, 1) := by decide +kernel
theorem dX6_addNode_11 : decode cX6_addNode 11 = .ok (.goto 4, 3) := by decide +kernel
theorem dX6_addNode_14 : decode cX6_addNode 14 = .ok (.iconst 0, 1) := by decide +kernel
theorem dX6_addNode_15 : decode cX6_addNode 15 = .ok (.invokevirtual 54, 3) := by decide +kernel
theorem dX6_addNode_18 : decode cX6_addNode 18 = .ok (.ifCond .eq 5, 3) := by decide +kernel
theorem dX6_addNode_21 : decode cX6_addNode 21 = .ok (.iconst 0, 1) := by decide +kernel
theorem dX6_addNode_22 : decode cX6_addNode 22 = .ok (.ireturn, 1) := by decide +kernel
theorem dX6_addNode_23 : decode cX6_addNode 23 = .ok (.aload_n 0, 1) := by decide +kernel
theorem dX6_addNode_24 : decode cX6_addNode 24 = .ok (.dup, 1) := by decide +kernel
theorem dX6_addNode_25 : decode cX6_addNode 25 = .ok (.getfield 58, 3) := by decide +kernel
theorem dX6_addNode_28 : decode cX6_addNode 28 = .ok (.iload_n 1, 1) := by decide +kernel
theorem dX6_addNode_29 : decode cX6_addNode 29 = .ok (.ifCond .eq 12, 3) := by decide +kernel
theorem dX6_addNode_32 : decode cX6_addNode 32 = .ok (.iconst 1, 1) := by decide +kernel
theorem dX6_addNode_33 : decode cX6_addNode 33 = .ok (.aload_n 0, 1) := by decide +kernel
theorem dX6_addNode_34 : decode cX6_addNode 34 = .ok (.getfield 41, 3) := by decide +kernel
theorem dX6_addNode_37 : decode cX6_addNode 37 = .ok (.ishl, 1) := by decide +kernel
theorem dX6_addNode_38 : decode cX6_addNode 38 = .ok (.goto 4, 3) := by decide +kernel
theorem dX6_addNode_41 : decode cX6_addNode 41 = .ok (.iconst 0, 1) := by decide +kernel
theorem dX6_addNode_42 : decode cX6_addNode 42 = .ok (.ior, 1) := by decide +kernel
theorem dX6_addNode_43 : decode cX6_addNode 43 = .ok (.putfield 58, 3) := by decide +kernel
theorem dX6_addNode_46 : decode cX6_addNode 46 = .ok (.aload_n 0, 1) := by decide +kernel
theorem dX6_addNode_47 : decode cX6_addNode 47 = .ok (.dup, 1) := by decide +kernel
theorem dX6_addNode_48 : decode cX6_addNode 48 = .ok (.getfield 41, 3) := by decide +kernel
theorem dX6_addNode_51 : decode cX6_addNode 51 = .ok (.iconst 1, 1) := by decide +kernel
theorem dX6_addNode_52 : decode cX6_addNode 52 = .ok (.iadd, 1) := by decide +kernel
theorem dX6_addNode_53 : decode cX6_addNode 53 = .ok (.putfield 41, 3) := by decide +kernel
theorem dX6_addNode_56 : decode cX6_addNode 56 = .ok (.aload_n 0, 1) := by decide +kernel
theorem dX6_addNode_57 : decode cX6_addNode 57 = .ok (.getfield 41, 3) := by decide +kernel
theorem dX6_addNode_60 : decode cX6_addNode 60 = .ok (.iconst 1, 1) := by decide +kernel
theorem dX6_addNode_61 : decode cX6_addNode 61 = .ok (.isub, 1) := by decide +kernel
theorem dX6_addNode_62 : decode cX6_addNode 62 = .ok (.ireturn, 1) := by decide +kernel
set_option maxRecDepth 20000 in
theorem ggX6_addPipe_X6_isNode : GoodIn wsX6_addPipe wsX6_isNode := goodIn_r _ [10, 11, 12, 13, 9, 14, 20, 21, 22, 23, 24, 25, 26, 27, 28, 29, 30, 31, 32, 33, 34, 35, 36] (by decide +kernel) (by decide +kernel)
set_option maxRecDepth 20000 in
theorem gX6_addPipe_X6_isNode : GoodIn wsX6_addPipe (wsV RX6 61 RX6 yX6_isNode wsX6_isNode) := goodIn_app (goodIn_of _ (by decide +kernel)) ggX6_addPipe_X6_isNode
set_option maxRecDepth 20000 in
theorem ggX6_addPipe_X6_in : GoodIn wsX6_addPipe wsX6_in := goodIn_r _ [14] (by decide +kernel) (by decide +kernel)
set_option maxRecDepth 20000 in
theorem gX6_addPipe_X6_in : GoodIn wsX6_addPipe (va_wsS RX6 44 yX6_in wsX6_in) := goodIn_app (goodIn_of _ (by decide +kernel)) ggX6_addPipe_X6_in
set_option maxRecDepth 20000 in
theorem ggX6_addPipe_X6_refused : GoodIn wsX6_addPipe wsX6_refused := goodIn_r _ [18, 19, 20, 21, 22, 23, 24, 25, 26, 27, 28, 29, 30, 31, 32, 33, 34, 35, 36] (by decide +kernel) (by decide +kernel)
set_option maxRecDepth 20000 in
theorem gX6_addPipe_X6_refused : GoodIn wsX6_addPipe (wsV RX6 54 RX6 yX6_refused wsX6_refused) := goodIn_app (goodIn_of _ (by decide +kernel)) ggX6_addPipe_X6_refused
theorem dX6_addPipe_0 : decode cX6_addPipe 0 = .ok (.aload_n 0, 1) := by decide +kernel
theorem dX6_addPipe_1 : decode cX6_addPipe 1 = .ok (.iload_n 1, 1) := by decide +kernel
theorem dX6_addPipe_2 : decode cX6_addPipe 2 = .ok (.invokevirtual 61, 3) := by decide +kernel
theorem dX6_addPipe_5 : decode cX6_addPipe 5 = .ok (.ifCond .eq 15, 3) := by decide +kernel
theorem dX6_addPipe_8 : decode cX6_addPipe 8 = .ok (.aload_n 0, 1) := by decide +kernel
theorem dX6_addPipe_9 : decode cX6_addPipe 9 = .ok (.iload_n 2, 1) := by decide +kernel
theorem dX6_addPipe_10 : decode cX6_addPipe 10 = .ok (.invokevirtual 61, 3) := by decide +kernel
theorem dX6_addPipe_13 : decode cX6_addPipe 13 = .ok (.ifCond .eq 7, 3) := by decide +kernel
theorem dX6_addPipe_16 : decode cX6_addPipe 16 = .ok (.iconst 1, 1) := by decide +kernel
theorem dX6_addPipe_17 : decode cX6_addPipe 17 = .ok (.goto 4, 3) := by decide +kernel
theorem dX6_addPipe_20 : decode cX6_addPipe 20 = .ok (.iconst 0, 1) := by decide +kernel
theorem dX6_addPipe_21 : decode cX6_addPipe 21 = .ok (.istore 5, 2) := by decide +kernel
theorem dX6_addPipe_23 : decode cX6_addPipe 23 = .ok (.iload_n 1, 1) := by decide +kernel
theorem dX6_addPipe_24 : decode cX6_addPipe 24 = .ok (.iload_n 2, 1) := by decide +kernel
theorem dX6_addPipe_25 : decode cX6_addPipe 25 = .ok (.if_icmp .eq 28, 3) := by decide +kernel
theorem dX6_addPipe_28 : decode cX6_addPipe 28 = .ok (.iload_n 3, 1) := by decide +kernel
theorem dX6_addPipe_29 : decode cX6_addPipe 29 = .ok (.iconst 1, 1) := by decide +kernel
theorem dX6_addPipe_30 : decode cX6_addPipe 30 = .ok (.bipush 99, 2) := by decide +kernel
theorem dX6_addPipe_32 : decode cX6_addPipe 32 = .ok (.invokestatic 44, 3) := by decide +kernel
theorem dX6_addPipe_35 : decode cX6_addPipe 35 = .ok (.ifCond .eq 18, 3) := by decide +kernel
theorem dX6_addPipe_38 : decode cX6_addPipe 38 = .ok (.iload 4, 2) := by decide +kernel
theorem dX6_addPipe_40 : decode cX6_addPipe 40 = .ok (.iconst 0, 1) := by decide +kernel
theorem dX6_addPipe_41 : decode cX6_addPipe 41 = .ok (.bipush 99, 2) := by decide +kernel
theorem dX6_addPipe_43 : decode cX6_addPipe 43 = .ok (.invokestatic 44, 3) := by decide +kernel
theorem dX6_addPipe_46 : decode cX6_addPipe 46 = .ok (.ifCond .eq 7, 3) := by decide +kernel
theorem dX6_addPipe_49 : decode cX6_addPipe 49 = .ok (.iconst 1, 1) := by decide +kernel
theorem dX6_addPipe_50 : decode cX6_addPipe 50 = .ok (.goto 4, 3) := by decide +kernel
theorem dX6_addPipe_53 : decode cX6_addPipe 53 = .ok (.iconst 0, 1) := by decide +kernel
theorem dX6_addPipe_54 : decode cX6_addPipe 54 = .ok (.istore 6, 2) := by decide +kernel
theorem dX6_addPipe_56 : decode cX6_addPipe 56 = .ok (.aload_n 0, 1) := by decide +kernel
theorem dX6_addPipe_57 : decode cX6_addPipe 57 = .ok (.iload 5, 2) := by decide +kernel
theorem dX6_addPipe_59 : decode cX6_addPipe 59 = .ok (.ifCond .ne 7, 3) := by decide +kernel
theorem dX6_addPipe_62 : decode cX6_addPipe 62 = .ok (.iconst 1, 1) := by decide +kernel
theorem dX6_addPipe_63 : decode cX6_addPipe 63 = .ok (.goto 26, 3) := by decide +kernel
theorem dX6_addPipe_66 : decode cX6_addPipe 66 = .ok (.iload 6, 2) := by decide +kernel
theorem dX6_addPipe_68 : decode cX6_addPipe 68 = .ok (.ifCond .ne 7, 3) := by decide +kernel
theorem dX6_addPipe_71 : decode cX6_addPipe 71 = .ok (.iconst 2, 1) := by decide +kernel
theorem dX6_addPipe_72 : decode cX6_addPipe 72 = .ok (.goto 17, 3) := by decide +kernel
theorem dX6_addPipe_75 : decode cX6_addPipe 75 = .ok (.aload_n 0, 1) := by decide +kernel
theorem dX6_addPipe_76 : decode cX6_addPipe 76 = .ok (.getfield 48, 3) := by decide +kernel
theorem dX6_addPipe_79 : decode cX6_addPipe 79 = .ok (.bipush 16, 2) := by decide +kernel
theorem dX6_addPipe_81 : decode cX6_addPipe 81 = .ok (.if_icmp .ne 7, 3) := by decide +kernel
theorem dX6_addPipe_84 : decode cX6_addPipe 84 = .ok (.iconst 3, 1) := by decide +kernel
theorem dX6_addPipe_85 : decode cX6_addPipe 85 = .ok (.goto 4, 3) := by decide +kernel
theorem dX6_addPipe_88 : decode cX6_addPipe 88 = .ok (.iconst 0, 1) := by decide +kernel
theorem dX6_addPipe_89 : decode cX6_addPipe 89 = .ok (.invokevirtual 54, 3) := by decide +kernel
theorem dX6_addPipe_92 : decode cX6_addPipe 92 = .ok (.ifCond .eq 5, 3) := by decide +kernel
theorem dX6_addPipe_95 : decode cX6_addPipe 95 = .ok (.iconst 0, 1) := by decide +kernel
theorem dX6_addPipe_96 : decode cX6_addPipe 96 = .ok (.ireturn, 1) := by decide +kernel
theorem dX6_addPipe_97 : decode cX6_addPipe 97 = .ok (.aload_n 0, 1) := by decide +kernel
theorem dX6_addPipe_98 : decode cX6_addPipe 98 = .ok (.getfield 7, 3) := by decide +kernel
theorem dX6_addPipe_101 : decode cX6_addPipe 101 = .ok (.iconst 2, 1) := by decide +kernel
theorem dX6_addPipe_102 : decode cX6_addPipe 102 = .ok (.aload_n 0, 1) := by decide +kernel
theorem dX6_addPipe_103 : decode cX6_addPipe 103 = .ok (.getfield 48, 3) := by decide +kernel
theorem dX6_addPipe_106 : decode cX6_addPipe 106 = .ok (.imul, 1) := by decide +kernel
theorem dX6_addPipe_107 : decode cX6_addPipe 107 = .ok (.iload_n 1, 1) := by decide +kernel
theorem dX6_addPipe_108 : decode cX6_addPipe 108 = .ok (.iastore, 1) := by decide +kernel
theorem dX6_addPipe_109 : decode cX6_addPipe 109 = .ok (.aload_n 0, 1) := by decide +kernel
theorem dX6_addPipe_110 : decode cX6_addPipe 110 = .ok (.getfield 7, 3) := by decide +kernel
theorem dX6_addPipe_113 : decode cX6_addPipe 113 = .ok (.iconst 2, 1) := by decide +kernel
theorem dX6_addPipe_114 : decode cX6_addPipe 114 = .ok (.aload_n 0, 1) := by decide +kernel
theorem dX6_addPipe_115 : decode cX6_addPipe 115 = .ok (.getfield 48, 3) := by decide +kernel
theorem dX6_addPipe_118 : decode cX6_addPipe 118 = .ok (.imul, 1) := by decide +kernel
theorem dX6_addPipe_119 : decode cX6_addPipe 119 = .ok (.iconst 1, 1) := by decide +kernel
theorem dX6_addPipe_120 : decode cX6_addPipe 120 = .ok (.iadd, 1) := by decide +kernel
theorem dX6_addPipe_121 : decode cX6_addPipe 121 = .ok (.iload_n 2, 1) := by decide +kernel
theorem dX6_addPipe_122 : decode cX6_addPipe 122 = .ok (.iastore, 1) := by decide +kernel
theorem dX6_addPipe_123 : decode cX6_addPipe 123 = .ok (.aload_n 0, 1) := by decide +kernel
theorem dX6_addPipe_124 : decode cX6_addPipe 124 = .ok (.getfield 13, 3) := by decide +kernel
theorem dX6_addPipe_127 : decode cX6_addPipe 127 = .ok (.iconst 2, 1) := by decide +kernel
theorem dX6_addPipe_128 : decode cX6_addPipe 128 = .ok (.aload_n 0, 1) := by decide +kernel
theorem dX6_addPipe_129 : decode cX6_addPipe 129 = .ok (.getfield 48, 3) := by decide +kernel
theorem dX6_addPipe_132 : decode cX6_addPipe 132 = .ok (.imul, 1) := by decide +kernel
theorem dX6_addPipe_133 : decode cX6_addPipe 133 = .ok (.iconst (-1), 1) := by decide +kernel
theorem dX6_addPipe_134 : decode cX6_addPipe 134 = .ok (.iastore, 1) := by decide +kernel
theorem dX6_addPipe_135 : decode cX6_addPipe 135 = .ok (.aload_n 0, 1) := by decide +kernel
theorem dX6_addPipe_136 : decode cX6_addPipe 136 = .ok (.getfield 13, 3) := by decide +kernel
theorem dX6_addPipe_139 : decode cX6_addPipe 139 = .ok (.iconst 2, 1) := by decide +kernel
theorem dX6_addPipe_140 : decode cX6_addPipe 140 = .ok (.aload_n 0, 1) := by decide +kernel
theorem dX6_addPipe_141 : decode cX6_addPipe 141 = .ok (.getfield 48, 3) := by decide +kernel
theorem dX6_addPipe_144 : decode cX6_addPipe 144 = .ok (.imul, 1) := by decide +kernel
theorem dX6_addPipe_145 : decode cX6_addPipe 145 = .ok (.iconst 1, 1) := by decide +kernel
theorem dX6_addPipe_146 : decode cX6_addPipe 146 = .ok (.iadd, 1) := by decide +kernel
theorem dX6_addPipe_147 : decode cX6_addPipe 147 = .ok (.iconst (-1), 1) := by decide +kernel
theorem dX6_addPipe_148 : decode cX6_addPipe 148 = .ok (.iastore, 1) := by decide +kernel
theorem dX6_addPipe_149 : decode cX6_addPipe 149 = .ok (.aload_n 0, 1) := by decide +kernel
theorem dX6_addPipe_150 : decode cX6_addPipe 150 = .ok (.getfield 16, 3) := by decide +kernel
theorem dX6_addPipe_153 : decode cX6_addPipe 153 = .ok (.aload_n 0, 1) := by decide +kernel
theorem dX6_addPipe_154 : decode cX6_addPipe 154 = .ok (.getfield 48, 3) := by decide +kernel
theorem dX6_addPipe_157 : decode cX6_addPipe 157 = .ok (.iload_n 3, 1) := by decide +kernel
theorem dX6_addPipe_158 : decode cX6_addPipe 158 = .ok (.iastore, 1) := by decide +kernel
theorem dX6_addPipe_159 : decode cX6_addPipe 159 = .ok (.aload_n 0, 1) := by decide +kernel
theorem dX6_addPipe_160 : decode cX6_addPipe 160 = .ok (.getfield 19, 3) := by decide +kernel
theorem dX6_addPipe_163 : decode cX6_addPipe 163 = .ok (.aload_n 0, 1) := by decide +kernel
theorem dX6_addPipe_164 : decode cX6_addPipe 164 = .ok (.getfield 48, 3) := by decide +kernel
theorem dX6_addPipe_167 : decode cX6_addPipe 167 = .ok (.iload 4, 2) := by decide +kernel
theorem dX6_addPipe_169 : decode cX6_addPipe 169 = .ok (.iastore, 1) := by decide +kernel
theorem dX6_addPipe_170 : decode cX6_addPipe 170 = .ok (.aload_n 0, 1) := by decide +kernel
theorem dX6_addPipe_171 : decode cX6_addPipe 171 = .ok (.dup, 1) := by decide +kernel
theorem dX6_addPipe_172 : decode cX6_addPipe 172 = .ok (.getfield 48, 3) := by decide +kernel
theorem dX6_addPipe_175 : decode cX6_addPipe 175 = .ok (.iconst 1, 1) := by decide +kernel
theorem dX6_addPipe_176 : decode cX6_addPipe 176 = .ok (.iadd, 1) := by decide +kernel
theorem dX6_addPipe_177 : decode cX6_addPipe 177 = .ok (.putfield 48, 3) := by decide +kernel
theorem dX6_addPipe_180 : decode cX6_addPipe 180 = .ok (.aload_n 0, 1) := by decide +kernel
theorem dX6_addPipe_181 : decode cX6_addPipe 181 = .ok (.getfield 48, 3) := by decide +kernel
theorem dX6_addPipe_184 : decode cX6_addPipe 184 = .ok (.iconst 1, 1) := by decide +kernel
theorem dX6_addPipe_185 : decode cX6_addPipe 185 = .ok (.isub, 1) := by decide +kernel
theorem dX6_addPipe_186 : decode cX6_addPipe 186 = .ok (.ireturn, 1) := by decide +kernel
set_option maxRecDepth 20000 in
theorem ggX6_addValve_X6_in : GoodIn wsX6_addValve wsX6_in := goodIn_r _ [7] (by decide +kernel) (by decide +kernel)
set_option maxRecDepth 20000 in
theorem gX6_addValve_X6_in : GoodIn wsX6_addValve (va_wsS RX6 44 yX6_in wsX6_in) := goodIn_app (goodIn_of _ (by decide +kernel)) ggX6_addValve_X6_in
set_option maxRecDepth 20000 in
theorem ggX6_addValve_X6_isPipe : GoodIn wsX6_addValve wsX6_isPipe := goodIn_r _ [11, 12, 4, 5, 6, 7, 18, 19, 20, 21, 22, 23, 24, 25, 26, 27, 28, 29, 30, 31, 32, 33, 34] (by decide +kernel) (by decide +kernel)
set_option maxRecDepth 20000 in
theorem gX6_addValve_X6_isPipe : GoodIn wsX6_addValve (wsV RX6 64 RX6 yX6_isPipe wsX6_isPipe) := goodIn_app (goodIn_of _ (by decide +kernel)) ggX6_addValve_X6_isPipe
set_option maxRecDepth 20000 in
theorem ggX6_addValve_X6_refused : GoodIn wsX6_addValve wsX6_refused := goodIn_r _ [16, 17, 18, 19, 20, 21, 22, 23, 24, 25, 26, 27, 28, 29, 30, 31, 32, 33, 34] (by decide +kernel) (by decide +kernel)
set_option maxRecDepth 20000 in
theorem gX6_addValve_X6_refused : GoodIn wsX6_addValve (wsV RX6 54 RX6 yX6_refused wsX6_refused) := goodIn_app (goodIn_of _ (by decide +kernel)) ggX6_addValve_X6_refused
theorem dX6_addValve_0 : decode cX6_addValve 0 = .ok (.iload_n 2, 1) := by decide +kernel
theorem dX6_addValve_1 : decode cX6_addValve 1 = .ok (.iconst 0, 1) := by decide +kernel
theorem dX6_addValve_2 : decode cX6_addValve 2 = .ok (.iconst 1, 1) := by decide +kernel
theorem dX6_addValve_3 : decode cX6_addValve 3 = .ok (.invokestatic 44, 3) := by decide +kernel
theorem dX6_addValve_6 : decode cX6_addValve 6 = .ok (.istore_n 3, 1) := by decide +kernel
theorem dX6_addValve_7 : decode cX6_addValve 7 = .ok (.aload_n 0, 1) := by decide +kernel
theorem dX6_addValve_8 : decode cX6_addValve 8 = .ok (.iload_n 1, 1) := by decide +kernel
theorem dX6_addValve_9 : decode cX6_addValve 9 = .ok (.invokevirtual 64, 3) := by decide +kernel
theorem dX6_addValve_12 : decode cX6_addValve 12 = .ok (.ifCond .eq 34, 3) := by decide +kernel
theorem dX6_addValve_15 : decode cX6_addValve 15 = .ok (.iload_n 3, 1) := by decide +kernel
theorem dX6_addValve_16 : decode cX6_addValve 16 = .ok (.ifCond .eq 30, 3) := by decide +kernel
theorem dX6_addValve_19 : decode cX6_addValve 19 = .ok (.aload_n 0, 1) := by decide +kernel
theorem dX6_addValve_20 : decode cX6_addValve 20 = .ok (.getfield 13, 3) := by decide +kernel
theorem dX6_addValve_23 : decode cX6_addValve 23 = .ok (.iconst 2, 1) := by decide +kernel
theorem dX6_addValve_24 : decode cX6_addValve 24 = .ok (.iload_n 1, 1) := by decide +kernel
theorem dX6_addValve_25 : decode cX6_addValve 25 = .ok (.imul, 1) := by decide +kernel
theorem dX6_addValve_26 : decode cX6_addValve 26 = .ok (.iload_n 2, 1) := by decide +kernel
theorem dX6_addValve_27 : decode cX6_addValve 27 = .ok (.iadd, 1) := by decide +kernel
theorem dX6_addValve_28 : decode cX6_addValve 28 = .ok (.iaload, 1) := by decide +kernel
theorem dX6_addValve_29 : decode cX6_addValve 29 = .ok (.iconst (-1), 1) := by decide +kernel
theorem dX6_addValve_30 : decode cX6_addValve 30 = .ok (.if_icmp .ne 16, 3) := by decide +kernel
theorem dX6_addValve_33 : decode cX6_addValve 33 = .ok (.aload_n 0, 1) := by decide +kernel
theorem dX6_addValve_34 : decode cX6_addValve 34 = .ok (.getfield 51, 3) := by decide +kernel
theorem dX6_addValve_37 : decode cX6_addValve 37 = .ok (.bipush 12, 2) := by decide +kernel
theorem dX6_addValve_39 : decode cX6_addValve 39 = .ok (.if_icmp .ge 7, 3) := by decide +kernel
theorem dX6_addValve_42 : decode cX6_addValve 42 = .ok (.iconst 1, 1) := by decide +kernel
theorem dX6_addValve_43 : decode cX6_addValve 43 = .ok (.goto 4, 3) := by decide +kernel
theorem dX6_addValve_46 : decode cX6_addValve 46 = .ok (.iconst 0, 1) := by decide +kernel
theorem dX6_addValve_47 : decode cX6_addValve 47 = .ok (.istore 4, 2) := by decide +kernel
theorem dX6_addValve_49 : decode cX6_addValve 49 = .ok (.aload_n 0, 1) := by decide +kernel
theorem dX6_addValve_50 : decode cX6_addValve 50 = .ok (.aload_n 0, 1) := by decide +kernel
theorem dX6_addValve_51 : decode cX6_addValve 51 = .ok (.iload_n 1, 1) := by decide +kernel
theorem dX6_addValve_52 : decode cX6_addValve 52 = .ok (.invokevirtual 64, 3) := by decide +kernel
theorem dX6_addValve_55 : decode cX6_addValve 55 = .ok (.ifCond .ne 7, 3) := by decide +kernel
theorem dX6_addValve_58 : decode cX6_addValve 58 = .ok (.iconst 1, 1) := by decide +kernel
theorem dX6_addValve_59 : decode cX6_addValve 59 = .ok (.goto 21, 3) := by decide +kernel
theorem dX6_addValve_62 : decode cX6_addValve 62 = .ok (.iload_n 3, 1) := by decide +kernel
theorem dX6_addValve_63 : decode cX6_addValve 63 = .ok (.ifCond .ne 7, 3) := by decide +kernel
theorem dX6_addValve_66 : decode cX6_addValve 66 = .ok (.iconst 2, 1) := by decide +kernel
theorem dX6_addValve_67 : decode cX6_addValve 67 = .ok (.goto 13, 3) := by decide +kernel
theorem dX6_addValve_70 : decode cX6_addValve 70 = .ok (.iload 4, 2) := by decide +kernel
theorem dX6_addValve_72 : decode cX6_addValve 72 = .ok (.ifCond .eq 7, 3) := by decide +kernel
theorem dX6_addValve_75 : decode cX6_addValve 75 = .ok (.iconst 0, 1) := by decide +kernel
theorem dX6_addValve_76 : decode cX6_addValve 76 = .ok (.goto 4, 3) := by decide +kernel
theorem dX6_addValve_79 : decode cX6_addValve 79 = .ok (.iconst 3, 1) := by decide +kernel
theorem dX6_addValve_80 : decode cX6_addValve 80 = .ok (.invokevirtual 54, 3) := by decide +kernel
theorem dX6_addValve_83 : decode cX6_addValve 83 = .ok (.ifCond .eq 5, 3) := by decide +kernel
theorem dX6_addValve_86 : decode cX6_addValve 86 = .ok (.iconst 0, 1) := by decide +kernel
theorem dX6_addValve_87 : decode cX6_addValve 87 = .ok (.ireturn, 1) := by decide +kernel
theorem dX6_addValve_88 : decode cX6_addValve 88 = .ok (.aload_n 0, 1) := by decide +kernel
theorem dX6_addValve_89 : decode cX6_addValve 89 = .ok (.getfield 13, 3) := by decide +kernel
theorem dX6_addValve_92 : decode cX6_addValve 92 = .ok (.iconst 2, 1) := by decide +kernel
theorem dX6_addValve_93 : decode cX6_addValve 93 = .ok (.iload_n 1, 1) := by decide +kernel
theorem dX6_addValve_94 : decode cX6_addValve 94 = .ok (.imul, 1) := by decide +kernel
theorem dX6_addValve_95 : decode cX6_addValve 95 = .ok (.iload_n 2, 1) := by decide +kernel
theorem dX6_addValve_96 : decode cX6_addValve 96 = .ok (.iadd, 1) := by decide +kernel
theorem dX6_addValve_97 : decode cX6_addValve 97 = .ok (.aload_n 0, 1) := by decide +kernel
theorem dX6_addValve_98 : decode cX6_addValve 98 = .ok (.getfield 51, 3) := by decide +kernel
theorem dX6_addValve_101 : decode cX6_addValve 101 = .ok (.iastore, 1) := by decide +kernel
theorem dX6_addValve_102 : decode cX6_addValve 102 = .ok (.aload_n 0, 1) := by decide +kernel
theorem dX6_addValve_103 : decode cX6_addValve 103 = .ok (.getfield 22, 3) := by decide +kernel
theorem dX6_addValve_106 : decode cX6_addValve 106 = .ok (.aload_n 0, 1) := by decide +kernel
theorem dX6_addValve_107 : decode cX6_addValve 107 = .ok (.getfield 51, 3) := by decide +kernel
theorem dX6_addValve_110 : decode cX6_addValve 110 = .ok (.iconst 2, 1) := by decide +kernel
theorem dX6_addValve_111 : decode cX6_addValve 111 = .ok (.iload_n 1, 1) := by decide +kernel
theorem dX6_addValve_112 : decode cX6_addValve 112 = .ok (.imul, 1) := by decide +kernel
theorem dX6_addValve_113 : decode cX6_addValve 113 = .ok (.iload_n 2, 1) := by decide +kernel
theorem dX6_addValve_114 : decode cX6_addValve 114 = .ok (.iadd, 1) := by decide +kernel
theorem dX6_addValve_115 : decode cX6_addValve 115 = .ok (.iastore, 1) := by decide +kernel
theorem dX6_addValve_116 : decode cX6_addValve 116 = .ok (.aload_n 0, 1) := by decide +kernel
theorem dX6_addValve_117 : decode cX6_addValve 117 = .ok (.dup, 1) := by decide +kernel
theorem dX6_addValve_118 : decode cX6_addValve 118 = .ok (.getfield 51, 3) := by decide +kernel
theorem dX6_addValve_121 : decode cX6_addValve 121 = .ok (.iconst 1, 1) := by decide +kernel
theorem dX6_addValve_122 : decode cX6_addValve 122 = .ok (.iadd, 1) := by decide +kernel
theorem dX6_addValve_123 : decode cX6_addValve 123 = .ok (.putfield 51, 3) := by decide +kernel
theorem dX6_addValve_126 : decode cX6_addValve 126 = .ok (.aload_n 0, 1) := by decide +kernel
theorem dX6_addValve_127 : decode cX6_addValve 127 = .ok (.getfield 51, 3) := by decide +kernel
theorem dX6_addValve_130 : decode cX6_addValve 130 = .ok (.iconst 1, 1) := by decide +kernel
theorem dX6_addValve_131 : decode cX6_addValve 131 = .ok (.isub, 1) := by decide +kernel
theorem dX6_addValve_132 : decode cX6_addValve 132 = .ok (.ireturn, 1) := by decide +kernel
set_option maxRecDepth 20000 in
theorem ggX6_setSource_X6_isNode : GoodIn wsX6_setSource wsX6_isNode := goodIn_r _ [6, 7, 8, 9, 5, 10, 16, 17, 18, 19, 20, 21, 22, 23, 24, 25, 26, 27, 28, 29, 30, 31, 32] (by decide +kernel) (by decide +kernel)
set_option maxRecDepth 20000 in
theorem gX6_setSource_X6_isNode : GoodIn wsX6_setSource (wsV RX6 61 RX6 yX6_isNode wsX6_isNode) := goodIn_app (goodIn_of _ (by decide +kernel)) ggX6_setSource_X6_isNode
set_option maxRecDepth 20000 in
theorem ggX6_setSource_X6_refused : GoodIn wsX6_setSource wsX6_refused := goodIn_r _ [14, 15, 16, 17, 18, 19, 20, 21, 22, 23, 24, 25, 26, 27, 28, 29, 30, 31, 32] (by decide +kernel) (by decide +kernel)
set_option maxRecDepth 20000 in
theorem gX6_setSource_X6_refused : GoodIn wsX6_setSource (wsV RX6 54 RX6 yX6_refused wsX6_refused) := goodIn_app (goodIn_of _ (by decide +kernel)) ggX6_setSource_X6_refused
theorem dX6_setSource_0 : decode cX6_setSource 0 = .ok (.aload_n 0, 1) := by decide +kernel
theorem dX6_setSource_1 : decode cX6_setSource 1 = .ok (.aload_n 0, 1) := by decide +kernel
theorem dX6_setSource_2 : decode cX6_setSource 2 = .ok (.iload_n 1, 1) := by decide +kernel
theorem dX6_setSource_3 : decode cX6_setSource 3 = .ok (.invokevirtual 61, 3) := by decide +kernel
theorem dX6_setSource_6 : decode cX6_setSource 6 = .ok (.ifCond .eq 7, 3) := by decide +kernel
theorem dX6_setSource_9 : decode cX6_setSource 9 = .ok (.iconst 0, 1) := by decide +kernel
theorem dX6_setSource_10 : decode cX6_setSource 10 = .ok (.goto 4, 3) := by decide +kernel
theorem dX6_setSource_13 : decode cX6_setSource 13 = .ok (.iconst 1, 1) := by decide +kernel
theorem dX6_setSource_14 : decode cX6_setSource 14 = .ok (.invokevirtual 54, 3) := by decide +kernel
theorem dX6_setSource_17 : decode cX6_setSource 17 = .ok (.ifCond .eq 5, 3) := by decide +kernel
theorem dX6_setSource_20 : decode cX6_setSource 20 = .ok (.iconst 0, 1) := by decide +kernel
theorem dX6_setSource_21 : decode cX6_setSource 21 = .ok (.ireturn, 1) := by decide +kernel
theorem dX6_setSource_22 : decode cX6_setSource 22 = .ok (.aload_n 0, 1) := by decide +kernel
theorem dX6_setSource_23 : decode cX6_setSource 23 = .ok (.getfield 58, 3) := by decide +kernel
theorem dX6_setSource_26 : decode cX6_setSource 26 = .ok (.iload_n 1, 1) := by decide +kernel
theorem dX6_setSource_27 : decode cX6_setSource 27 = .ok (.ishr, 1) := by decide +kernel
theorem dX6_setSource_28 : decode cX6_setSource 28 = .ok (.iconst 1, 1) := by decide +kernel
theorem dX6_setSource_29 : decode cX6_setSource 29 = .ok (.iand, 1) := by decide +kernel
theorem dX6_setSource_30 : decode cX6_setSource 30 = .ok (.iconst 1, 1) := by decide +kernel
theorem dX6_setSource_31 : decode cX6_setSource 31 = .ok (.if_icmp .ne 7, 3) := by decide +kernel
theorem dX6_setSource_34 : decode cX6_setSource 34 = .ok (.iconst 1, 1) := by decide +kernel
theorem dX6_setSource_35 : decode cX6_setSource 35 = .ok (.goto 4, 3) := by decide +kernel
theorem dX6_setSource_38 : decode cX6_setSource 38 = .ok (.iconst 0, 1) := by decide +kernel
theorem dX6_setSource_39 : decode cX6_setSource 39 = .ok (.istore_n 3, 1) := by decide +kernel
theorem dX6_setSource_40 : decode cX6_setSource 40 = .ok (.aload_n 0, 1) := by decide +kernel
theorem dX6_setSource_41 : decode cX6_setSource 41 = .ok (.iload_n 2, 1) := by decide +kernel
theorem dX6_setSource_42 : decode cX6_setSource 42 = .ok (.ifCond .eq 14, 3) := by decide +kernel
theorem dX6_setSource_45 : decode cX6_setSource 45 = .ok (.aload_n 0, 1) := by decide +kernel
theorem dX6_setSource_46 : decode cX6_setSource 46 = .ok (.getfield 58, 3) := by decide +kernel
theorem dX6_setSource_49 : decode cX6_setSource 49 = .ok (.iconst 1, 1) := by decide +kernel
theorem dX6_setSource_50 : decode cX6_setSource 50 = .ok (.iload_n 1, 1) := by decide +kernel
theorem dX6_setSource_51 : decode cX6_setSource 51 = .ok (.ishl, 1) := by decide +kernel
theorem dX6_setSource_52 : decode cX6_setSource 52 = .ok (.ior, 1) := by decide +kernel
theorem dX6_setSource_53 : decode cX6_setSource 53 = .ok (.goto 13, 3) := by decide +kernel
theorem dX6_setSource_56 : decode cX6_setSource 56 = .ok (.aload_n 0, 1) := by decide +kernel
theorem dX6_setSource_57 : decode cX6_setSource 57 = .ok (.getfield 58, 3) := by decide +kernel
theorem dX6_setSource_60 : decode cX6_setSource 60 = .ok (.iconst 1, 1) := by decide +kernel
theorem dX6_setSource_61 : decode cX6_setSource 61 = .ok (.iload_n 1, 1) := by decide +kernel
theorem dX6_setSource_62 : decode cX6_setSource 62 = .ok (.ishl, 1) := by decide +kernel
theorem dX6_setSource_63 : decode cX6_setSource 63 = .ok (.iconst (-1), 1) := by decide +kernel
theorem dX6_setSource_64 : decode cX6_setSource 64 = .ok (.ixor, 1) := by decide +kernel
theorem dX6_setSource_65 : decode cX6_setSource 65 = .ok (.iand, 1) := by decide +kernel
theorem dX6_setSource_66 : decode cX6_setSource 66 = .ok (.putfield 58, 3) := by decide +kernel
theorem dX6_setSource_69 : decode cX6_setSource 69 = .ok (.iload_n 3, 1) := by decide +kernel
theorem dX6_setSource_70 : decode cX6_setSource 70 = .ok (.ireturn, 1) := by decide +kernel
set_option maxRecDepth 20000 in
theorem ggX6_setStuck_X6_isValve : GoodIn wsX6_setStuck wsX6_isValve := goodIn_r _ [6, 7, 8, 9, 5, 10, 16, 17, 18, 19, 20, 21, 22, 23, 24, 25, 26, 27, 28, 29, 30, 31, 32] (by decide +kernel) (by decide +kernel)
set_option maxRecDepth 20000 in
theorem gX6_setStuck_X6_isValve : GoodIn wsX6_setStuck (wsV RX6 67 RX6 yX6_isValve wsX6_isValve) := goodIn_app (goodIn_of _ (by decide +kernel)) ggX6_setStuck_X6_isValve
set_option maxRecDepth 20000 in
theorem ggX6_setStuck_X6_refused : GoodIn wsX6_setStuck wsX6_refused := goodIn_r _ [14, 15, 16, 17, 18, 19, 20, 21, 22, 23, 24, 25, 26, 27, 28, 29, 30, 31, 32] (by decide +kernel) (by decide +kernel)
set_option maxRecDepth 20000 in
theorem gX6_setStuck_X6_refused : GoodIn wsX6_setStuck (wsV RX6 54 RX6 yX6_refused wsX6_refused) := goodIn_app (goodIn_of _ (by decide +kernel)) ggX6_setStuck_X6_refused
theorem dX6_setStuck_0 : decode cX6_setStuck 0 = .ok (.aload_n 0, 1) := by decide +kernel
theorem dX6_setStuck_1 : decode cX6_setStuck 1 = .ok (.aload_n 0, 1) := by decide +kernel
theorem dX6_setStuck_2 : decode cX6_setStuck 2 = .ok (.iload_n 1, 1) := by decide +kernel
theorem dX6_setStuck_3 : decode cX6_setStuck 3 = .ok (.invokevirtual 67, 3) := by decide +kernel
theorem dX6_setStuck_6 : decode cX6_setStuck 6 = .ok (.ifCond .eq 7, 3) := by decide +kernel
theorem dX6_setStuck_9 : decode cX6_setStuck 9 = .ok (.iconst 0, 1) := by decide +kernel
theorem dX6_setStuck_10 : decode cX6_setStuck 10 = .ok (.goto 4, 3) := by decide +kernel
theorem dX6_setStuck_13 : decode cX6_setStuck 13 = .ok (.iconst 1, 1) := by decide +kernel
theorem dX6_setStuck_14 : decode cX6_setStuck 14 = .ok (.invokevirtual 54, 3) := by decide +kernel
theorem dX6_setStuck_17 : decode cX6_setStuck 17 = .ok (.ifCond .eq 5, 3) := by decide +kernel
theorem dX6_setStuck_20 : decode cX6_setStuck 20 = .ok (.iconst 0, 1) := by decide +kernel
theorem dX6_setStuck_21 : decode cX6_setStuck 21 = .ok (.ireturn, 1) := by decide +kernel
theorem dX6_setStuck_22 : decode cX6_setStuck 22 = .ok (.aload_n 0, 1) := by decide +kernel
theorem dX6_setStuck_23 : decode cX6_setStuck 23 = .ok (.getfield 70, 3) := by decide +kernel
theorem dX6_setStuck_26 : decode cX6_setStuck 26 = .ok (.iload_n 1, 1) := by decide +kernel
theorem dX6_setStuck_27 : decode cX6_setStuck 27 = .ok (.ishr, 1) := by decide +kernel
theorem dX6_setStuck_28 : decode cX6_setStuck 28 = .ok (.iconst 1, 1) := by decide +kernel
theorem dX6_setStuck_29 : decode cX6_setStuck 29 = .ok (.iand, 1) := by decide +kernel
theorem dX6_setStuck_30 : decode cX6_setStuck 30 = .ok (.iconst 1, 1) := by decide +kernel
theorem dX6_setStuck_31 : decode cX6_setStuck 31 = .ok (.if_icmp .ne 7, 3) := by decide +kernel
theorem dX6_setStuck_34 : decode cX6_setStuck 34 = .ok (.iconst 1, 1) := by decide +kernel
theorem dX6_setStuck_35 : decode cX6_setStuck 35 = .ok (.goto 4, 3) := by decide +kernel
theorem dX6_setStuck_38 : decode cX6_setStuck 38 = .ok (.iconst 0, 1) := by decide +kernel
theorem dX6_setStuck_39 : decode cX6_setStuck 39 = .ok (.istore_n 3, 1) := by decide +kernel
theorem dX6_setStuck_40 : decode cX6_setStuck 40 = .ok (.aload_n 0, 1) := by decide +kernel
theorem dX6_setStuck_41 : decode cX6_setStuck 41 = .ok (.iload_n 2, 1) := by decide +kernel
theorem dX6_setStuck_42 : decode cX6_setStuck 42 = .ok (.ifCond .eq 14, 3) := by decide +kernel
theorem dX6_setStuck_45 : decode cX6_setStuck 45 = .ok (.aload_n 0, 1) := by decide +kernel
theorem dX6_setStuck_46 : decode cX6_setStuck 46 = .ok (.getfield 70, 3) := by decide +kernel
theorem dX6_setStuck_49 : decode cX6_setStuck 49 = .ok (.iconst 1, 1) := by decide +kernel
theorem dX6_setStuck_50 : decode cX6_setStuck 50 = .ok (.iload_n 1, 1) := by decide +kernel
theorem dX6_setStuck_51 : decode cX6_setStuck 51 = .ok (.ishl, 1) := by decide +kernel
theorem dX6_setStuck_52 : decode cX6_setStuck 52 = .ok (.ior, 1) := by decide +kernel
theorem dX6_setStuck_53 : decode cX6_setStuck 53 = .ok (.goto 13, 3) := by decide +kernel
theorem dX6_setStuck_56 : decode cX6_setStuck 56 = .ok (.aload_n 0, 1) := by decide +kernel
theorem dX6_setStuck_57 : decode cX6_setStuck 57 = .ok (.getfield 70, 3) := by decide +kernel
theorem dX6_setStuck_60 : decode cX6_setStuck 60 = .ok (.iconst 1, 1) := by decide +kernel
theorem dX6_setStuck_61 : decode cX6_setStuck 61 = .ok (.iload_n 1, 1) := by decide +kernel
theorem dX6_setStuck_62 : decode cX6_setStuck 62 = .ok (.ishl, 1) := by decide +kernel
theorem dX6_setStuck_63 : decode cX6_setStuck 63 = .ok (.iconst (-1), 1) := by decide +kernel
theorem dX6_setStuck_64 : decode cX6_setStuck 64 = .ok (.ixor, 1) := by decide +kernel
theorem dX6_setStuck_65 : decode cX6_setStuck 65 = .ok (.iand, 1) := by decide +kernel
theorem dX6_setStuck_66 : decode cX6_setStuck 66 = .ok (.putfield 70, 3) := by decide +kernel
theorem dX6_setStuck_69 : decode cX6_setStuck 69 = .ok (.iload_n 3, 1) := by decide +kernel
theorem dX6_setStuck_70 : decode cX6_setStuck 70 = .ok (.ireturn, 1) := by decide +kernel
set_option maxRecDepth 20000 in
theorem ggX6_turn_X6_isValve : GoodIn wsX6_turn wsX6_isValve := goodIn_r _ [7, 8, 9, 10, 6, 11, 17, 18, 19, 20, 21, 22, 23, 24, 25, 26, 27, 28, 29, 30, 31, 32, 33] (by decide +kernel) (by decide +kernel)
set_option maxRecDepth 20000 in
theorem gX6_turn_X6_isValve : GoodIn wsX6_turn (wsV RX6 67 RX6 yX6_isValve wsX6_isValve) := goodIn_app (goodIn_of _ (by decide +kernel)) ggX6_turn_X6_isValve
set_option maxRecDepth 20000 in
theorem ggX6_turn_X6_refused : GoodIn wsX6_turn wsX6_refused := goodIn_r _ [15, 16, 17, 18, 19, 20, 21, 22, 23, 24, 25, 26, 27, 28, 29, 30, 31, 32, 33] (by decide +kernel) (by decide +kernel)
set_option maxRecDepth 20000 in
theorem gX6_turn_X6_refused : GoodIn wsX6_turn (wsV RX6 54 RX6 yX6_refused wsX6_refused) := goodIn_app (goodIn_of _ (by decide +kernel)) ggX6_turn_X6_refused
theorem dX6_turn_0 : decode cX6_turn 0 = .ok (.aload_n 0, 1) := by decide +kernel
theorem dX6_turn_1 : decode cX6_turn 1 = .ok (.aload_n 0, 1) := by decide +kernel
theorem dX6_turn_2 : decode cX6_turn 2 = .ok (.iload_n 1, 1) := by decide +kernel
theorem dX6_turn_3 : decode cX6_turn 3 = .ok (.invokevirtual 67, 3) := by decide +kernel
theorem dX6_turn_6 : decode cX6_turn 6 = .ok (.ifCond .ne 7, 3) := by decide +kernel
theorem dX6_turn_9 : decode cX6_turn 9 = .ok (.iconst 1, 1) := by decide +kernel
theorem dX6_turn_10 : decode cX6_turn 10 = .ok (.goto 20, 3) := by decide +kernel
theorem dX6_turn_13 : decode cX6_turn 13 = .ok (.aload_n 0, 1) := by decide +kernel
theorem dX6_turn_14 : decode cX6_turn 14 = .ok (.getfield 70, 3) := by decide +kernel
theorem dX6_turn_17 : decode cX6_turn 17 = .ok (.iload_n 1, 1) := by decide +kernel
theorem dX6_turn_18 : decode cX6_turn 18 = .ok (.ishr, 1) := by decide +kernel
theorem dX6_turn_19 : decode cX6_turn 19 = .ok (.iconst 1, 1) := by decide +kernel
theorem dX6_turn_20 : decode cX6_turn 20 = .ok (.iand, 1) := by decide +kernel
theorem dX6_turn_21 : decode cX6_turn 21 = .ok (.iconst 1, 1) := by decide +kernel
theorem dX6_turn_22 : decode cX6_turn 22 = .ok (.if_icmp .ne 7, 3) := by decide +kernel
theorem dX6_turn_25 : decode cX6_turn 25 = .ok (.iconst 2, 1) := by decide +kernel
theorem dX6_turn_26 : decode cX6_turn 26 = .ok (.goto 4, 3) := by decide +kernel
theorem dX6_turn_29 : decode cX6_turn 29 = .ok (.iconst 0, 1) := by decide +kernel
theorem dX6_turn_30 : decode cX6_turn 30 = .ok (.invokevirtual 54, 3) := by decide +kernel
theorem dX6_turn_33 : decode cX6_turn 33 = .ok (.ifCond .eq 5, 3) := by decide +kernel
theorem dX6_turn_36 : decode cX6_turn 36 = .ok (.iconst 0, 1) := by decide +kernel
theorem dX6_turn_37 : decode cX6_turn 37 = .ok (.ireturn, 1) := by decide +kernel
theorem dX6_turn_38 : decode cX6_turn 38 = .ok (.aload_n 0, 1) := by decide +kernel
theorem dX6_turn_39 : decode cX6_turn 39 = .ok (.getfield 73, 3) := by decide +kernel
theorem dX6_turn_42 : decode cX6_turn 42 = .ok (.iload_n 1, 1) := by decide +kernel
theorem dX6_turn_43 : decode cX6_turn 43 = .ok (.ishr, 1) := by decide +kernel
theorem dX6_turn_44 : decode cX6_turn 44 = .ok (.iconst 1, 1) := by decide +kernel
theorem dX6_turn_45 : decode cX6_turn 45 = .ok (.iand, 1) := by decide +kernel
theorem dX6_turn_46 : decode cX6_turn 46 = .ok (.iconst 1, 1) := by decide +kernel
theorem dX6_turn_47 : decode cX6_turn 47 = .ok (.if_icmp .ne 7, 3) := by decide +kernel
theorem dX6_turn_50 : decode cX6_turn 50 = .ok (.iconst 1, 1) := by decide +kernel
theorem dX6_turn_51 : decode cX6_turn 51 = .ok (.goto 4, 3) := by decide +kernel
theorem dX6_turn_54 : decode cX6_turn 54 = .ok (.iconst 0, 1) := by decide +kernel
theorem dX6_turn_55 : decode cX6_turn 55 = .ok (.istore_n 3, 1) := by decide +kernel
theorem dX6_turn_56 : decode cX6_turn 56 = .ok (.aload_n 0, 1) := by decide +kernel
theorem dX6_turn_57 : decode cX6_turn 57 = .ok (.iload_n 2, 1) := by decide +kernel
theorem dX6_turn_58 : decode cX6_turn 58 = .ok (.ifCond .eq 14, 3) := by decide +kernel
theorem dX6_turn_61 : decode cX6_turn 61 = .ok (.aload_n 0, 1) := by decide +kernel
theorem dX6_turn_62 : decode cX6_turn 62 = .ok (.getfield 73, 3) := by decide +kernel
theorem dX6_turn_65 : decode cX6_turn 65 = .ok (.iconst 1, 1) := by decide +kernel
theorem dX6_turn_66 : decode cX6_turn 66 = .ok (.iload_n 1, 1) := by decide +kernel
theorem dX6_turn_67 : decode cX6_turn 67 = .ok (.ishl, 1) := by decide +kernel
theorem dX6_turn_68 : decode cX6_turn 68 = .ok (.ior, 1) := by decide +kernel
theorem dX6_turn_69 : decode cX6_turn 69 = .ok (.goto 13, 3) := by decide +kernel
theorem dX6_turn_72 : decode cX6_turn 72 = .ok (.aload_n 0, 1) := by decide +kernel
theorem dX6_turn_73 : decode cX6_turn 73 = .ok (.getfield 73, 3) := by decide +kernel
theorem dX6_turn_76 : decode cX6_turn 76 = .ok (.iconst 1, 1) := by decide +kernel
theorem dX6_turn_77 : decode cX6_turn 77 = .ok (.iload_n 1, 1) := by decide +kernel
theorem dX6_turn_78 : decode cX6_turn 78 = .ok (.ishl, 1) := by decide +kernel
theorem dX6_turn_79 : decode cX6_turn 79 = .ok (.iconst (-1), 1) := by decide +kernel
theorem dX6_turn_80 : decode cX6_turn 80 = .ok (.ixor, 1) := by decide +kernel
theorem dX6_turn_81 : decode cX6_turn 81 = .ok (.iand, 1) := by decide +kernel
theorem dX6_turn_82 : decode cX6_turn 82 = .ok (.putfield 73, 3) := by decide +kernel
theorem dX6_turn_85 : decode cX6_turn 85 = .ok (.iload_n 3, 1) := by decide +kernel
theorem dX6_turn_86 : decode cX6_turn 86 = .ok (.ireturn, 1) := by decide +kernel
set_option maxRecDepth 20000 in
theorem ggX6_nodes_X6_fine : GoodIn wsX6_nodes wsX6_fine := goodIn_r _ [6, 7, 8, 9, 10, 11, 12, 13, 14, 15, 16, 17, 18, 19, 20, 21, 22, 23, 24] (by decide +kernel) (by decide +kernel)
set_option maxRecDepth 20000 in
theorem gX6_nodes_X6_fine : GoodIn wsX6_nodes (wsV RX6 76 RX6 yX6_fine wsX6_fine) := goodIn_app (goodIn_of _ (by decide +kernel)) ggX6_nodes_X6_fine
theorem dX6_nodes_0 : decode cX6_nodes 0 = .ok (.aload_n 0, 1) := by decide +kernel
theorem dX6_nodes_1 : decode cX6_nodes 1 = .ok (.aload_n 0, 1) := by decide +kernel
theorem dX6_nodes_2 : decode cX6_nodes 2 = .ok (.getfield 41, 3) := by decide +kernel
theorem dX6_nodes_5 : decode cX6_nodes 5 = .ok (.invokevirtual 76, 3) := by decide +kernel
theorem dX6_nodes_8 : decode cX6_nodes 8 = .ok (.ireturn, 1) := by decide +kernel
set_option maxRecDepth 20000 in
theorem ggX6_pipes_X6_fine : GoodIn wsX6_pipes wsX6_fine := goodIn_r _ [6, 7, 8, 9, 10, 11, 12, 13, 14, 15, 16, 17, 18, 19, 20, 21, 22, 23, 24] (by decide +kernel) (by decide +kernel)
set_option maxRecDepth 20000 in
theorem gX6_pipes_X6_fine : GoodIn wsX6_pipes (wsV RX6 76 RX6 yX6_fine wsX6_fine) := goodIn_app (goodIn_of _ (by decide +kernel)) ggX6_pipes_X6_fine
theorem dX6_pipes_0 : decode cX6_pipes 0 = .ok (.aload_n 0, 1) := by decide +kernel
theorem dX6_pipes_1 : decode cX6_pipes 1 = .ok (.aload_n 0, 1) := by decide +kernel
theorem dX6_pipes_2 : decode cX6_pipes 2 = .ok (.getfield 48, 3) := by decide +kernel
theorem dX6_pipes_5 : decode cX6_pipes 5 = .ok (.invokevirtual 76, 3) := by decide +kernel
theorem dX6_pipes_8 : decode cX6_pipes 8 = .ok (.ireturn, 1) := by decide +kernel
set_option maxRecDepth 20000 in
theorem ggX6_valves_X6_fine : GoodIn wsX6_valves wsX6_fine := goodIn_r _ [6, 7, 8, 9, 10, 11, 12, 13, 14, 15, 16, 17, 18, 19, 20, 21, 22, 23, 24] (by decide +kernel) (by decide +kernel)
set_option maxRecDepth 20000 in
theorem gX6_valves_X6_fine : GoodIn wsX6_valves (wsV RX6 76 RX6 yX6_fine wsX6_fine) := goodIn_app (goodIn_of _ (by decide +kernel)) ggX6_valves_X6_fine
theorem dX6_valves_0 : decode cX6_valves 0 = .ok (.aload_n 0, 1) := by decide +kernel
theorem dX6_valves_1 : decode cX6_valves 1 = .ok (.aload_n 0, 1) := by decide +kernel
theorem dX6_valves_2 : decode cX6_valves 2 = .ok (.getfield 51, 3) := by decide +kernel
theorem dX6_valves_5 : decode cX6_valves 5 = .ok (.invokevirtual 76, 3) := by decide +kernel
theorem dX6_valves_8 : decode cX6_valves 8 = .ok (.ireturn, 1) := by decide +kernel
theorem dX6_isOpen_0 : decode cX6_isOpen 0 = .ok (.aload_n 0, 1) := by decide +kernel
theorem dX6_isOpen_1 : decode cX6_isOpen 1 = .ok (.getfield 13, 3) := by decide +kernel
theorem dX6_isOpen_4 : decode cX6_isOpen 4 = .ok (.iload_n 1, 1) := by decide +kernel
theorem dX6_isOpen_5 : decode cX6_isOpen 5 = .ok (.iaload, 1) := by decide +kernel
theorem dX6_isOpen_6 : decode cX6_isOpen 6 = .ok (.istore 4, 2) := by decide +kernel
theorem dX6_isOpen_8 : decode cX6_isOpen 8 = .ok (.iload 4, 2) := by decide +kernel
theorem dX6_isOpen_10 : decode cX6_isOpen 10 = .ok (.iconst (-1), 1) := by decide +kernel
theorem dX6_isOpen_11 : decode cX6_isOpen 11 = .ok (.if_icmp .ne 5, 3) := by decide +kernel
theorem dX6_isOpen_14 : decode cX6_isOpen 14 = .ok (.iconst 1, 1) := by decide +kernel
theorem dX6_isOpen_15 : decode cX6_isOpen 15 = .ok (.ireturn, 1) := by decide +kernel
theorem dX6_isOpen_16 : decode cX6_isOpen 16 = .ok (.aload_n 0, 1) := by decide +kernel
theorem dX6_isOpen_17 : decode cX6_isOpen 17 = .ok (.getfield 73, 3) := by decide +kernel
theorem dX6_isOpen_20 : decode cX6_isOpen 20 = .ok (.iload_n 3, 1) := by decide +kernel
theorem dX6_isOpen_21 : decode cX6_isOpen 21 = .ok (.ior, 1) := by decide +kernel
theorem dX6_isOpen_22 : decode cX6_isOpen 22 = .ok (.iload 4, 2) := by decide +kernel
theorem dX6_isOpen_24 : decode cX6_isOpen 24 = .ok (.ishr, 1) := by decide +kernel
theorem dX6_isOpen_25 : decode cX6_isOpen 25 = .ok (.iconst 1, 1) := by decide +kernel
theorem dX6_isOpen_26 : decode cX6_isOpen 26 = .ok (.iand, 1) := by decide +kernel
theorem dX6_isOpen_27 : decode cX6_isOpen 27 = .ok (.iconst 1, 1) := by decide +kernel
theorem dX6_isOpen_28 : decode cX6_isOpen 28 = .ok (.if_icmp .ne 7, 3) := by decide +kernel
theorem dX6_isOpen_31 : decode cX6_isOpen 31 = .ok (.iconst 1, 1) := by decide +kernel
theorem dX6_isOpen_32 : decode cX6_isOpen 32 = .ok (.goto 4, 3) := by decide +kernel
theorem dX6_isOpen_35 : decode cX6_isOpen 35 = .ok (.iconst 0, 1) := by decide +kernel
theorem dX6_isOpen_36 : decode cX6_isOpen 36 = .ok (.istore 5, 2) := by decide +kernel
theorem dX6_isOpen_38 : decode cX6_isOpen 38 = .ok (.iload_n 2, 1) := by decide +kernel
theorem dX6_isOpen_39 : decode cX6_isOpen 39 = .ok (.ifCond .ne 8, 3) := by decide +kernel
theorem dX6_isOpen_42 : decode cX6_isOpen 42 = .ok (.iload 5, 2) := by decide +kernel
theorem dX6_isOpen_44 : decode cX6_isOpen 44 = .ok (.ifCond .eq 26, 3) := by decide +kernel
theorem dX6_isOpen_47 : decode cX6_isOpen 47 = .ok (.iload_n 2, 1) := by decide +kernel
theorem dX6_isOpen_48 : decode cX6_isOpen 48 = .ok (.iconst 2, 1) := by decide +kernel
theorem dX6_isOpen_49 : decode cX6_isOpen 49 = .ok (.if_icmp .ne 25, 3) := by decide +kernel
theorem dX6_isOpen_52 : decode cX6_isOpen 52 = .ok (.iload 5, 2) := by decide +kernel
theorem dX6_isOpen_54 : decode cX6_isOpen 54 = .ok (.ifCond .ne 20, 3) := by decide +kernel
theorem dX6_isOpen_57 : decode cX6_isOpen 57 = .ok (.aload_n 0, 1) := by decide +kernel
theorem dX6_isOpen_58 : decode cX6_isOpen 58 = .ok (.getfield 70, 3) := by decide +kernel
theorem dX6_isOpen_61 : decode cX6_isOpen 61 = .ok (.iload 4, 2) := by decide +kernel
theorem dX6_isOpen_63 : decode cX6_isOpen 63 = .ok (.ishr, 1) := by decide +kernel
theorem dX6_isOpen_64 : decode cX6_isOpen 64 = .ok (.iconst 1, 1) := by decide +kernel
theorem dX6_isOpen_65 : decode cX6_isOpen 65 = .ok (.iand, 1) := by decide +kernel
theorem dX6_isOpen_66 : decode cX6_isOpen 66 = .ok (.iconst 1, 1) := by decide +kernel
theorem dX6_isOpen_67 : decode cX6_isOpen 67 = .ok (.if_icmp .ne 7, 3) := by decide +kernel
theorem dX6_isOpen_70 : decode cX6_isOpen 70 = .ok (.iconst 1, 1) := by decide +kernel
theorem dX6_isOpen_71 : decode cX6_isOpen 71 = .ok (.goto 4, 3) := by decide +kernel
theorem dX6_isOpen_74 : decode cX6_isOpen 74 = .ok (.iconst 0, 1) := by decide +kernel
theorem dX6_isOpen_75 : decode cX6_isOpen 75 = .ok (.ireturn, 1) := by decide +kernel
theorem dX6_partOf_0 : decode cX6_partOf 0 = .ok (.iconst 1, 1) := by decide +kernel
theorem dX6_partOf_1 : decode cX6_partOf 1 = .ok (.bipush 12, 2) := by decide +kernel
theorem dX6_partOf_3 : decode cX6_partOf 3 = .ok (.iload_n 0, 1) := by decide +kernel
theorem dX6_partOf_4 : decode cX6_partOf 4 = .ok (.iadd, 1) := by decide +kernel
theorem dX6_partOf_5 : decode cX6_partOf 5 = .ok (.ishl, 1) := by decide +kernel
theorem dX6_partOf_6 : decode cX6_partOf 6 = .ok (.ireturn, 1) := by decide +kernel
set_option maxRecDepth 20000 in
theorem ggX6_spread_X6_partOf : GoodIn wsX6_spread wsX6_partOf := goodIn_r _ [6] (by decide +kernel) (by decide +kernel)
set_option maxRecDepth 20000 in
theorem gX6_spread_X6_partOf : GoodIn wsX6_spread (va_wsS RX6 80 yX6_partOf wsX6_partOf) := goodIn_app (goodIn_of _ (by decide +kernel)) ggX6_spread_X6_partOf
set_option maxRecDepth 20000 in
theorem ggX6_spread_X6_isOpen : GoodIn wsX6_spread wsX6_isOpen := goodIn_r _ [10, 11, 12, 13, 14, 15, 16, 17, 18, 19, 20, 21, 22, 23, 24, 25, 26, 27, 28, 29, 30] (by decide +kernel) (by decide +kernel)
set_option maxRecDepth 20000 in
theorem gX6_spread_X6_isOpen : GoodIn wsX6_spread (wsV RX6 83 RX6 yX6_isOpen wsX6_isOpen) := goodIn_app (goodIn_of _ (by decide +kernel)) ggX6_spread_X6_isOpen
theorem dX6_spread_0 : decode cX6_spread 0 = .ok (.iload_n 1, 1) := by decide +kernel
theorem dX6_spread_1 : decode cX6_spread 1 = .ok (.istore 4, 2) := by decide +kernel
theorem dX6_spread_3 : decode cX6_spread 3 = .ok (.iconst 0, 1) := by decide +kernel
theorem dX6_spread_4 : decode cX6_spread 4 = .ok (.istore 5, 2) := by decide +kernel
theorem dX6_spread_6 : decode cX6_spread 6 = .ok (.iload 4, 2) := by decide +kernel
theorem dX6_spread_8 : decode cX6_spread 8 = .ok (.iload 5, 2) := by decide +kernel
theorem dX6_spread_10 : decode cX6_spread 10 = .ok (.if_icmp .eq 75, 3) := by decide +kernel
theorem dX6_spread_13 : decode cX6_spread 13 = .ok (.iload 4, 2) := by decide +kernel
theorem dX6_spread_15 : decode cX6_spread 15 = .ok (.istore 5, 2) := by decide +kernel
theorem dX6_spread_17 : decode cX6_spread 17 = .ok (.iconst 0, 1) := by decide +kernel
theorem dX6_spread_18 : decode cX6_spread 18 = .ok (.istore 6, 2) := by decide +kernel
theorem dX6_spread_20 : decode cX6_spread 20 = .ok (.iload 6, 2) := by decide +kernel
theorem dX6_spread_22 : decode cX6_spread 22 = .ok (.iconst 2, 1) := by decide +kernel
theorem dX6_spread_23 : decode cX6_spread 23 = .ok (.aload_n 0, 1) := by decide +kernel
theorem dX6_spread_24 : decode cX6_spread 24 = .ok (.getfield 48, 3) := by decide +kernel
theorem dX6_spread_27 : decode cX6_spread 27 = .ok (.imul, 1) := by decide +kernel
theorem dX6_spread_28 : decode cX6_spread 28 = .ok (.if_icmp .ge 54, 3) := by decide +kernel
theorem dX6_spread_31 : decode cX6_spread 31 = .ok (.iload 6, 2) := by decide +kernel
theorem dX6_spread_33 : decode cX6_spread 33 = .ok (.iconst 2, 1) := by decide +kernel
theorem dX6_spread_34 : decode cX6_spread 34 = .ok (.idiv, 1) := by decide +kernel
theorem dX6_spread_35 : decode cX6_spread 35 = .ok (.invokestatic 80, 3) := by decide +kernel
theorem dX6_spread_38 : decode cX6_spread 38 = .ok (.iconst 1, 1) := by decide +kernel
theorem dX6_spread_39 : decode cX6_spread 39 = .ok (.aload_n 0, 1) := by decide +kernel
theorem dX6_spread_40 : decode cX6_spread 40 = .ok (.getfield 7, 3) := by decide +kernel
theorem dX6_spread_43 : decode cX6_spread 43 = .ok (.iload 6, 2) := by decide +kernel
theorem dX6_spread_45 : decode cX6_spread 45 = .ok (.iaload, 1) := by decide +kernel
theorem dX6_spread_46 : decode cX6_spread 46 = .ok (.ishl, 1) := by decide +kernel
theorem dX6_spread_47 : decode cX6_spread 47 = .ok (.ior, 1) := by decide +kernel
theorem dX6_spread_48 : decode cX6_spread 48 = .ok (.istore 7, 2) := by decide +kernel
theorem dX6_spread_50 : decode cX6_spread 50 = .ok (.iload 4, 2) := by decide +kernel
theorem dX6_spread_52 : decode cX6_spread 52 = .ok (.iload 7, 2) := by decide +kernel
theorem dX6_spread_54 : decode cX6_spread 54 = .ok (.iand, 1) := by decide +kernel
theorem dX6_spread_55 : decode cX6_spread 55 = .ok (.ifCond .eq 21, 3) := by decide +kernel
theorem dX6_spread_58 : decode cX6_spread 58 = .ok (.aload_n 0, 1) := by decide +kernel
theorem dX6_spread_59 : decode cX6_spread 59 = .ok (.iload 6, 2) := by decide +kernel
theorem dX6_spread_61 : decode cX6_spread 61 = .ok (.iload_n 2, 1) := by decide +kernel
theorem dX6_spread_62 : decode cX6_spread 62 = .ok (.iload_n 3, 1) := by decide +kernel
theorem dX6_spread_63 : decode cX6_spread 63 = .ok (.invokevirtual 83, 3) := by decide +kernel
theorem dX6_spread_66 : decode cX6_spread 66 = .ok (.ifCond .eq 10, 3) := by decide +kernel
theorem dX6_spread_69 : decode cX6_spread 69 = .ok (.iload 4, 2) := by decide +kernel
theorem dX6_spread_71 : decode cX6_spread 71 = .ok (.iload 7, 2) := by decide +kernel
theorem dX6_spread_73 : decode cX6_spread 73 = .ok (.ior, 1) := by decide +kernel
theorem dX6_spread_74 : decode cX6_spread 74 = .ok (.istore 4, 2) := by decide +kernel
theorem dX6_spread_76 : decode cX6_spread 76 = .ok (.iinc 6 1, 3) := by decide +kernel
theorem dX6_spread_79 : decode cX6_spread 79 = .ok (.goto (-59), 3) := by decide +kernel
theorem dX6_spread_82 : decode cX6_spread 82 = .ok (.goto (-76), 3) := by decide +kernel
theorem dX6_spread_85 : decode cX6_spread 85 = .ok (.iload 4, 2) := by decide +kernel
theorem dX6_spread_87 : decode cX6_spread 87 = .ok (.ireturn, 1) := by decide +kernel
set_option maxRecDepth 20000 in
theorem ggX6_wet_X6_spread : GoodIn wsX6_wet wsX6_spread := goodIn_r _ [6, 7, 8, 9, 10, 5, 11, 12, 13, 14, 15, 16, 17, 18, 19, 20, 21, 22, 23, 24, 25, 26, 27, 28, 29, 30, 31, 32, 33, 34, 35] (by decide +kernel) (by decide +kernel)
set_option maxRecDepth 20000 in
theorem gX6_wet_X6_spread : GoodIn wsX6_wet (wsV RX6 86 RX6 yX6_spread wsX6_spread) := goodIn_app (goodIn_of _ (by decide +kernel)) ggX6_wet_X6_spread
theorem dX6_wet_0 : decode cX6_wet 0 = .ok (.aload_n 0, 1) := by decide +kernel
theorem dX6_wet_1 : decode cX6_wet 1 = .ok (.aload_n 0, 1) := by decide +kernel
theorem dX6_wet_2 : decode cX6_wet 2 = .ok (.getfield 58, 3) := by decide +kernel
theorem dX6_wet_5 : decode cX6_wet 5 = .ok (.iconst 0, 1) := by decide +kernel
theorem dX6_wet_6 : decode cX6_wet 6 = .ok (.iload_n 1, 1) := by decide +kernel
theorem dX6_wet_7 : decode cX6_wet 7 = .ok (.invokevirtual 86, 3) := by decide +kernel
theorem dX6_wet_10 : decode cX6_wet 10 = .ok (.ireturn, 1) := by decide +kernel
set_option maxRecDepth 20000 in
theorem ggX6_supply_X6_partOf : GoodIn wsX6_supply wsX6_partOf := goodIn_r _ [6] (by decide +kernel) (by decide +kernel)
set_option maxRecDepth 20000 in
theorem gX6_supply_X6_partOf : GoodIn wsX6_supply (va_wsS RX6 80 yX6_partOf wsX6_partOf) := goodIn_app (goodIn_of _ (by decide +kernel)) ggX6_supply_X6_partOf
theorem dX6_supply_0 : decode cX6_supply 0 = .ok (.iconst 0, 1) := by decide +kernel
theorem dX6_supply_1 : decode cX6_supply 1 = .ok (.istore_n 2, 1) := by decide +kernel
theorem dX6_supply_2 : decode cX6_supply 2 = .ok (.iconst 0, 1) := by decide +kernel
theorem dX6_supply_3 : decode cX6_supply 3 = .ok (.istore_n 3, 1) := by decide +kernel
theorem dX6_supply_4 : decode cX6_supply 4 = .ok (.iload_n 3, 1) := by decide +kernel
theorem dX6_supply_5 : decode cX6_supply 5 = .ok (.aload_n 0, 1) := by decide +kernel
theorem dX6_supply_6 : decode cX6_supply 6 = .ok (.getfield 48, 3) := by decide +kernel
theorem dX6_supply_9 : decode cX6_supply 9 = .ok (.if_icmp .ge 31, 3) := by decide +kernel
theorem dX6_supply_12 : decode cX6_supply 12 = .ok (.iload_n 2, 1) := by decide +kernel
theorem dX6_supply_13 : decode cX6_supply 13 = .ok (.iload_n 1, 1) := by decide +kernel
theorem dX6_supply_14 : decode cX6_supply 14 = .ok (.iload_n 3, 1) := by decide +kernel
theorem dX6_supply_15 : decode cX6_supply 15 = .ok (.invokestatic 80, 3) := by decide +kernel
theorem dX6_supply_18 : decode cX6_supply 18 = .ok (.iand, 1) := by decide +kernel
theorem dX6_supply_19 : decode cX6_supply 19 = .ok (.ifCond .eq 12, 3) := by decide +kernel
theorem dX6_supply_22 : decode cX6_supply 22 = .ok (.aload_n 0, 1) := by decide +kernel
theorem dX6_supply_23 : decode cX6_supply 23 = .ok (.getfield 19, 3) := by decide +kernel
theorem dX6_supply_26 : decode cX6_supply 26 = .ok (.iload_n 3, 1) := by decide +kernel
theorem dX6_supply_27 : decode cX6_supply 27 = .ok (.iaload, 1) := by decide +kernel
theorem dX6_supply_28 : decode cX6_supply 28 = .ok (.goto 4, 3) := by decide +kernel
theorem dX6_supply_31 : decode cX6_supply 31 = .ok (.iconst 0, 1) := by decide +kernel
theorem dX6_supply_32 : decode cX6_supply 32 = .ok (.iadd, 1) := by decide +kernel
theorem dX6_supply_33 : decode cX6_supply 33 = .ok (.istore_n 2, 1) := by decide +kernel
theorem dX6_supply_34 : decode cX6_supply 34 = .ok (.iinc 3 1, 3) := by decide +kernel
theorem dX6_supply_37 : decode cX6_supply 37 = .ok (.goto (-33), 3) := by decide +kernel
theorem dX6_supply_40 : decode cX6_supply 40 = .ok (.iload_n 2, 1) := by decide +kernel
theorem dX6_supply_41 : decode cX6_supply 41 = .ok (.ireturn, 1) := by decide +kernel
set_option maxRecDepth 20000 in
theorem ggX6_isNodeDry_X6_isNode : GoodIn wsX6_isNodeDry wsX6_isNode := goodIn_r _ [5, 6, 7, 8, 4, 9, 36, 37, 38, 39, 40, 41, 42, 43, 44, 45, 46, 47, 48, 49, 50, 51, 52] (by decide +kernel) (by decide +kernel)
set_option maxRecDepth 20000 in
theorem gX6_isNodeDry_X6_isNode : GoodIn wsX6_isNodeDry (wsV RX6 61 RX6 yX6_isNode wsX6_isNode) := goodIn_app (goodIn_of _ (by decide +kernel)) ggX6_isNodeDry_X6_isNode
set_option maxRecDepth 20000 in
theorem ggX6_isNodeDry_X6_refused : GoodIn wsX6_isNodeDry wsX6_refused := goodIn_r _ [13, 14, 36, 37, 38, 39, 40, 41, 42, 43, 44, 45, 46, 47, 48, 49, 50, 51, 52] (by decide +kernel) (by decide +kernel)
set_option maxRecDepth 20000 in
theorem gX6_isNodeDry_X6_refused : GoodIn wsX6_isNodeDry (wsV RX6 54 RX6 yX6_refused wsX6_refused) := goodIn_app (goodIn_of _ (by decide +kernel)) ggX6_isNodeDry_X6_refused
set_option maxRecDepth 20000 in
theorem ggX6_isNodeDry_X6_wet : GoodIn wsX6_isNodeDry wsX6_wet := goodIn_r _ [18, 19, 20, 21, 22, 4, 23, 24, 25, 26, 27, 28, 29, 30, 31, 32, 33, 34, 35, 36, 37, 38, 39, 40, 41, 42, 43, 44, 45, 46, 47, 48, 49, 50, 51, 52] (by decide +kernel) (by decide +kernel)
set_option maxRecDepth 20000 in
theorem gX6_isNodeDry_X6_wet : GoodIn wsX6_isNodeDry (wsV RX6 90 RX6 yX6_wet wsX6_wet) := goodIn_app (goodIn_of _ (by decide +kernel)) ggX6_isNodeDry_X6_wet
theorem dX6_isNodeDry_0 : decode cX6_isNodeDry 0 = .ok (.aload_n 0, 1) := by decide +kernel
theorem dX6_isNodeDry_1 : decode cX6_isNodeDry 1 = .ok (.aload_n 0, 1) := by decide +kernel
theorem dX6_isNodeDry_2 : decode cX6_isNodeDry 2 = .ok (.iload_n 1, 1) := by decide +kernel
theorem dX6_isNodeDry_3 : decode cX6_isNodeDry 3 = .ok (.invokevirtual 61, 3) := by decide +kernel
theorem dX6_isNodeDry_6 : decode cX6_isNodeDry 6 = .ok (.ifCond .eq 7, 3) := by decide +kernel
theorem dX6_isNodeDry_9 : decode cX6_isNodeDry 9 = .ok (.iconst 0, 1) := by decide +kernel
theorem dX6_isNodeDry_10 : decode cX6_isNodeDry 10 = .ok (.goto 4, 3) := by decide +kernel
theorem dX6_isNodeDry_13 : decode cX6_isNodeDry 13 = .ok (.iconst 1, 1) := by decide +kernel
theorem dX6_isNodeDry_14 : decode cX6_isNodeDry 14 = .ok (.invokevirtual 54, 3) := by decide +kernel
theorem dX6_isNodeDry_17 : decode cX6_isNodeDry 17 = .ok (.ifCond .ne 19, 3) := by decide +kernel
theorem dX6_isNodeDry_20 : decode cX6_isNodeDry 20 = .ok (.aload_n 0, 1) := by decide +kernel
theorem dX6_isNodeDry_21 : decode cX6_isNodeDry 21 = .ok (.iconst 0, 1) := by decide +kernel
theorem dX6_isNodeDry_22 : decode cX6_isNodeDry 22 = .ok (.invokevirtual 90, 3) := by decide +kernel
theorem dX6_isNodeDry_25 : decode cX6_isNodeDry 25 = .ok (.iconst 1, 1) := by decide +kernel
theorem dX6_isNodeDry_26 : decode cX6_isNodeDry 26 = .ok (.iload_n 1, 1) := by decide +kernel
theorem dX6_isNodeDry_27 : decode cX6_isNodeDry 27 = .ok (.ishl, 1) := by decide +kernel
theorem dX6_isNodeDry_28 : decode cX6_isNodeDry 28 = .ok (.iand, 1) := by decide +kernel
theorem dX6_isNodeDry_29 : decode cX6_isNodeDry 29 = .ok (.ifCond .ne 7, 3) := by decide +kernel
theorem dX6_isNodeDry_32 : decode cX6_isNodeDry 32 = .ok (.iconst 1, 1) := by decide +kernel
theorem dX6_isNodeDry_33 : decode cX6_isNodeDry 33 = .ok (.goto 4, 3) := by decide +kernel
theorem dX6_isNodeDry_36 : decode cX6_isNodeDry 36 = .ok (.iconst 0, 1) := by decide +kernel
theorem dX6_isNodeDry_37 : decode cX6_isNodeDry 37 = .ok (.ireturn, 1) := by decide +kernel
set_option maxRecDepth 20000 in
theorem ggX6_isPipeDry_X6_isPipe : GoodIn wsX6_isPipeDry wsX6_isPipe := goodIn_r _ [5, 6, 7, 8, 4, 9, 35, 36, 37, 38, 39, 40, 41, 42, 43, 44, 45, 46, 47, 48, 49, 50, 51] (by decide +kernel) (by decide +kernel)
set_option maxRecDepth 20000 in
theorem gX6_isPipeDry_X6_isPipe : GoodIn wsX6_isPipeDry (wsV RX6 64 RX6 yX6_isPipe wsX6_isPipe) := goodIn_app (goodIn_of _ (by decide +kernel)) ggX6_isPipeDry_X6_isPipe
set_option maxRecDepth 20000 in
theorem ggX6_isPipeDry_X6_refused : GoodIn wsX6_isPipeDry wsX6_refused := goodIn_r _ [13, 14, 35, 36, 37, 38, 39, 40, 41, 42, 43, 44, 45, 46, 47, 48, 49, 50, 51] (by decide +kernel) (by decide +kernel)
set_option maxRecDepth 20000 in
theorem gX6_isPipeDry_X6_refused : GoodIn wsX6_isPipeDry (wsV RX6 54 RX6 yX6_refused wsX6_refused) := goodIn_app (goodIn_of _ (by decide +kernel)) ggX6_isPipeDry_X6_refused
set_option maxRecDepth 20000 in
theorem ggX6_isPipeDry_X6_wet : GoodIn wsX6_isPipeDry wsX6_wet := goodIn_r _ [18, 19, 20, 21, 22, 4, 23, 6, 24, 25, 26, 27, 28, 29, 30, 31, 32, 33, 34, 35, 36, 37, 38, 39, 40, 41, 42, 43, 44, 45, 46, 47, 48, 49, 50, 51] (by decide +kernel) (by decide +kernel)
set_option maxRecDepth 20000 in
theorem gX6_isPipeDry_X6_wet : GoodIn wsX6_isPipeDry (wsV RX6 90 RX6 yX6_wet wsX6_wet) := goodIn_app (goodIn_of _ (by decide +kernel)) ggX6_isPipeDry_X6_wet
set_option maxRecDepth 20000 in
theorem ggX6_isPipeDry_X6_partOf : GoodIn wsX6_isPipeDry wsX6_partOf := goodIn_r _ [27] (by decide +kernel) (by decide +kernel)
set_option maxRecDepth 20000 in
theorem gX6_isPipeDry_X6_partOf : GoodIn wsX6_isPipeDry (va_wsS RX6 80 yX6_partOf wsX6_partOf) := goodIn_app (goodIn_of _ (by decide +kernel)) ggX6_isPipeDry_X6_partOf
theorem dX6_isPipeDry_0 : decode cX6_isPipeDry 0 = .ok (.aload_n 0, 1) := by decide +kernel
theorem dX6_isPipeDry_1 : decode cX6_isPipeDry 1 = .ok (.aload_n 0, 1) := by decide +kernel
theorem dX6_isPipeDry_2 : decode cX6_isPipeDry 2 = .ok (.iload_n 1, 1) := by decide +kernel
theorem dX6_isPipeDry_3 : decode cX6_isPipeDry 3 = .ok (.invokevirtual 64, 3) := by decide +kernel
theorem dX6_isPipeDry_6 : decode cX6_isPipeDry 6 = .ok (.ifCond .eq 7, 3) := by decide +kernel
theorem dX6_isPipeDry_9 : decode cX6_isPipeDry 9 = .ok (.iconst 0, 1) := by decide +kernel
theorem dX6_isPipeDry_10 : decode cX6_isPipeDry 10 = .ok (.goto 4, 3) := by decide +kernel
theorem dX6_isPipeDry_13 : decode cX6_isPipeDry 13 = .ok (.iconst 1, 1) := by decide +kernel
theorem dX6_isPipeDry_14 : decode cX6_isPipeDry 14 = .ok (.invokevirtual 54, 3) := by decide +kernel
theorem dX6_isPipeDry_17 : decode cX6_isPipeDry 17 = .ok (.ifCond .ne 20, 3) := by decide +kernel
theorem dX6_isPipeDry_20 : decode cX6_isPipeDry 20 = .ok (.aload_n 0, 1) := by decide +kernel
theorem dX6_isPipeDry_21 : decode cX6_isPipeDry 21 = .ok (.iconst 0, 1) := by decide +kernel
theorem dX6_isPipeDry_22 : decode cX6_isPipeDry 22 = .ok (.invokevirtual 90, 3) := by decide +kernel
theorem dX6_isPipeDry_25 : decode cX6_isPipeDry 25 = .ok (.iload_n 1, 1) := by decide +kernel
theorem dX6_isPipeDry_26 : decode cX6_isPipeDry 26 = .ok (.invokestatic 80, 3) := by decide +kernel
theorem dX6_isPipeDry_29 : decode cX6_isPipeDry 29 = .ok (.iand, 1) := by decide +kernel
theorem dX6_isPipeDry_30 : decode cX6_isPipeDry 30 = .ok (.ifCond .ne 7, 3) := by decide +kernel
theorem dX6_isPipeDry_33 : decode cX6_isPipeDry 33 = .ok (.iconst 1, 1) := by decide +kernel
theorem dX6_isPipeDry_34 : decode cX6_isPipeDry 34 = .ok (.goto 4, 3) := by decide +kernel
theorem dX6_isPipeDry_37 : decode cX6_isPipeDry 37 = .ok (.iconst 0, 1) := by decide +kernel
theorem dX6_isPipeDry_38 : decode cX6_isPipeDry 38 = .ok (.ireturn, 1) := by decide +kernel
set_option maxRecDepth 20000 in
theorem ggX6_supplied_X6_wet : GoodIn wsX6_supplied wsX6_wet := goodIn_r _ [5, 6, 7, 8, 9, 4, 10, 11, 12, 13, 14, 15, 16, 17, 18, 19, 20, 21, 22, 33, 34, 35, 36, 37, 38, 39, 40, 41, 42, 43, 44, 45, 46, 47, 48, 49] (by decide +kernel) (by decide +kernel)
set_option maxRecDepth 20000 in
theorem gX6_supplied_X6_wet : GoodIn wsX6_supplied (wsV RX6 90 RX6 yX6_wet wsX6_wet) := goodIn_app (goodIn_of _ (by decide +kernel)) ggX6_supplied_X6_wet
set_option maxRecDepth 20000 in
theorem ggX6_supplied_X6_supply : GoodIn wsX6_supplied wsX6_supply := goodIn_r _ [26, 11, 27, 13, 14, 4, 15, 33, 34, 35, 36, 37, 38, 39, 40, 41, 42, 43, 44, 45, 46, 47, 48, 49] (by decide +kernel) (by decide +kernel)
set_option maxRecDepth 20000 in
theorem gX6_supplied_X6_supply : GoodIn wsX6_supplied (wsV RX6 93 RX6 yX6_supply wsX6_supply) := goodIn_app (goodIn_of _ (by decide +kernel)) ggX6_supplied_X6_supply
set_option maxRecDepth 20000 in
theorem ggX6_supplied_X6_fine : GoodIn wsX6_supplied wsX6_fine := goodIn_r _ [31, 32, 33, 34, 35, 36, 37, 38, 39, 40, 41, 42, 43, 44, 45, 46, 47, 48, 49] (by decide +kernel) (by decide +kernel)
set_option maxRecDepth 20000 in
theorem gX6_supplied_X6_fine : GoodIn wsX6_supplied (wsV RX6 76 RX6 yX6_fine wsX6_fine) := goodIn_app (goodIn_of _ (by decide +kernel)) ggX6_supplied_X6_fine
theorem dX6_supplied_0 : decode cX6_supplied 0 = .ok (.aload_n 0, 1) := by decide +kernel
theorem dX6_supplied_1 : decode cX6_supplied 1 = .ok (.aload_n 0, 1) := by decide +kernel
theorem dX6_supplied_2 : decode cX6_supplied 2 = .ok (.aload_n 0, 1) := by decide +kernel
theorem dX6_supplied_3 : decode cX6_supplied 3 = .ok (.iconst 0, 1) := by decide +kernel
theorem dX6_supplied_4 : decode cX6_supplied 4 = .ok (.invokevirtual 90, 3) := by decide +kernel
theorem dX6_supplied_7 : decode cX6_supplied 7 = .ok (.invokevirtual 93, 3) := by decide +kernel
theorem dX6_supplied_10 : decode cX6_supplied 10 = .ok (.invokevirtual 76, 3) := by decide +kernel
theorem dX6_supplied_13 : decode cX6_supplied 13 = .ok (.ireturn, 1) := by decide +kernel
set_option maxRecDepth 20000 in
theorem ggX6_segmentOf_X6_spread : GoodIn wsX6_segmentOf wsX6_spread := goodIn_r _ [7, 1, 8, 9, 10, 6, 11, 12, 13, 14, 15, 16, 17, 18, 19, 20, 21, 22, 23, 24, 25, 26, 27, 28, 29, 30, 31, 32, 33, 34, 35] (by decide +kernel) (by decide +kernel)
set_option maxRecDepth 20000 in
theorem gX6_segmentOf_X6_spread : GoodIn wsX6_segmentOf (wsV RX6 86 RX6 yX6_spread wsX6_spread) := goodIn_app (goodIn_of _ (by decide +kernel)) ggX6_segmentOf_X6_spread
theorem dX6_segmentOf_0 : decode cX6_segmentOf 0 = .ok (.iconst 0, 1) := by decide +kernel
theorem dX6_segmentOf_1 : decode cX6_segmentOf 1 = .ok (.istore_n 2, 1) := by decide +kernel
theorem dX6_segmentOf_2 : decode cX6_segmentOf 2 = .ok (.iconst 0, 1) := by decide +kernel
theorem dX6_segmentOf_3 : decode cX6_segmentOf 3 = .ok (.istore_n 3, 1) := by decide +kernel
theorem dX6_segmentOf_4 : decode cX6_segmentOf 4 = .ok (.iconst 0, 1) := by decide +kernel
theorem dX6_segmentOf_5 : decode cX6_segmentOf 5 = .ok (.istore 4, 2) := by decide +kernel
theorem dX6_segmentOf_7 : decode cX6_segmentOf 7 = .ok (.iload 4, 2) := by decide +kernel
theorem dX6_segmentOf_9 : decode cX6_segmentOf 9 = .ok (.bipush 12, 2) := by decide +kernel
theorem dX6_segmentOf_11 : decode cX6_segmentOf 11 = .ok (.aload_n 0, 1) := by decide +kernel
theorem dX6_segmentOf_12 : decode cX6_segmentOf 12 = .ok (.getfield 48, 3) := by decide +kernel
theorem dX6_segmentOf_15 : decode cX6_segmentOf 15 = .ok (.iadd, 1) := by decide +kernel
theorem dX6_segmentOf_16 : decode cX6_segmentOf 16 = .ok (.if_icmp .ge 75, 3) := by decide +kernel
theorem dX6_segmentOf_19 : decode cX6_segmentOf 19 = .ok (.iload 4, 2) := by decide +kernel
theorem dX6_segmentOf_21 : decode cX6_segmentOf 21 = .ok (.aload_n 0, 1) := by decide +kernel
theorem dX6_segmentOf_22 : decode cX6_segmentOf 22 = .ok (.getfield 41, 3) := by decide +kernel
theorem dX6_segmentOf_25 : decode cX6_segmentOf 25 = .ok (.if_icmp .lt 10, 3) := by decide +kernel
theorem dX6_segmentOf_28 : decode cX6_segmentOf 28 = .ok (.iload 4, 2) := by decide +kernel
theorem dX6_segmentOf_30 : decode cX6_segmentOf 30 = .ok (.bipush 12, 2) := by decide +kernel
theorem dX6_segmentOf_32 : decode cX6_segmentOf 32 = .ok (.if_icmp .lt 7, 3) := by decide +kernel
theorem dX6_segmentOf_35 : decode cX6_segmentOf 35 = .ok (.iconst 1, 1) := by decide +kernel
theorem dX6_segmentOf_36 : decode cX6_segmentOf 36 = .ok (.goto 4, 3) := by decide +kernel
theorem dX6_segmentOf_39 : decode cX6_segmentOf 39 = .ok (.iconst 0, 1) := by decide +kernel
theorem dX6_segmentOf_40 : decode cX6_segmentOf 40 = .ok (.istore 5, 2) := by decide +kernel
theorem dX6_segmentOf_42 : decode cX6_segmentOf 42 = .ok (.iload 5, 2) := by decide +kernel
theorem dX6_segmentOf_44 : decode cX6_segmentOf 44 = .ok (.ifCond .eq 41, 3) := by decide +kernel
theorem dX6_segmentOf_47 : decode cX6_segmentOf 47 = .ok (.iload_n 2, 1) := by decide +kernel
theorem dX6_segmentOf_48 : decode cX6_segmentOf 48 = .ok (.iload 4, 2) := by decide +kernel
theorem dX6_segmentOf_50 : decode cX6_segmentOf 50 = .ok (.ishr, 1) := by decide +kernel
theorem dX6_segmentOf_51 : decode cX6_segmentOf 51 = .ok (.iconst 1, 1) := by decide +kernel
theorem dX6_segmentOf_52 : decode cX6_segmentOf 52 = .ok (.iand, 1) := by decide +kernel
theorem dX6_segmentOf_53 : decode cX6_segmentOf 53 = .ok (.ifCond .ne 32, 3) := by decide +kernel
theorem dX6_segmentOf_56 : decode cX6_segmentOf 56 = .ok (.aload_n 0, 1) := by decide +kernel
theorem dX6_segmentOf_57 : decode cX6_segmentOf 57 = .ok (.iconst 1, 1) := by decide +kernel
theorem dX6_segmentOf_58 : decode cX6_segmentOf 58 = .ok (.iload 4, 2) := by decide +kernel
theorem dX6_segmentOf_60 : decode cX6_segmentOf 60 = .ok (.ishl, 1) := by decide +kernel
theorem dX6_segmentOf_61 : decode cX6_segmentOf 61 = .ok (.iconst 1, 1) := by decide +kernel
theorem dX6_segmentOf_62 : decode cX6_segmentOf 62 = .ok (.iconst 0, 1) := by decide +kernel
theorem dX6_segmentOf_63 : decode cX6_segmentOf 63 = .ok (.invokevirtual 86, 3) := by decide +kernel
theorem dX6_segmentOf_66 : decode cX6_segmentOf 66 = .ok (.istore 6, 2) := by decide +kernel
theorem dX6_segmentOf_68 : decode cX6_segmentOf 68 = .ok (.iload 6, 2) := by decide +kernel
theorem dX6_segmentOf_70 : decode cX6_segmentOf 70 = .ok (.iload_n 1, 1) := by decide +kernel
theorem dX6_segmentOf_71 : decode cX6_segmentOf 71 = .ok (.iand, 1) := by decide +kernel
theorem dX6_segmentOf_72 : decode cX6_segmentOf 72 = .ok (.ifCond .eq 5, 3) := by decide +kernel
theorem dX6_segmentOf_75 : decode cX6_segmentOf 75 = .ok (.iload_n 3, 1) := by decide +kernel
theorem dX6_segmentOf_76 : decode cX6_segmentOf 76 = .ok (.ireturn, 1) := by decide +kernel
theorem dX6_segmentOf_77 : decode cX6_segmentOf 77 = .ok (.iload_n 2, 1) := by decide +kernel
theorem dX6_segmentOf_78 : decode cX6_segmentOf 78 = .ok (.iload 6, 2) := by decide +kernel
theorem dX6_segmentOf_80 : decode cX6_segmentOf 80 = .ok (.ior, 1) := by decide +kernel
theorem dX6_segmentOf_81 : decode cX6_segmentOf 81 = .ok (.istore_n 2, 1) := by decide +kernel
theorem dX6_segmentOf_82 : decode cX6_segmentOf 82 = .ok (.iinc 3 1, 3) := by decide +kernel
theorem dX6_segmentOf_85 : decode cX6_segmentOf 85 = .ok (.iinc 4 1, 3) := by decide +kernel
theorem dX6_segmentOf_88 : decode cX6_segmentOf 88 = .ok (.goto (-81), 3) := by decide +kernel
theorem dX6_segmentOf_91 : decode cX6_segmentOf 91 = .ok (.iload_n 3, 1) := by decide +kernel
theorem dX6_segmentOf_92 : decode cX6_segmentOf 92 = .ok (.ireturn, 1) := by decide +kernel
set_option maxRecDepth 20000 in
theorem ggX6_segments_X6_segmentOf : GoodIn wsX6_segments wsX6_segmentOf := goodIn_r _ [5, 6, 7, 8, 9, 10, 4, 11, 12, 13, 14, 15, 16, 17, 18, 19, 20, 21, 22, 28, 29, 30, 31, 32, 33, 34, 35, 36, 37, 38, 39, 40, 41, 42, 43, 44] (by decide +kernel) (by decide +kernel)
set_option maxRecDepth 20000 in
theorem gX6_segments_X6_segmentOf : GoodIn wsX6_segments (wsV RX6 96 RX6 yX6_segmentOf wsX6_segmentOf) := goodIn_app (goodIn_of _ (by decide +kernel)) ggX6_segments_X6_segmentOf
set_option maxRecDepth 20000 in
theorem ggX6_segments_X6_fine : GoodIn wsX6_segments wsX6_fine := goodIn_r _ [26, 27, 28, 29, 30, 31, 32, 33, 34, 35, 36, 37, 38, 39, 40, 41, 42, 43, 44] (by decide +kernel) (by decide +kernel)
set_option maxRecDepth 20000 in
theorem gX6_segments_X6_fine : GoodIn wsX6_segments (wsV RX6 76 RX6 yX6_fine wsX6_fine) := goodIn_app (goodIn_of _ (by decide +kernel)) ggX6_segments_X6_fine
theorem dX6_segments_0 : decode cX6_segments 0 = .ok (.aload_n 0, 1) := by decide +kernel
theorem dX6_segments_1 : decode cX6_segments 1 = .ok (.aload_n 0, 1) := by decide +kernel
theorem dX6_segments_2 : decode cX6_segments 2 = .ok (.iconst 0, 1) := by decide +kernel
theorem dX6_segments_3 : decode cX6_segments 3 = .ok (.invokevirtual 96, 3) := by decide +kernel
theorem dX6_segments_6 : decode cX6_segments 6 = .ok (.invokevirtual 76, 3) := by decide +kernel
theorem dX6_segments_9 : decode cX6_segments 9 = .ok (.ireturn, 1) := by decide +kernel
set_option maxRecDepth 20000 in
theorem ggX6_segmentOfNode_X6_isNode : GoodIn wsX6_segmentOfNode wsX6_isNode := goodIn_r _ [5, 6, 7, 8, 4, 9, 35, 36, 37, 38, 39, 40, 41, 42, 43, 44, 45, 46, 47, 48, 49, 50, 51] (by decide +kernel) (by decide +kernel)
set_option maxRecDepth 20000 in
theorem gX6_segmentOfNode_X6_isNode : GoodIn wsX6_segmentOfNode (wsV RX6 61 RX6 yX6_isNode wsX6_isNode) := goodIn_app (goodIn_of _ (by decide +kernel)) ggX6_segmentOfNode_X6_isNode
set_option maxRecDepth 20000 in
theorem ggX6_segmentOfNode_X6_refused : GoodIn wsX6_segmentOfNode wsX6_refused := goodIn_r _ [13, 14, 35, 36, 37, 38, 39, 40, 41, 42, 43, 44, 45, 46, 47, 48, 49, 50, 51] (by decide +kernel) (by decide +kernel)
set_option maxRecDepth 20000 in
theorem gX6_segmentOfNode_X6_refused : GoodIn wsX6_segmentOfNode (wsV RX6 54 RX6 yX6_refused wsX6_refused) := goodIn_app (goodIn_of _ (by decide +kernel)) ggX6_segmentOfNode_X6_refused
set_option maxRecDepth 20000 in
theorem ggX6_segmentOfNode_X6_segmentOf : GoodIn wsX6_segmentOfNode wsX6_segmentOf := goodIn_r _ [18, 19, 6, 20, 21, 22, 4, 23, 24, 25, 26, 27, 28, 29, 30, 31, 32, 33, 34, 35, 36, 37, 38, 39, 40, 41, 42, 43, 44, 45, 46, 47, 48, 49, 50, 51] (by decide +kernel) (by decide +kernel)
set_option maxRecDepth 20000 in
theorem gX6_segmentOfNode_X6_segmentOf : GoodIn wsX6_segmentOfNode (wsV RX6 96 RX6 yX6_segmentOf wsX6_segmentOf) := goodIn_app (goodIn_of _ (by decide +kernel)) ggX6_segmentOfNode_X6_segmentOf
theorem dX6_segmentOfNode_0 : decode cX6_segmentOfNode 0 = .ok (.aload_n 0, 1) := by decide +kernel
theorem dX6_segmentOfNode_1 : decode cX6_segmentOfNode 1 = .ok (.aload_n 0, 1) := by decide +kernel
theorem dX6_segmentOfNode_2 : decode cX6_segmentOfNode 2 = .ok (.iload_n 1, 1) := by decide +kernel
theorem dX6_segmentOfNode_3 : decode cX6_segmentOfNode 3 = .ok (.invokevirtual 61, 3) := by decide +kernel
theorem dX6_segmentOfNode_6 : decode cX6_segmentOfNode 6 = .ok (.ifCond .eq 7, 3) := by decide +kernel
theorem dX6_segmentOfNode_9 : decode cX6_segmentOfNode 9 = .ok (.iconst 0, 1) := by decide +kernel
theorem dX6_segmentOfNode_10 : decode cX6_segmentOfNode 10 = .ok (.goto 4, 3) := by decide +kernel
theorem dX6_segmentOfNode_13 : decode cX6_segmentOfNode 13 = .ok (.iconst 1, 1) := by decide +kernel
theorem dX6_segmentOfNode_14 : decode cX6_segmentOfNode 14 = .ok (.invokevirtual 54, 3) := by decide +kernel
theorem dX6_segmentOfNode_17 : decode cX6_segmentOfNode 17 = .ok (.ifCond .eq 7, 3) := by decide +kernel
theorem dX6_segmentOfNode_20 : decode cX6_segmentOfNode 20 = .ok (.iconst 0, 1) := by decide +kernel
theorem dX6_segmentOfNode_21 : decode cX6_segmentOfNode 21 = .ok (.goto 10, 3) := by decide +kernel
theorem dX6_segmentOfNode_24 : decode cX6_segmentOfNode 24 = .ok (.aload_n 0, 1) := by decide +kernel
theorem dX6_segmentOfNode_25 : decode cX6_segmentOfNode 25 = .ok (.iconst 1, 1) := by decide +kernel
theorem dX6_segmentOfNode_26 : decode cX6_segmentOfNode 26 = .ok (.iload_n 1, 1) := by decide +kernel
theorem dX6_segmentOfNode_27 : decode cX6_segmentOfNode 27 = .ok (.ishl, 1) := by decide +kernel
theorem dX6_segmentOfNode_28 : decode cX6_segmentOfNode 28 = .ok (.invokevirtual 96, 3) := by decide +kernel
theorem dX6_segmentOfNode_31 : decode cX6_segmentOfNode 31 = .ok (.ireturn, 1) := by decide +kernel
set_option maxRecDepth 20000 in
theorem ggX6_segmentOfPipe_X6_isPipe : GoodIn wsX6_segmentOfPipe wsX6_isPipe := goodIn_r _ [5, 6, 7, 8, 4, 9, 35, 36, 37, 38, 39, 40, 41, 42, 43, 44, 45, 46, 47, 48, 49, 50, 51] (by decide +kernel) (by decide +kernel)
set_option maxRecDepth 20000 in
theorem gX6_segmentOfPipe_X6_isPipe : GoodIn wsX6_segmentOfPipe (wsV RX6 64 RX6 yX6_isPipe wsX6_isPipe) := goodIn_app (goodIn_of _ (by decide +kernel)) ggX6_segmentOfPipe_X6_isPipe
set_option maxRecDepth 20000 in
theorem ggX6_segmentOfPipe_X6_refused : GoodIn wsX6_segmentOfPipe wsX6_refused := goodIn_r _ [13, 14, 35, 36, 37, 38, 39, 40, 41, 42, 43, 44, 45, 46, 47, 48, 49, 50, 51] (by decide +kernel) (by decide +kernel)
set_option maxRecDepth 20000 in
theorem gX6_segmentOfPipe_X6_refused : GoodIn wsX6_segmentOfPipe (wsV RX6 54 RX6 yX6_refused wsX6_refused) := goodIn_app (goodIn_of _ (by decide +kernel)) ggX6_segmentOfPipe_X6_refused
set_option maxRecDepth 20000 in
theorem ggX6_segmentOfPipe_X6_partOf : GoodIn wsX6_segmentOfPipe wsX6_partOf := goodIn_r _ [17] (by decide +kernel) (by decide +kernel)
set_option maxRecDepth 20000 in
theorem gX6_segmentOfPipe_X6_partOf : GoodIn wsX6_segmentOfPipe (va_wsS RX6 80 yX6_partOf wsX6_partOf) := goodIn_app (goodIn_of _ (by decide +kernel)) ggX6_segmentOfPipe_X6_partOf
set_option maxRecDepth 20000 in
theorem ggX6_segmentOfPipe_X6_segmentOf : GoodIn wsX6_segmentOfPipe wsX6_segmentOf := goodIn_r _ [21, 6, 22, 23, 24, 25, 4, 26, 27, 15, 16, 17, 28, 29, 30, 31, 32, 33, 34, 35, 36, 37, 38, 39, 40, 41, 42, 43, 44, 45, 46, 47, 48, 49, 50, 51] (by decide +kernel) (by decide +kernel)
set_option maxRecDepth 20000 in
theorem gX6_segmentOfPipe_X6_segmentOf : GoodIn wsX6_segmentOfPipe (wsV RX6 96 RX6 yX6_segmentOf wsX6_segmentOf) := goodIn_app (goodIn_of _ (by decide +kernel)) ggX6_segmentOfPipe_X6_segmentOf
theorem dX6_segmentOfPipe_0 : decode cX6_segmentOfPipe 0 = .ok (.aload_n 0, 1) := by decide +kernel
theorem dX6_segmentOfPipe_1 : decode cX6_segmentOfPipe 1 = .ok (.aload_n 0, 1) := by decide +kernel
theorem dX6_segmentOfPipe_2 : decode cX6_segmentOfPipe 2 = .ok (.iload_n 1, 1) := by decide +kernel
theorem dX6_segmentOfPipe_3 : decode cX6_segmentOfPipe 3 = .ok (.invokevirtual 64, 3) := by decide +kernel
theorem dX6_segmentOfPipe_6 : decode cX6_segmentOfPipe 6 = .ok (.ifCond .eq 7, 3) := by decide +kernel
theorem dX6_segmentOfPipe_9 : decode cX6_segmentOfPipe 9 = .ok (.iconst 0, 1) := by decide +kernel
theorem dX6_segmentOfPipe_10 : decode cX6_segmentOfPipe 10 = .ok (.goto 4, 3) := by decide +kernel
theorem dX6_segmentOfPipe_13 : decode cX6_segmentOfPipe 13 = .ok (.iconst 1, 1) := by decide +kernel
theorem dX6_segmentOfPipe_14 : decode cX6_segmentOfPipe 14 = .ok (.invokevirtual 54, 3) := by decide +kernel
theorem dX6_segmentOfPipe_17 : decode cX6_segmentOfPipe 17 = .ok (.ifCond .eq 7, 3) := by decide +kernel
theorem dX6_segmentOfPipe_20 : decode cX6_segmentOfPipe 20 = .ok (.iconst 0, 1) := by decide +kernel
theorem dX6_segmentOfPipe_21 : decode cX6_segmentOfPipe 21 = .ok (.goto 11, 3) := by decide +kernel
theorem dX6_segmentOfPipe_24 : decode cX6_segmentOfPipe 24 = .ok (.aload_n 0, 1) := by decide +kernel
theorem dX6_segmentOfPipe_25 : decode cX6_segmentOfPipe 25 = .ok (.iload_n 1, 1) := by decide +kernel
theorem dX6_segmentOfPipe_26 : decode cX6_segmentOfPipe 26 = .ok (.invokestatic 80, 3) := by decide +kernel
theorem dX6_segmentOfPipe_29 : decode cX6_segmentOfPipe 29 = .ok (.invokevirtual 96, 3) := by decide +kernel
theorem dX6_segmentOfPipe_32 : decode cX6_segmentOfPipe 32 = .ok (.ireturn, 1) := by decide +kernel
set_option maxRecDepth 20000 in
theorem ggX6_segmentByMerging_X6_segmentOfPipe : GoodIn wsX6_segmentByMerging wsX6_segmentOfPipe := goodIn_r _ [5, 6, 7, 8, 4, 9, 10, 11, 12, 13, 14, 15, 16, 17, 18, 19, 20, 21, 22, 23, 24, 25, 26, 27, 28, 29, 30, 31, 32, 33, 34, 35, 36, 37, 38, 39, 40, 41, 42, 43, 44, 45, 46, 47, 48, 49, 50, 51, 52, 53, 54, 55] (by decide +kernel) (by decide +kernel)
set_option maxRecDepth 20000 in
theorem gX6_segmentByMerging_X6_segmentOfPipe : GoodIn wsX6_segmentByMerging (wsV RX6 99 RX6 yX6_segmentOfPipe wsX6_segmentOfPipe) := goodIn_app (goodIn_of _ (by decide +kernel)) ggX6_segmentByMerging_X6_segmentOfPipe
theorem dX6_segmentByMerging_0 : decode cX6_segmentByMerging 0 = .ok (.aload_n 0, 1) := by decide +kernel
theorem dX6_segmentByMerging_1 : decode cX6_segmentByMerging 1 = .ok (.iload_n 1, 1) := by decide +kernel
theorem dX6_segmentByMerging_2 : decode cX6_segmentByMerging 2 = .ok (.invokevirtual 99, 3) := by decide +kernel
theorem dX6_segmentByMerging_5 : decode cX6_segmentByMerging 5 = .ok (.ireturn, 1) := by decide +kernel
set_option maxRecDepth 20000 in
theorem ggX6_ringOf_X6_partOf : GoodIn wsX6_ringOf wsX6_partOf := goodIn_r _ [9] (by decide +kernel) (by decide +kernel)
set_option maxRecDepth 20000 in
theorem gX6_ringOf_X6_partOf : GoodIn wsX6_ringOf (va_wsS RX6 80 yX6_partOf wsX6_partOf) := goodIn_app (goodIn_of _ (by decide +kernel)) ggX6_ringOf_X6_partOf
set_option maxRecDepth 20000 in
theorem ggX6_ringOf_X6_spread : GoodIn wsX6_ringOf wsX6_spread := goodIn_r _ [13, 14, 3, 6, 7, 8, 9, 15, 16, 17, 18, 19, 4, 5, 20, 21, 22, 23, 24, 25, 26, 27, 28, 29, 30, 31, 32, 33, 34, 35, 36] (by decide +kernel) (by decide +kernel)
set_option maxRecDepth 20000 in
theorem gX6_ringOf_X6_spread : GoodIn wsX6_ringOf (wsV RX6 86 RX6 yX6_spread wsX6_spread) := goodIn_app (goodIn_of _ (by decide +kernel)) ggX6_ringOf_X6_spread
theorem dX6_ringOf_0 : decode cX6_ringOf 0 = .ok (.aload_n 0, 1) := by decide +kernel
theorem dX6_ringOf_1 : decode cX6_ringOf 1 = .ok (.iload_n 1, 1) := by decide +kernel
theorem dX6_ringOf_2 : decode cX6_ringOf 2 = .ok (.invokestatic 80, 3) := by decide +kernel
theorem dX6_ringOf_5 : decode cX6_ringOf 5 = .ok (.iconst 2, 1) := by decide +kernel
theorem dX6_ringOf_6 : decode cX6_ringOf 6 = .ok (.iconst 0, 1) := by decide +kernel
theorem dX6_ringOf_7 : decode cX6_ringOf 7 = .ok (.invokevirtual 86, 3) := by decide +kernel
theorem dX6_ringOf_10 : decode cX6_ringOf 10 = .ok (.istore_n 2, 1) := by decide +kernel
theorem dX6_ringOf_11 : decode cX6_ringOf 11 = .ok (.iconst 0, 1) := by decide +kernel
theorem dX6_ringOf_12 : decode cX6_ringOf 12 = .ok (.istore_n 3, 1) := by decide +kernel
theorem dX6_ringOf_13 : decode cX6_ringOf 13 = .ok (.iconst 0, 1) := by decide +kernel
theorem dX6_ringOf_14 : decode cX6_ringOf 14 = .ok (.istore 4, 2) := by decide +kernel
theorem dX6_ringOf_16 : decode cX6_ringOf 16 = .ok (.iload 4, 2) := by decide +kernel
theorem dX6_ringOf_18 : decode cX6_ringOf 18 = .ok (.aload_n 0, 1) := by decide +kernel
theorem dX6_ringOf_19 : decode cX6_ringOf 19 = .ok (.getfield 51, 3) := by decide +kernel
theorem dX6_ringOf_22 : decode cX6_ringOf 22 = .ok (.if_icmp .ge 105, 3) := by decide +kernel
theorem dX6_ringOf_25 : decode cX6_ringOf 25 = .ok (.aload_n 0, 1) := by decide +kernel
theorem dX6_ringOf_26 : decode cX6_ringOf 26 = .ok (.getfield 22, 3) := by decide +kernel
theorem dX6_ringOf_29 : decode cX6_ringOf 29 = .ok (.iload 4, 2) := by decide +kernel
theorem dX6_ringOf_31 : decode cX6_ringOf 31 = .ok (.iaload, 1) := by decide +kernel
theorem dX6_ringOf_32 : decode cX6_ringOf 32 = .ok (.istore 5, 2) := by decide +kernel
theorem dX6_ringOf_34 : decode cX6_ringOf 34 = .ok (.iload_n 2, 1) := by decide +kernel
theorem dX6_ringOf_35 : decode cX6_ringOf 35 = .ok (.iload 5, 2) := by decide +kernel
theorem dX6_ringOf_37 : decode cX6_ringOf 37 = .ok (.iconst 2, 1) := by decide +kernel
theorem dX6_ringOf_38 : decode cX6_ringOf 38 = .ok (.idiv, 1) := by decide +kernel
theorem dX6_ringOf_39 : decode cX6_ringOf 39 = .ok (.invokestatic 80, 3) := by decide +kernel
theorem dX6_ringOf_42 : decode cX6_ringOf 42 = .ok (.iand, 1) := by decide +kernel
theorem dX6_ringOf_43 : decode cX6_ringOf 43 = .ok (.ifCond .eq 7, 3) := by decide +kernel
theorem dX6_ringOf_46 : decode cX6_ringOf 46 = .ok (.iconst 1, 1) := by decide +kernel
theorem dX6_ringOf_47 : decode cX6_ringOf 47 = .ok (.goto 4, 3) := by decide +kernel
theorem dX6_ringOf_50 : decode cX6_ringOf 50 = .ok (.iconst 0, 1) := by decide +kernel
theorem dX6_ringOf_51 : decode cX6_ringOf 51 = .ok (.istore 6, 2) := by decide +kernel
theorem dX6_ringOf_53 : decode cX6_ringOf 53 = .ok (.iload_n 2, 1) := by decide +kernel
theorem dX6_ringOf_54 : decode cX6_ringOf 54 = .ok (.iconst 1, 1) := by decide +kernel
theorem dX6_ringOf_55 : decode cX6_ringOf 55 = .ok (.aload_n 0, 1) := by decide +kernel
theorem dX6_ringOf_56 : decode cX6_ringOf 56 = .ok (.getfield 7, 3) := by decide +kernel
theorem dX6_ringOf_59 : decode cX6_ringOf 59 = .ok (.iload 5, 2) := by decide +kernel
theorem dX6_ringOf_61 : decode cX6_ringOf 61 = .ok (.iaload, 1) := by decide +kernel
theorem dX6_ringOf_62 : decode cX6_ringOf 62 = .ok (.ishl, 1) := by decide +kernel
theorem dX6_ringOf_63 : decode cX6_ringOf 63 = .ok (.iand, 1) := by decide +kernel
theorem dX6_ringOf_64 : decode cX6_ringOf 64 = .ok (.ifCond .eq 7, 3) := by decide +kernel
theorem dX6_ringOf_67 : decode cX6_ringOf 67 = .ok (.iconst 1, 1) := by decide +kernel
theorem dX6_ringOf_68 : decode cX6_ringOf 68 = .ok (.goto 4, 3) := by decide +kernel
theorem dX6_ringOf_71 : decode cX6_ringOf 71 = .ok (.iconst 0, 1) := by decide +kernel
theorem dX6_ringOf_72 : decode cX6_ringOf 72 = .ok (.istore 7, 2) := by decide +kernel
theorem dX6_ringOf_74 : decode cX6_ringOf 74 = .ok (.aload_n 0, 1) := by decide +kernel
theorem dX6_ringOf_75 : decode cX6_ringOf 75 = .ok (.getfield 73, 3) := by decide +kernel
theorem dX6_ringOf_78 : decode cX6_ringOf 78 = .ok (.aload_n 0, 1) := by decide +kernel
theorem dX6_ringOf_79 : decode cX6_ringOf 79 = .ok (.getfield 70, 3) := by decide +kernel
theorem dX6_ringOf_82 : decode cX6_ringOf 82 = .ok (.ior, 1) := by decide +kernel
theorem dX6_ringOf_83 : decode cX6_ringOf 83 = .ok (.iload 4, 2) := by decide +kernel
theorem dX6_ringOf_85 : decode cX6_ringOf 85 = .ok (.ishr, 1) := by decide +kernel
theorem dX6_ringOf_86 : decode cX6_ringOf 86 = .ok (.iconst 1, 1) := by decide +kernel
theorem dX6_ringOf_87 : decode cX6_ringOf 87 = .ok (.iand, 1) := by decide +kernel
theorem dX6_ringOf_88 : decode cX6_ringOf 88 = .ok (.ifCond .ne 7, 3) := by decide +kernel
theorem dX6_ringOf_91 : decode cX6_ringOf 91 = .ok (.iconst 1, 1) := by decide +kernel
theorem dX6_ringOf_92 : decode cX6_ringOf 92 = .ok (.goto 4, 3) := by decide +kernel
theorem dX6_ringOf_95 : decode cX6_ringOf 95 = .ok (.iconst 0, 1) := by decide +kernel
theorem dX6_ringOf_96 : decode cX6_ringOf 96 = .ok (.istore 8, 2) := by decide +kernel
theorem dX6_ringOf_98 : decode cX6_ringOf 98 = .ok (.iload_n 3, 1) := by decide +kernel
theorem dX6_ringOf_99 : decode cX6_ringOf 99 = .ok (.iload 8, 2) := by decide +kernel
theorem dX6_ringOf_101 : decode cX6_ringOf 101 = .ok (.ifCond .eq 17, 3) := by decide +kernel
theorem dX6_ringOf_104 : decode cX6_ringOf 104 = .ok (.iload 6, 2) := by decide +kernel
theorem dX6_ringOf_106 : decode cX6_ringOf 106 = .ok (.iload 7, 2) := by decide +kernel
theorem dX6_ringOf_108 : decode cX6_ringOf 108 = .ok (.if_icmp .eq 10, 3) := by decide +kernel
theorem dX6_ringOf_111 : decode cX6_ringOf 111 = .ok (.iconst 1, 1) := by decide +kernel
theorem dX6_ringOf_112 : decode cX6_ringOf 112 = .ok (.iload 4, 2) := by decide +kernel
theorem dX6_ringOf_114 : decode cX6_ringOf 114 = .ok (.ishl, 1) := by decide +kernel
theorem dX6_ringOf_115 : decode cX6_ringOf 115 = .ok (.goto 4, 3) := by decide +kernel
theorem dX6_ringOf_118 : decode cX6_ringOf 118 = .ok (.iconst 0, 1) := by decide +kernel
theorem dX6_ringOf_119 : decode cX6_ringOf 119 = .ok (.ior, 1) := by decide +kernel
theorem dX6_ringOf_120 : decode cX6_ringOf 120 = .ok (.istore_n 3, 1) := by decide +kernel
theorem dX6_ringOf_121 : decode cX6_ringOf 121 = .ok (.iinc 4 1, 3) := by decide +kernel
theorem dX6_ringOf_124 : decode cX6_ringOf 124 = .ok (.goto (-108), 3) := by decide +kernel
theorem dX6_ringOf_127 : decode cX6_ringOf 127 = .ok (.iload_n 3, 1) := by decide +kernel
theorem dX6_ringOf_128 : decode cX6_ringOf 128 = .ok (.ireturn, 1) := by decide +kernel
set_option maxRecDepth 20000 in
theorem ggX6_noRing_X6_isPipe : GoodIn wsX6_noRing wsX6_isPipe := goodIn_r _ [6, 7, 8, 9, 5, 10, 31, 32, 33, 34, 35, 36, 37, 38, 39, 40, 41, 42, 43, 44, 45, 46, 47] (by decide +kernel) (by decide +kernel)
set_option maxRecDepth 20000 in
theorem gX6_noRing_X6_isPipe : GoodIn wsX6_noRing (wsV RX6 64 RX6 yX6_isPipe wsX6_isPipe) := goodIn_app (goodIn_of _ (by decide +kernel)) ggX6_noRing_X6_isPipe
set_option maxRecDepth 20000 in
theorem ggX6_noRing_X6_partOf : GoodIn wsX6_noRing wsX6_partOf := goodIn_r _ [13] (by decide +kernel) (by decide +kernel)
set_option maxRecDepth 20000 in
theorem gX6_noRing_X6_partOf : GoodIn wsX6_noRing (va_wsS RX6 80 yX6_partOf wsX6_partOf) := goodIn_app (goodIn_of _ (by decide +kernel)) ggX6_noRing_X6_partOf
set_option maxRecDepth 20000 in
theorem ggX6_noRing_X6_spread : GoodIn wsX6_noRing wsX6_spread := goodIn_r _ [17, 7, 18, 11, 12, 5, 13, 19, 20, 21, 22, 23, 24, 25, 31, 32, 33, 34, 35, 36, 37, 38, 39, 40, 41, 42, 43, 44, 45, 46, 47] (by decide +kernel) (by decide +kernel)
set_option maxRecDepth 20000 in
theorem gX6_noRing_X6_spread : GoodIn wsX6_noRing (wsV RX6 86 RX6 yX6_spread wsX6_spread) := goodIn_app (goodIn_of _ (by decide +kernel)) ggX6_noRing_X6_spread
set_option maxRecDepth 20000 in
theorem ggX6_noRing_X6_refused : GoodIn wsX6_noRing wsX6_refused := goodIn_r _ [29, 30, 31, 32, 33, 34, 35, 36, 37, 38, 39, 40, 41, 42, 43, 44, 45, 46, 47] (by decide +kernel) (by decide +kernel)
set_option maxRecDepth 20000 in
theorem gX6_noRing_X6_refused : GoodIn wsX6_noRing (wsV RX6 54 RX6 yX6_refused wsX6_refused) := goodIn_app (goodIn_of _ (by decide +kernel)) ggX6_noRing_X6_refused
theorem dX6_noRing_0 : decode cX6_noRing 0 = .ok (.aload_n 0, 1) := by decide +kernel
theorem dX6_noRing_1 : decode cX6_noRing 1 = .ok (.aload_n 0, 1) := by decide +kernel
theorem dX6_noRing_2 : decode cX6_noRing 2 = .ok (.iload_n 1, 1) := by decide +kernel
theorem dX6_noRing_3 : decode cX6_noRing 3 = .ok (.invokevirtual 64, 3) := by decide +kernel
theorem dX6_noRing_6 : decode cX6_noRing 6 = .ok (.ifCond .ne 7, 3) := by decide +kernel
theorem dX6_noRing_9 : decode cX6_noRing 9 = .ok (.iconst 1, 1) := by decide +kernel
theorem dX6_noRing_10 : decode cX6_noRing 10 = .ok (.goto 26, 3) := by decide +kernel
theorem dX6_noRing_13 : decode cX6_noRing 13 = .ok (.aload_n 0, 1) := by decide +kernel
theorem dX6_noRing_14 : decode cX6_noRing 14 = .ok (.iload_n 1, 1) := by decide +kernel
theorem dX6_noRing_15 : decode cX6_noRing 15 = .ok (.invokestatic 80, 3) := by decide +kernel
theorem dX6_noRing_18 : decode cX6_noRing 18 = .ok (.iconst 2, 1) := by decide +kernel
theorem dX6_noRing_19 : decode cX6_noRing 19 = .ok (.iconst 0, 1) := by decide +kernel
theorem dX6_noRing_20 : decode cX6_noRing 20 = .ok (.invokevirtual 86, 3) := by decide +kernel
theorem dX6_noRing_23 : decode cX6_noRing 23 = .ok (.aload_n 0, 1) := by decide +kernel
theorem dX6_noRing_24 : decode cX6_noRing 24 = .ok (.getfield 58, 3) := by decide +kernel
theorem dX6_noRing_27 : decode cX6_noRing 27 = .ok (.iand, 1) := by decide +kernel
theorem dX6_noRing_28 : decode cX6_noRing 28 = .ok (.ifCond .eq 7, 3) := by decide +kernel
theorem dX6_noRing_31 : decode cX6_noRing 31 = .ok (.iconst 2, 1) := by decide +kernel
theorem dX6_noRing_32 : decode cX6_noRing 32 = .ok (.goto 4, 3) := by decide +kernel
theorem dX6_noRing_35 : decode cX6_noRing 35 = .ok (.iconst 0, 1) := by decide +kernel
theorem dX6_noRing_36 : decode cX6_noRing 36 = .ok (.invokevirtual 54, 3) := by decide +kernel
theorem dX6_noRing_39 : decode cX6_noRing 39 = .ok (.ireturn, 1) := by decide +kernel
set_option maxRecDepth 20000 in
theorem ggX6_ring_X6_noRing : GoodIn wsX6_ring wsX6_noRing := goodIn_r _ [5, 6, 7, 8, 9, 4, 10, 11, 12, 13, 14, 15, 16, 17, 18, 19, 20, 21, 22, 23, 24, 25, 26, 27, 28, 29, 30, 31, 32, 33, 34, 41, 42, 43, 44, 45, 46, 47, 48, 49, 50, 51, 52, 53, 54, 55, 56, 57] (by decide +kernel) (by decide +kernel)
set_option maxRecDepth 20000 in
theorem gX6_ring_X6_noRing : GoodIn wsX6_ring (wsV RX6 102 RX6 yX6_noRing wsX6_noRing) := goodIn_app (goodIn_of _ (by decide +kernel)) ggX6_ring_X6_noRing
set_option maxRecDepth 20000 in
theorem ggX6_ring_X6_ringOf : GoodIn wsX6_ring wsX6_ringOf := goodIn_r _ [38, 39, 40, 22, 28, 29, 15, 16, 4, 17, 18, 19, 20, 21, 11, 23, 24, 25, 26, 27, 41, 42, 43, 44, 45, 46, 47, 48, 49, 50, 51, 52, 53, 54, 55, 56, 57] (by decide +kernel) (by decide +kernel)
set_option maxRecDepth 20000 in
theorem gX6_ring_X6_ringOf : GoodIn wsX6_ring (wsV RX6 105 RX6 yX6_ringOf wsX6_ringOf) := goodIn_app (goodIn_of _ (by decide +kernel)) ggX6_ring_X6_ringOf
theorem dX6_ring_0 : decode cX6_ring 0 = .ok (.aload_n 0, 1) := by decide +kernel
theorem dX6_ring_1 : decode cX6_ring 1 = .ok (.iload_n 1, 1) := by decide +kernel
theorem dX6_ring_2 : decode cX6_ring 2 = .ok (.invokevirtual 102, 3) := by decide +kernel
theorem dX6_ring_5 : decode cX6_ring 5 = .ok (.ifCond .eq 7, 3) := by decide +kernel
theorem dX6_ring_8 : decode cX6_ring 8 = .ok (.iconst 0, 1) := by decide +kernel
theorem dX6_ring_9 : decode cX6_ring 9 = .ok (.goto 8, 3) := by decide +kernel
theorem dX6_ring_12 : decode cX6_ring 12 = .ok (.aload_n 0, 1) := by decide +kernel
theorem dX6_ring_13 : decode cX6_ring 13 = .ok (.iload_n 1, 1) := by decide +kernel
theorem dX6_ring_14 : decode cX6_ring 14 = .ok (.invokevirtual 105, 3) := by decide +kernel
theorem dX6_ring_17 : decode cX6_ring 17 = .ok (.ireturn, 1) := by decide +kernel
set_option maxRecDepth 20000 in
theorem ggX6_cutOff_X6_noRing : GoodIn wsX6_cutOff wsX6_noRing := goodIn_r _ [5, 6, 7, 8, 9, 4, 10, 11, 12, 13, 14, 15, 16, 17, 18, 19, 20, 21, 22, 23, 24, 25, 26, 27, 28, 29, 30, 31, 32, 33, 34, 50, 51, 52, 53, 54, 55, 56, 57, 58, 59, 60, 61, 62, 63, 64, 65, 66] (by decide +kernel) (by decide +kernel)
set_option maxRecDepth 20000 in
theorem gX6_cutOff_X6_noRing : GoodIn wsX6_cutOff (wsV RX6 102 RX6 yX6_noRing wsX6_noRing) := goodIn_app (goodIn_of _ (by decide +kernel)) ggX6_cutOff_X6_noRing
set_option maxRecDepth 20000 in
theorem ggX6_cutOff_X6_wet : GoodIn wsX6_cutOff wsX6_wet := goodIn_r _ [38, 6, 18, 19, 20, 4, 21, 11, 22, 15, 16, 17, 23, 24, 25, 26, 27, 28, 29, 50, 51, 52, 53, 54, 55, 56, 57, 58, 59, 60, 61, 62, 63, 64, 65, 66] (by decide +kernel) (by decide +kernel)
set_option maxRecDepth 20000 in
theorem gX6_cutOff_X6_wet : GoodIn wsX6_cutOff (wsV RX6 90 RX6 yX6_wet wsX6_wet) := goodIn_app (goodIn_of _ (by decide +kernel)) ggX6_cutOff_X6_wet
set_option maxRecDepth 20000 in
theorem ggX6_cutOff_X6_supply : GoodIn wsX6_cutOff wsX6_supply := goodIn_r _ [42, 11, 43, 15, 16, 4, 17, 50, 51, 52, 53, 54, 55, 56, 57, 58, 59, 60, 61, 62, 63, 64, 65, 66] (by decide +kernel) (by decide +kernel)
set_option maxRecDepth 20000 in
theorem gX6_cutOff_X6_supply : GoodIn wsX6_cutOff (wsV RX6 93 RX6 yX6_supply wsX6_supply) := goodIn_app (goodIn_of _ (by decide +kernel)) ggX6_cutOff_X6_supply
set_option maxRecDepth 20000 in
theorem ggX6_cutOff_X6_ringOf : GoodIn wsX6_cutOff wsX6_ringOf := goodIn_r _ [47, 48, 49, 22, 28, 29, 15, 16, 4, 17, 18, 19, 20, 21, 11, 23, 24, 25, 26, 27, 50, 51, 52, 53, 54, 55, 56, 57, 58, 59, 60, 61, 62, 63, 64, 65, 66] (by decide +kernel) (by decide +kernel)
set_option maxRecDepth 20000 in
theorem gX6_cutOff_X6_ringOf : GoodIn wsX6_cutOff (wsV RX6 105 RX6 yX6_ringOf wsX6_ringOf) := goodIn_app (goodIn_of _ (by decide +kernel)) ggX6_cutOff_X6_ringOf
theorem dX6_cutOff_0 : decode cX6_cutOff 0 = .ok (.aload_n 0, 1) := by decide +kernel
theorem dX6_cutOff_1 : decode cX6_cutOff 1 = .ok (.iload_n 1, 1) := by decide +kernel
theorem dX6_cutOff_2 : decode cX6_cutOff 2 = .ok (.invokevirtual 102, 3) := by decide +kernel
theorem dX6_cutOff_5 : decode cX6_cutOff 5 = .ok (.ifCond .eq 7, 3) := by decide +kernel
theorem dX6_cutOff_8 : decode cX6_cutOff 8 = .ok (.iconst 0, 1) := by decide +kernel
theorem dX6_cutOff_9 : decode cX6_cutOff 9 = .ok (.goto 26, 3) := by decide +kernel
theorem dX6_cutOff_12 : decode cX6_cutOff 12 = .ok (.aload_n 0, 1) := by decide +kernel
theorem dX6_cutOff_13 : decode cX6_cutOff 13 = .ok (.aload_n 0, 1) := by decide +kernel
theorem dX6_cutOff_14 : decode cX6_cutOff 14 = .ok (.iconst 0, 1) := by decide +kernel
theorem dX6_cutOff_15 : decode cX6_cutOff 15 = .ok (.invokevirtual 90, 3) := by decide +kernel
theorem dX6_cutOff_18 : decode cX6_cutOff 18 = .ok (.invokevirtual 93, 3) := by decide +kernel
theorem dX6_cutOff_21 : decode cX6_cutOff 21 = .ok (.aload_n 0, 1) := by decide +kernel
theorem dX6_cutOff_22 : decode cX6_cutOff 22 = .ok (.aload_n 0, 1) := by decide +kernel
theorem dX6_cutOff_23 : decode cX6_cutOff 23 = .ok (.aload_n 0, 1) := by decide +kernel
theorem dX6_cutOff_24 : decode cX6_cutOff 24 = .ok (.iload_n 1, 1) := by decide +kernel
theorem dX6_cutOff_25 : decode cX6_cutOff 25 = .ok (.invokevirtual 105, 3) := by decide +kernel
theorem dX6_cutOff_28 : decode cX6_cutOff 28 = .ok (.invokevirtual 90, 3) := by decide +kernel
theorem dX6_cutOff_31 : decode cX6_cutOff 31 = .ok (.invokevirtual 93, 3) := by decide +kernel
theorem dX6_cutOff_34 : decode cX6_cutOff 34 = .ok (.isub, 1) := by decide +kernel
theorem dX6_cutOff_35 : decode cX6_cutOff 35 = .ok (.ireturn, 1) := by decide +kernel
set_option maxRecDepth 20000 in
theorem ggX6_least_X6_bits : GoodIn wsX6_least wsX6_bits := goodIn_r _ [7] (by decide +kernel) (by decide +kernel)
set_option maxRecDepth 20000 in
theorem gX6_least_X6_bits : GoodIn wsX6_least (va_wsS RX6 108 yX6_bits wsX6_bits) := goodIn_app (goodIn_of _ (by decide +kernel)) ggX6_least_X6_bits
set_option maxRecDepth 20000 in
theorem ggX6_least_X6_wet : GoodIn wsX6_least wsX6_wet := goodIn_r _ [11, 12, 13, 14, 15, 6, 16, 17, 18, 19, 20, 21, 22, 23, 24, 25, 26, 2, 3, 27, 28, 29, 30, 31, 32, 33, 34, 35, 36, 37, 38, 39, 40, 41, 42, 43] (by decide +kernel) (by decide +kernel)
set_option maxRecDepth 20000 in
theorem gX6_least_X6_wet : GoodIn wsX6_least (wsV RX6 90 RX6 yX6_wet wsX6_wet) := goodIn_app (goodIn_of _ (by decide +kernel)) ggX6_least_X6_wet
set_option maxRecDepth 20000 in
theorem ggX6_least_X6_partOf : GoodIn wsX6_least wsX6_partOf := goodIn_r _ [21] (by decide +kernel) (by decide +kernel)
set_option maxRecDepth 20000 in
theorem gX6_least_X6_partOf : GoodIn wsX6_least (va_wsS RX6 80 yX6_partOf wsX6_partOf) := goodIn_app (goodIn_of _ (by decide +kernel)) ggX6_least_X6_partOf
theorem dX6_least_0 : decode cX6_least 0 = .ok (.iconst (-1), 1) := by decide +kernel
theorem dX6_least_1 : decode cX6_least 1 = .ok (.istore_n 2, 1) := by decide +kernel
theorem dX6_least_2 : decode cX6_least 2 = .ok (.iconst 0, 1) := by decide +kernel
theorem dX6_least_3 : decode cX6_least 3 = .ok (.istore_n 3, 1) := by decide +kernel
theorem dX6_least_4 : decode cX6_least 4 = .ok (.iload_n 3, 1) := by decide +kernel
theorem dX6_least_5 : decode cX6_least 5 = .ok (.iconst 1, 1) := by decide +kernel
theorem dX6_least_6 : decode cX6_least 6 = .ok (.aload_n 0, 1) := by decide +kernel
theorem dX6_least_7 : decode cX6_least 7 = .ok (.getfield 51, 3) := by decide +kernel
theorem dX6_least_10 : decode cX6_least 10 = .ok (.ishl, 1) := by decide +kernel
theorem dX6_least_11 : decode cX6_least 11 = .ok (.if_icmp .ge 66, 3) := by decide +kernel
theorem dX6_least_14 : decode cX6_least 14 = .ok (.iload_n 3, 1) := by decide +kernel
theorem dX6_least_15 : decode cX6_least 15 = .ok (.aload_n 0, 1) := by decide +kernel
theorem dX6_least_16 : decode cX6_least 16 = .ok (.getfield 73, 3) := by decide +kernel
theorem dX6_least_19 : decode cX6_least 19 = .ok (.aload_n 0, 1) := by decide +kernel
theorem dX6_least_20 : decode cX6_least 20 = .ok (.getfield 70, 3) := by decide +kernel
theorem dX6_least_23 : decode cX6_least 23 = .ok (.ior, 1) := by decide +kernel
theorem dX6_least_24 : decode cX6_least 24 = .ok (.iand, 1) := by decide +kernel
theorem dX6_least_25 : decode cX6_least 25 = .ok (.ifCond .ne 7, 3) := by decide +kernel
theorem dX6_least_28 : decode cX6_least 28 = .ok (.iconst 1, 1) := by decide +kernel
theorem dX6_least_29 : decode cX6_least 29 = .ok (.goto 4, 3) := by decide +kernel
theorem dX6_least_32 : decode cX6_least 32 = .ok (.iconst 0, 1) := by decide +kernel
theorem dX6_least_33 : decode cX6_least 33 = .ok (.istore 4, 2) := by decide +kernel
theorem dX6_least_35 : decode cX6_least 35 = .ok (.iload 4, 2) := by decide +kernel
theorem dX6_least_37 : decode cX6_least 37 = .ok (.ifCond .eq 34, 3) := by decide +kernel
theorem dX6_least_40 : decode cX6_least 40 = .ok (.iload_n 2, 1) := by decide +kernel
theorem dX6_least_41 : decode cX6_least 41 = .ok (.iconst (-1), 1) := by decide +kernel
theorem dX6_least_42 : decode cX6_least 42 = .ok (.if_icmp .eq 14, 3) := by decide +kernel
theorem dX6_least_45 : decode cX6_least 45 = .ok (.iload_n 3, 1) := by decide +kernel
theorem dX6_least_46 : decode cX6_least 46 = .ok (.invokestatic 108, 3) := by decide +kernel
theorem dX6_least_49 : decode cX6_least 49 = .ok (.iload_n 2, 1) := by decide +kernel
theorem dX6_least_50 : decode cX6_least 50 = .ok (.invokestatic 108, 3) := by decide +kernel
theorem dX6_least_53 : decode cX6_least 53 = .ok (.if_icmp .ge 18, 3) := by decide +kernel
theorem dX6_least_56 : decode cX6_least 56 = .ok (.aload_n 0, 1) := by decide +kernel
theorem dX6_least_57 : decode cX6_least 57 = .ok (.iload_n 3, 1) := by decide +kernel
theorem dX6_least_58 : decode cX6_least 58 = .ok (.invokevirtual 90, 3) := by decide +kernel
theorem dX6_least_61 : decode cX6_least 61 = .ok (.iload_n 1, 1) := by decide +kernel
theorem dX6_least_62 : decode cX6_least 62 = .ok (.invokestatic 80, 3) := by decide +kernel
theorem dX6_least_65 : decode cX6_least 65 = .ok (.iand, 1) := by decide +kernel
theorem dX6_least_66 : decode cX6_least 66 = .ok (.ifCond .ne 5, 3) := by decide +kernel
theorem dX6_least_69 : decode cX6_least 69 = .ok (.iload_n 3, 1) := by decide +kernel
theorem dX6_least_70 : decode cX6_least 70 = .ok (.istore_n 2, 1) := by decide +kernel
theorem dX6_least_71 : decode cX6_least 71 = .ok (.iinc 3 1, 3) := by decide +kernel
theorem dX6_least_74 : decode cX6_least 74 = .ok (.goto (-70), 3) := by decide +kernel
theorem dX6_least_77 : decode cX6_least 77 = .ok (.iload_n 2, 1) := by decide +kernel
theorem dX6_least_78 : decode cX6_least 78 = .ok (.ireturn, 1) := by decide +kernel
set_option maxRecDepth 20000 in
theorem ggX6_fewest_X6_isPipe : GoodIn wsX6_fewest wsX6_isPipe := goodIn_r _ [5, 6, 7, 8, 4, 9, 43, 44, 45, 46, 47, 48, 49, 50, 51, 52, 53, 54, 55, 56, 57, 58, 59] (by decide +kernel) (by decide +kernel)
set_option maxRecDepth 20000 in
theorem gX6_fewest_X6_isPipe : GoodIn wsX6_fewest (wsV RX6 64 RX6 yX6_isPipe wsX6_isPipe) := goodIn_app (goodIn_of _ (by decide +kernel)) ggX6_fewest_X6_isPipe
set_option maxRecDepth 20000 in
theorem ggX6_fewest_X6_refused : GoodIn wsX6_fewest wsX6_refused := goodIn_r _ [13, 14, 43, 44, 45, 46, 47, 48, 49, 50, 51, 52, 53, 54, 55, 56, 57, 58, 59] (by decide +kernel) (by decide +kernel)
set_option maxRecDepth 20000 in
theorem gX6_fewest_X6_refused : GoodIn wsX6_fewest (wsV RX6 54 RX6 yX6_refused wsX6_refused) := goodIn_app (goodIn_of _ (by decide +kernel)) ggX6_fewest_X6_refused
set_option maxRecDepth 20000 in
theorem ggX6_fewest_X6_least : GoodIn wsX6_fewest wsX6_least := goodIn_r _ [18, 19, 20, 21, 22, 23, 4, 24, 25, 26, 27, 28, 29, 30, 31, 32, 33, 6, 34, 35, 36, 37, 38, 39, 40, 41, 42, 43, 44, 45, 46, 47, 48, 49, 50, 51, 52, 53, 54, 55, 56, 57, 58, 59] (by decide +kernel) (by decide +kernel)
set_option maxRecDepth 20000 in
theorem gX6_fewest_X6_least : GoodIn wsX6_fewest (wsV RX6 111 RX6 yX6_least wsX6_least) := goodIn_app (goodIn_of _ (by decide +kernel)) ggX6_fewest_X6_least
set_option maxRecDepth 20000 in
theorem ggX6_fewest_X6_bits : GoodIn wsX6_fewest wsX6_bits := goodIn_r _ [24] (by decide +kernel) (by decide +kernel)
set_option maxRecDepth 20000 in
theorem gX6_fewest_X6_bits : GoodIn wsX6_fewest (va_wsS RX6 108 yX6_bits wsX6_bits) := goodIn_app (goodIn_of _ (by decide +kernel)) ggX6_fewest_X6_bits
theorem dX6_fewest_0 : decode cX6_fewest 0 = .ok (.aload_n 0, 1) := by decide +kernel
theorem dX6_fewest_1 : decode cX6_fewest 1 = .ok (.aload_n 0, 1) := by decide +kernel
theorem dX6_fewest_2 : decode cX6_fewest 2 = .ok (.iload_n 1, 1) := by decide +kernel
theorem dX6_fewest_3 : decode cX6_fewest 3 = .ok (.invokevirtual 64, 3) := by decide +kernel
theorem dX6_fewest_6 : decode cX6_fewest 6 = .ok (.ifCond .eq 7, 3) := by decide +kernel
theorem dX6_fewest_9 : decode cX6_fewest 9 = .ok (.iconst 0, 1) := by decide +kernel
theorem dX6_fewest_10 : decode cX6_fewest 10 = .ok (.goto 4, 3) := by decide +kernel
theorem dX6_fewest_13 : decode cX6_fewest 13 = .ok (.iconst 1, 1) := by decide +kernel
theorem dX6_fewest_14 : decode cX6_fewest 14 = .ok (.invokevirtual 54, 3) := by decide +kernel
theorem dX6_fewest_17 : decode cX6_fewest 17 = .ok (.ifCond .eq 5, 3) := by decide +kernel
theorem dX6_fewest_20 : decode cX6_fewest 20 = .ok (.iconst 0, 1) := by decide +kernel
theorem dX6_fewest_21 : decode cX6_fewest 21 = .ok (.ireturn, 1) := by decide +kernel
theorem dX6_fewest_22 : decode cX6_fewest 22 = .ok (.aload_n 0, 1) := by decide +kernel
theorem dX6_fewest_23 : decode cX6_fewest 23 = .ok (.iload_n 1, 1) := by decide +kernel
theorem dX6_fewest_24 : decode cX6_fewest 24 = .ok (.invokevirtual 111, 3) := by decide +kernel
theorem dX6_fewest_27 : decode cX6_fewest 27 = .ok (.istore_n 2, 1) := by decide +kernel
theorem dX6_fewest_28 : decode cX6_fewest 28 = .ok (.iload_n 2, 1) := by decide +kernel
theorem dX6_fewest_29 : decode cX6_fewest 29 = .ok (.iconst (-1), 1) := by decide +kernel
theorem dX6_fewest_30 : decode cX6_fewest 30 = .ok (.if_icmp .ne 7, 3) := by decide +kernel
theorem dX6_fewest_33 : decode cX6_fewest 33 = .ok (.iconst (-1), 1) := by decide +kernel
theorem dX6_fewest_34 : decode cX6_fewest 34 = .ok (.goto 7, 3) := by decide +kernel
theorem dX6_fewest_37 : decode cX6_fewest 37 = .ok (.iload_n 2, 1) := by decide +kernel
theorem dX6_fewest_38 : decode cX6_fewest 38 = .ok (.invokestatic 108, 3) := by decide +kernel
theorem dX6_fewest_41 : decode cX6_fewest 41 = .ok (.ireturn, 1) := by decide +kernel
set_option maxRecDepth 20000 in
theorem ggX6_fewestByTrying_X6_isPipe : GoodIn wsX6_fewestByTrying wsX6_isPipe := goodIn_r _ [5, 6, 7, 8, 4, 9, 43, 44, 45, 46, 47, 48, 49, 50, 51, 52, 53, 54, 55, 56, 57, 58, 59] (by decide +kernel) (by decide +kernel)
set_option maxRecDepth 20000 in
theorem gX6_fewestByTrying_X6_isPipe : GoodIn wsX6_fewestByTrying (wsV RX6 64 RX6 yX6_isPipe wsX6_isPipe) := goodIn_app (goodIn_of _ (by decide +kernel)) ggX6_fewestByTrying_X6_isPipe
set_option maxRecDepth 20000 in
theorem ggX6_fewestByTrying_X6_refused : GoodIn wsX6_fewestByTrying wsX6_refused := goodIn_r _ [13, 14, 43, 44, 45, 46, 47, 48, 49, 50, 51, 52, 53, 54, 55, 56, 57, 58, 59] (by decide +kernel) (by decide +kernel)
set_option maxRecDepth 20000 in
theorem gX6_fewestByTrying_X6_refused : GoodIn wsX6_fewestByTrying (wsV RX6 54 RX6 yX6_refused wsX6_refused) := goodIn_app (goodIn_of _ (by decide +kernel)) ggX6_fewestByTrying_X6_refused
set_option maxRecDepth 20000 in
theorem ggX6_fewestByTrying_X6_least : GoodIn wsX6_fewestByTrying wsX6_least := goodIn_r _ [18, 19, 20, 21, 22, 23, 4, 24, 25, 26, 27, 28, 29, 30, 31, 32, 33, 6, 34, 35, 36, 37, 38, 39, 40, 41, 42, 43, 44, 45, 46, 47, 48, 49, 50, 51, 52, 53, 54, 55, 56, 57, 58, 59] (by decide +kernel) (by decide +kernel)
set_option maxRecDepth 20000 in
theorem gX6_fewestByTrying_X6_least : GoodIn wsX6_fewestByTrying (wsV RX6 111 RX6 yX6_least wsX6_least) := goodIn_app (goodIn_of _ (by decide +kernel)) ggX6_fewestByTrying_X6_least
theorem dX6_fewestByTrying_0 : decode cX6_fewestByTrying 0 = .ok (.aload_n 0, 1) := by decide +kernel
theorem dX6_fewestByTrying_1 : decode cX6_fewestByTrying 1 = .ok (.aload_n 0, 1) := by decide +kernel
theorem dX6_fewestByTrying_2 : decode cX6_fewestByTrying 2 = .ok (.iload_n 1, 1) := by decide +kernel
theorem dX6_fewestByTrying_3 : decode cX6_fewestByTrying 3 = .ok (.invokevirtual 64, 3) := by decide +kernel
theorem dX6_fewestByTrying_6 : decode cX6_fewestByTrying 6 = .ok (.ifCond .eq 7, 3) := by decide +kernel
theorem dX6_fewestByTrying_9 : decode cX6_fewestByTrying 9 = .ok (.iconst 0, 1) := by decide +kernel
theorem dX6_fewestByTrying_10 : decode cX6_fewestByTrying 10 = .ok (.goto 4, 3) := by decide +kernel
theorem dX6_fewestByTrying_13 : decode cX6_fewestByTrying 13 = .ok (.iconst 1, 1) := by decide +kernel
theorem dX6_fewestByTrying_14 : decode cX6_fewestByTrying 14 = .ok (.invokevirtual 54, 3) := by decide +kernel
theorem dX6_fewestByTrying_17 : decode cX6_fewestByTrying 17 = .ok (.ifCond .eq 7, 3) := by decide +kernel
theorem dX6_fewestByTrying_20 : decode cX6_fewestByTrying 20 = .ok (.iconst 0, 1) := by decide +kernel
theorem dX6_fewestByTrying_21 : decode cX6_fewestByTrying 21 = .ok (.goto 8, 3) := by decide +kernel
theorem dX6_fewestByTrying_24 : decode cX6_fewestByTrying 24 = .ok (.aload_n 0, 1) := by decide +kernel
theorem dX6_fewestByTrying_25 : decode cX6_fewestByTrying 25 = .ok (.iload_n 1, 1) := by decide +kernel
theorem dX6_fewestByTrying_26 : decode cX6_fewestByTrying 26 = .ok (.invokevirtual 111, 3) := by decide +kernel
theorem dX6_fewestByTrying_29 : decode cX6_fewestByTrying 29 = .ok (.ireturn, 1) := by decide +kernel
set_option maxRecDepth 20000 in
theorem ggX6_measure_X6_isOpen : GoodIn wsX6_measure wsX6_isOpen := goodIn_r _ [12, 13, 14, 15, 16, 17, 18, 19, 20, 21, 22, 23, 24, 25, 26, 27, 28, 29, 30, 31, 32] (by decide +kernel) (by decide +kernel)
set_option maxRecDepth 20000 in
theorem gX6_measure_X6_isOpen : GoodIn wsX6_measure (wsV RX6 83 RX6 yX6_isOpen wsX6_isOpen) := goodIn_app (goodIn_of _ (by decide +kernel)) ggX6_measure_X6_isOpen
theorem dX6_measure_0 : decode cX6_measure 0 = .ok (.iconst 0, 1) := by decide +kernel
theorem dX6_measure_1 : decode cX6_measure 1 = .ok (.istore_n 1, 1) := by decide +kernel
theorem dX6_measure_2 : decode cX6_measure 2 = .ok (.iload_n 1, 1) := by decide +kernel
theorem dX6_measure_3 : decode cX6_measure 3 = .ok (.aload_n 0, 1) := by decide +kernel
theorem dX6_measure_4 : decode cX6_measure 4 = .ok (.getfield 41, 3) := by decide +kernel
theorem dX6_measure_7 : decode cX6_measure 7 = .ok (.if_icmp .ge 33, 3) := by decide +kernel
theorem dX6_measure_10 : decode cX6_measure 10 = .ok (.aload_n 0, 1) := by decide +kernel
theorem dX6_measure_11 : decode cX6_measure 11 = .ok (.getfield 25, 3) := by decide +kernel
theorem dX6_measure_14 : decode cX6_measure 14 = .ok (.iload_n 1, 1) := by decide +kernel
theorem dX6_measure_15 : decode cX6_measure 15 = .ok (.aload_n 0, 1) := by decide +kernel
theorem dX6_measure_16 : decode cX6_measure 16 = .ok (.getfield 58, 3) := by decide +kernel
theorem dX6_measure_19 : decode cX6_measure 19 = .ok (.iload_n 1, 1) := by decide +kernel
theorem dX6_measure_20 : decode cX6_measure 20 = .ok (.ishr, 1) := by decide +kernel
theorem dX6_measure_21 : decode cX6_measure 21 = .ok (.iconst 1, 1) := by decide +kernel
theorem dX6_measure_22 : decode cX6_measure 22 = .ok (.iand, 1) := by decide +kernel
theorem dX6_measure_23 : decode cX6_measure 23 = .ok (.iconst 1, 1) := by decide +kernel
theorem dX6_measure_24 : decode cX6_measure 24 = .ok (.if_icmp .ne 7, 3) := by decide +kernel
theorem dX6_measure_27 : decode cX6_measure 27 = .ok (.iconst 0, 1) := by decide +kernel
theorem dX6_measure_28 : decode cX6_measure 28 = .ok (.goto 5, 3) := by decide +kernel
theorem dX6_measure_31 : decode cX6_measure 31 = .ok (.ldc 114, 2) := by decide +kernel
theorem dX6_measure_33 : decode cX6_measure 33 = .ok (.iastore, 1) := by decide +kernel
theorem dX6_measure_34 : decode cX6_measure 34 = .ok (.iinc 1 1, 3) := by decide +kernel
theorem dX6_measure_37 : decode cX6_measure 37 = .ok (.goto (-35), 3) := by decide +kernel
theorem dX6_measure_40 : decode cX6_measure 40 = .ok (.iconst 0, 1) := by decide +kernel
theorem dX6_measure_41 : decode cX6_measure 41 = .ok (.istore_n 1, 1) := by decide +kernel
theorem dX6_measure_42 : decode cX6_measure 42 = .ok (.iload_n 1, 1) := by decide +kernel
theorem dX6_measure_43 : decode cX6_measure 43 = .ok (.aload_n 0, 1) := by decide +kernel
theorem dX6_measure_44 : decode cX6_measure 44 = .ok (.getfield 41, 3) := by decide +kernel
theorem dX6_measure_47 : decode cX6_measure 47 = .ok (.if_icmp .ge 177, 3) := by decide +kernel
theorem dX6_measure_50 : decode cX6_measure 50 = .ok (.iconst 0, 1) := by decide +kernel
theorem dX6_measure_51 : decode cX6_measure 51 = .ok (.istore_n 2, 1) := by decide +kernel
theorem dX6_measure_52 : decode cX6_measure 52 = .ok (.iload_n 2, 1) := by decide +kernel
theorem dX6_measure_53 : decode cX6_measure 53 = .ok (.aload_n 0, 1) := by decide +kernel
theorem dX6_measure_54 : decode cX6_measure 54 = .ok (.getfield 48, 3) := by decide +kernel
theorem dX6_measure_57 : decode cX6_measure 57 = .ok (.if_icmp .ge 161, 3) := by decide +kernel
theorem dX6_measure_60 : decode cX6_measure 60 = .ok (.aload_n 0, 1) := by decide +kernel
theorem dX6_measure_61 : decode cX6_measure 61 = .ok (.iconst 2, 1) := by decide +kernel
theorem dX6_measure_62 : decode cX6_measure 62 = .ok (.iload_n 2, 1) := by decide +kernel
theorem dX6_measure_63 : decode cX6_measure 63 = .ok (.imul, 1) := by decide +kernel
theorem dX6_measure_64 : decode cX6_measure 64 = .ok (.iconst 0, 1) := by decide +kernel
theorem dX6_measure_65 : decode cX6_measure 65 = .ok (.iconst 0, 1) := by decide +kernel
theorem dX6_measure_66 : decode cX6_measure 66 = .ok (.invokevirtual 83, 3) := by decide +kernel
theorem dX6_measure_69 : decode cX6_measure 69 = .ok (.ifCond .eq 143, 3) := by decide +kernel
theorem dX6_measure_72 : decode cX6_measure 72 = .ok (.aload_n 0, 1) := by decide +kernel
theorem dX6_measure_73 : decode cX6_measure 73 = .ok (.iconst 2, 1) := by decide +kernel
theorem dX6_measure_74 : decode cX6_measure 74 = .ok (.iload_n 2, 1) := by decide +kernel
theorem dX6_measure_75 : decode cX6_measure 75 = .ok (.imul, 1) := by decide +kernel
theorem dX6_measure_76 : decode cX6_measure 76 = .ok (.iconst 1, 1) := by decide +kernel
theorem dX6_measure_77 : decode cX6_measure 77 = .ok (.iadd, 1) := by decide +kernel
theorem dX6_measure_78 : decode cX6_measure 78 = .ok (.iconst 0, 1) := by decide +kernel
theorem dX6_measure_79 : decode cX6_measure 79 = .ok (.iconst 0, 1) := by decide +kernel
theorem dX6_measure_80 : decode cX6_measure 80 = .ok (.invokevirtual 83, 3) := by decide +kernel
theorem dX6_measure_83 : decode cX6_measure 83 = .ok (.ifCond .eq 129, 3) := by decide +kernel
theorem dX6_measure_86 : decode cX6_measure 86 = .ok (.aload_n 0, 1) := by decide +kernel
theorem dX6_measure_87 : decode cX6_measure 87 = .ok (.getfield 7, 3) := by decide +kernel
theorem dX6_measure_90 : decode cX6_measure 90 = .ok (.iconst 2, 1) := by decide +kernel
theorem dX6_measure_91 : decode cX6_measure 91 = .ok (.iload_n 2, 1) := by decide +kernel
theorem dX6_measure_92 : decode cX6_measure 92 = .ok (.imul, 1) := by decide +kernel
theorem dX6_measure_93 : decode cX6_measure 93 = .ok (.iaload, 1) := by decide +kernel
theorem dX6_measure_94 : decode cX6_measure 94 = .ok (.istore_n 3, 1) := by decide +kernel
theorem dX6_measure_95 : decode cX6_measure 95 = .ok (.aload_n 0, 1) := by decide +kernel
theorem dX6_measure_96 : decode cX6_measure 96 = .ok (.getfield 7, 3) := by decide +kernel
theorem dX6_measure_99 : decode cX6_measure 99 = .ok (.iconst 2, 1) := by decide +kernel
theorem dX6_measure_100 : decode cX6_measure 100 = .ok (.iload_n 2, 1) := by decide +kernel
theorem dX6_measure_101 : decode cX6_measure 101 = .ok (.imul, 1) := by decide +kernel
theorem dX6_measure_102 : decode cX6_measure 102 = .ok (.iconst 1, 1) := by decide +kernel
theorem dX6_measure_103 : decode cX6_measure 103 = .ok (.iadd, 1) := by decide +kernel
theorem dX6_measure_104 : decode cX6_measure 104 = .ok (.iaload, 1) := by decide +kernel
theorem dX6_measure_105 : decode cX6_measure 105 = .ok (.istore 4, 2) := by decide +kernel
theorem dX6_measure_107 : decode cX6_measure 107 = .ok (.aload_n 0, 1) := by decide +kernel
theorem dX6_measure_108 : decode cX6_measure 108 = .ok (.getfield 25, 3) := by decide +kernel
theorem dX6_measure_111 : decode cX6_measure 111 = .ok (.iload_n 3, 1) := by decide +kernel
theorem dX6_measure_112 : decode cX6_measure 112 = .ok (.aload_n 0, 1) := by decide +kernel
theorem dX6_measure_113 : decode cX6_measure 113 = .ok (.getfield 25, 3) := by decide +kernel
theorem dX6_measure_116 : decode cX6_measure 116 = .ok (.iload 4, 2) := by decide +kernel
theorem dX6_measure_118 : decode cX6_measure 118 = .ok (.iaload, 1) := by decide +kernel
theorem dX6_measure_119 : decode cX6_measure 119 = .ok (.aload_n 0, 1) := by decide +kernel
theorem dX6_measure_120 : decode cX6_measure 120 = .ok (.getfield 16, 3) := by decide +kernel
theorem dX6_measure_123 : decode cX6_measure 123 = .ok (.iload_n 2, 1) := by decide +kernel
theorem dX6_measure_124 : decode cX6_measure 124 = .ok (.iaload, 1) := by decide +kernel
theorem dX6_measure_125 : decode cX6_measure 125 = .ok (.iadd, 1) := by decide +kernel
theorem dX6_measure_126 : decode cX6_measure 126 = .ok (.aload_n 0, 1) := by decide +kernel
theorem dX6_measure_127 : decode cX6_measure 127 = .ok (.getfield 25, 3) := by decide +kernel
theorem dX6_measure_130 : decode cX6_measure 130 = .ok (.iload_n 3, 1) := by decide +kernel
theorem dX6_measure_131 : decode cX6_measure 131 = .ok (.iaload, 1) := by decide +kernel
theorem dX6_measure_132 : decode cX6_measure 132 = .ok (.if_icmp .ge 20, 3) := by decide +kernel
theorem dX6_measure_135 : decode cX6_measure 135 = .ok (.aload_n 0, 1) := by decide +kernel
theorem dX6_measure_136 : decode cX6_measure 136 = .ok (.getfield 25, 3) := by decide +kernel
theorem dX6_measure_139 : decode cX6_measure 139 = .ok (.iload 4, 2) := by decide +kernel
theorem dX6_measure_141 : decode cX6_measure 141 = .ok (.iaload, 1) := by decide +kernel
theorem dX6_measure_142 : decode cX6_measure 142 = .ok (.aload_n 0, 1) := by decide +kernel
theorem dX6_measure_143 : decode cX6_measure 143 = .ok (.getfield 16, 3) := by decide +kernel
theorem dX6_measure_146 : decode cX6_measure 146 = .ok (.iload_n 2, 1) := by decide +kernel
theorem dX6_measure_147 : decode cX6_measure 147 = .ok (.iaload, 1) := by decide +kernel
theorem dX6_measure_148 : decode cX6_measure 148 = .ok (.iadd, 1) := by decide +kernel
theorem dX6_measure_149 : decode cX6_measure 149 = .ok (.goto 9, 3) := by decide +kernel
theorem dX6_measure_152 : decode cX6_measure 152 = .ok (.aload_n 0, 1) := by decide +kernel
theorem dX6_measure_153 : decode cX6_measure 153 = .ok (.getfield 25, 3) := by decide +kernel
theorem dX6_measure_156 : decode cX6_measure 156 = .ok (.iload_n 3, 1) := by decide +kernel
theorem dX6_measure_157 : decode cX6_measure 157 = .ok (.iaload, 1) := by decide +kernel
theorem dX6_measure_158 : decode cX6_measure 158 = .ok (.iastore, 1) := by decide +kernel
theorem dX6_measure_159 : decode cX6_measure 159 = .ok (.aload_n 0, 1) := by decide +kernel
theorem dX6_measure_160 : decode cX6_measure 160 = .ok (.getfield 25, 3) := by decide +kernel
theorem dX6_measure_163 : decode cX6_measure 163 = .ok (.iload 4, 2) := by decide +kernel
theorem dX6_measure_165 : decode cX6_measure 165 = .ok (.aload_n 0, 1) := by decide +kernel
theorem dX6_measure_166 : decode cX6_measure 166 = .ok (.getfield 25, 3) := by decide +kernel
theorem dX6_measure_169 : decode cX6_measure 169 = .ok (.iload_n 3, 1) := by decide +kernel
theorem dX6_measure_170 : decode cX6_measure 170 = .ok (.iaload, 1) := by decide +kernel
theorem dX6_measure_171 : decode cX6_measure 171 = .ok (.aload_n 0, 1) := by decide +kernel
theorem dX6_measure_172 : decode cX6_measure 172 = .ok (.getfield 16, 3) := by decide +kernel
theorem dX6_measure_175 : decode cX6_measure 175 = .ok (.iload_n 2, 1) := by decide +kernel
theorem dX6_measure_176 : decode cX6_measure 176 = .ok (.iaload, 1) := by decide +kernel
theorem dX6_measure_177 : decode cX6_measure 177 = .ok (.iadd, 1) := by decide +kernel
theorem dX6_measure_178 : decode cX6_measure 178 = .ok (.aload_n 0, 1) := by decide +kernel
theorem dX6_measure_179 : decode cX6_measure 179 = .ok (.getfield 25, 3) := by decide +kernel
theorem dX6_measure_182 : decode cX6_measure 182 = .ok (.iload 4, 2) := by decide +kernel
theorem dX6_measure_184 : decode cX6_measure 184 = .ok (.iaload, 1) := by decide +kernel
theorem dX6_measure_185 : decode cX6_measure 185 = .ok (.if_icmp .ge 19, 3) := by decide +kernel
theorem dX6_measure_188 : decode cX6_measure 188 = .ok (.aload_n 0, 1) := by decide +kernel
theorem dX6_measure_189 : decode cX6_measure 189 = .ok (.getfield 25, 3) := by decide +kernel
theorem dX6_measure_192 : decode cX6_measure 192 = .ok (.iload_n 3, 1) := by decide +kernel
theorem dX6_measure_193 : decode cX6_measure 193 = .ok (.iaload, 1) := by decide +kernel
theorem dX6_measure_194 : decode cX6_measure 194 = .ok (.aload_n 0, 1) := by decide +kernel
theorem dX6_measure_195 : decode cX6_measure 195 = .ok (.getfield 16, 3) := by decide +kernel
theorem dX6_measure_198 : decode cX6_measure 198 = .ok (.iload_n 2, 1) := by decide +kernel
theorem dX6_measure_199 : decode cX6_measure 199 = .ok (.iaload, 1) := by decide +kernel
theorem dX6_measure_200 : decode cX6_measure 200 = .ok (.iadd, 1) := by decide +kernel
theorem dX6_measure_201 : decode cX6_measure 201 = .ok (.goto 10, 3) := by decide +kernel
theorem dX6_measure_204 : decode cX6_measure 204 = .ok (.aload_n 0, 1) := by decide +kernel
theorem dX6_measure_205 : decode cX6_measure 205 = .ok (.getfield 25, 3) := by decide +kernel
theorem dX6_measure_208 : decode cX6_measure 208 = .ok (.iload 4, 2) := by decide +kernel
theorem dX6_measure_210 : decode cX6_measure 210 = .ok (.iaload, 1) := by decide +kernel
theorem dX6_measure_211 : decode cX6_measure 211 = .ok (.iastore, 1) := by decide +kernel
theorem dX6_measure_212 : decode cX6_measure 212 = .ok (.iinc 2 1, 3) := by decide +kernel
theorem dX6_measure_215 : decode cX6_measure 215 = .ok (.goto (-163), 3) := by decide +kernel
theorem dX6_measure_218 : decode cX6_measure 218 = .ok (.iinc 1 1, 3) := by decide +kernel
theorem dX6_measure_221 : decode cX6_measure 221 = .ok (.goto (-179), 3) := by decide +kernel
theorem dX6_measure_224 : decode cX6_measure 224 = .ok (.return_, 1) := by decide +kernel
set_option maxRecDepth 20000 in
theorem ggX6_distance_X6_isNode : GoodIn wsX6_distance wsX6_isNode := goodIn_r _ [7, 8, 9, 10, 6, 11, 32, 33, 34, 35, 36, 37, 38, 39, 40, 41, 42, 43, 44, 45, 46, 47, 48] (by decide +kernel) (by decide +kernel)
set_option maxRecDepth 20000 in
theorem gX6_distance_X6_isNode : GoodIn wsX6_distance (wsV RX6 61 RX6 yX6_isNode wsX6_isNode) := goodIn_app (goodIn_of _ (by decide +kernel)) ggX6_distance_X6_isNode
set_option maxRecDepth 20000 in
theorem ggX6_distance_X6_refused : GoodIn wsX6_distance wsX6_refused := goodIn_r _ [15, 16, 32, 33, 34, 35, 36, 37, 38, 39, 40, 41, 42, 43, 44, 45, 46, 47, 48] (by decide +kernel) (by decide +kernel)
set_option maxRecDepth 20000 in
theorem gX6_distance_X6_refused : GoodIn wsX6_distance (wsV RX6 54 RX6 yX6_refused wsX6_refused) := goodIn_app (goodIn_of _ (by decide +kernel)) ggX6_distance_X6_refused
set_option maxRecDepth 20000 in
theorem ggX6_distance_X6_measure : GoodIn wsX6_distance wsX6_measure := goodIn_r _ [20, 8, 1, 21, 2, 22, 23, 24, 25, 26, 27, 6, 28, 29, 30, 31, 32, 33, 34, 35, 36, 37, 38, 39, 40, 41, 42, 43, 44, 45, 46, 47, 48] (by decide +kernel) (by decide +kernel)
set_option maxRecDepth 20000 in
theorem gX6_distance_X6_measure : GoodIn wsX6_distance (wsV RX6 115 RX6 yX6_measure wsX6_measure) := goodIn_app (goodIn_of _ (by decide +kernel)) ggX6_distance_X6_measure
theorem dX6_distance_0 : decode cX6_distance 0 = .ok (.aload_n 0, 1) := by decide +kernel
theorem dX6_distance_1 : decode cX6_distance 1 = .ok (.aload_n 0, 1) := by decide +kernel
theorem dX6_distance_2 : decode cX6_distance 2 = .ok (.iload_n 1, 1) := by decide +kernel
theorem dX6_distance_3 : decode cX6_distance 3 = .ok (.invokevirtual 61, 3) := by decide +kernel
theorem dX6_distance_6 : decode cX6_distance 6 = .ok (.ifCond .eq 7, 3) := by decide +kernel
theorem dX6_distance_9 : decode cX6_distance 9 = .ok (.iconst 0, 1) := by decide +kernel
theorem dX6_distance_10 : decode cX6_distance 10 = .ok (.goto 4, 3) := by decide +kernel
theorem dX6_distance_13 : decode cX6_distance 13 = .ok (.iconst 1, 1) := by decide +kernel
theorem dX6_distance_14 : decode cX6_distance 14 = .ok (.invokevirtual 54, 3) := by decide +kernel
theorem dX6_distance_17 : decode cX6_distance 17 = .ok (.ifCond .eq 5, 3) := by decide +kernel
theorem dX6_distance_20 : decode cX6_distance 20 = .ok (.iconst 0, 1) := by decide +kernel
theorem dX6_distance_21 : decode cX6_distance 21 = .ok (.ireturn, 1) := by decide +kernel
theorem dX6_distance_22 : decode cX6_distance 22 = .ok (.aload_n 0, 1) := by decide +kernel
theorem dX6_distance_23 : decode cX6_distance 23 = .ok (.invokevirtual 115, 3) := by decide +kernel
theorem dX6_distance_26 : decode cX6_distance 26 = .ok (.aload_n 0, 1) := by decide +kernel
theorem dX6_distance_27 : decode cX6_distance 27 = .ok (.getfield 25, 3) := by decide +kernel
theorem dX6_distance_30 : decode cX6_distance 30 = .ok (.iload_n 1, 1) := by decide +kernel
theorem dX6_distance_31 : decode cX6_distance 31 = .ok (.iaload, 1) := by decide +kernel
theorem dX6_distance_32 : decode cX6_distance 32 = .ok (.ldc 114, 2) := by decide +kernel
theorem dX6_distance_34 : decode cX6_distance 34 = .ok (.if_icmp .lt 7, 3) := by decide +kernel
theorem dX6_distance_37 : decode cX6_distance 37 = .ok (.iconst (-1), 1) := by decide +kernel
theorem dX6_distance_38 : decode cX6_distance 38 = .ok (.goto 9, 3) := by decide +kernel
theorem dX6_distance_41 : decode cX6_distance 41 = .ok (.aload_n 0, 1) := by decide +kernel
theorem dX6_distance_42 : decode cX6_distance 42 = .ok (.getfield 25, 3) := by decide +kernel
theorem dX6_distance_45 : decode cX6_distance 45 = .ok (.iload_n 1, 1) := by decide +kernel
theorem dX6_distance_46 : decode cX6_distance 46 = .ok (.iaload, 1) := by decide +kernel
theorem dX6_distance_47 : decode cX6_distance 47 = .ok (.ireturn, 1) := by decide +kernel
set_option maxRecDepth 20000 in
theorem ggX6_reach_X6_isOpen : GoodIn wsX6_reach wsX6_isOpen := goodIn_r _ [8, 9, 10, 11, 12, 13, 14, 15, 16, 17, 18, 19, 20, 21, 22, 23, 24, 25, 26, 27, 28] (by decide +kernel) (by decide +kernel)
set_option maxRecDepth 20000 in
theorem gX6_reach_X6_isOpen : GoodIn wsX6_reach (wsV RX6 83 RX6 yX6_isOpen wsX6_isOpen) := goodIn_app (goodIn_of _ (by decide +kernel)) ggX6_reach_X6_isOpen
theorem dX6_reach_0 : decode cX6_reach 0 = .ok (.aload_n 0, 1) := by decide +kernel
theorem dX6_reach_1 : decode cX6_reach 1 = .ok (.iload_n 1, 1) := by decide +kernel
theorem dX6_reach_2 : decode cX6_reach 2 = .ok (.iconst 0, 1) := by decide +kernel
theorem dX6_reach_3 : decode cX6_reach 3 = .ok (.iconst 0, 1) := by decide +kernel
theorem dX6_reach_4 : decode cX6_reach 4 = .ok (.invokevirtual 83, 3) := by decide +kernel
theorem dX6_reach_7 : decode cX6_reach 7 = .ok (.ifCond .eq 17, 3) := by decide +kernel
theorem dX6_reach_10 : decode cX6_reach 10 = .ok (.aload_n 0, 1) := by decide +kernel
theorem dX6_reach_11 : decode cX6_reach 11 = .ok (.getfield 25, 3) := by decide +kernel
theorem dX6_reach_14 : decode cX6_reach 14 = .ok (.aload_n 0, 1) := by decide +kernel
theorem dX6_reach_15 : decode cX6_reach 15 = .ok (.getfield 7, 3) := by decide +kernel
theorem dX6_reach_18 : decode cX6_reach 18 = .ok (.iload_n 1, 1) := by decide +kernel
theorem dX6_reach_19 : decode cX6_reach 19 = .ok (.iaload, 1) := by decide +kernel
theorem dX6_reach_20 : decode cX6_reach 20 = .ok (.iaload, 1) := by decide +kernel
theorem dX6_reach_21 : decode cX6_reach 21 = .ok (.goto 5, 3) := by decide +kernel
theorem dX6_reach_24 : decode cX6_reach 24 = .ok (.ldc 114, 2) := by decide +kernel
theorem dX6_reach_26 : decode cX6_reach 26 = .ok (.ireturn, 1) := by decide +kernel
set_option maxRecDepth 20000 in
theorem ggX6_sort_X6_measure : GoodIn wsX6_sort wsX6_measure := goodIn_r _ [9, 10, 11, 12, 3, 2, 13, 14, 15, 16, 17, 8, 18, 19, 20, 21, 26, 27, 28, 29, 30, 31, 32, 33, 34, 35, 36, 37, 38, 39, 40, 41, 42] (by decide +kernel) (by decide +kernel)
set_option maxRecDepth 20000 in
theorem gX6_sort_X6_measure : GoodIn wsX6_sort (wsV RX6 115 RX6 yX6_measure wsX6_measure) := goodIn_app (goodIn_of _ (by decide +kernel)) ggX6_sort_X6_measure
set_option maxRecDepth 20000 in
theorem ggX6_sort_X6_reach : GoodIn wsX6_sort wsX6_reach := goodIn_r _ [25, 11, 13, 3, 15, 16, 17, 8, 18, 19, 20, 21, 26, 27, 28, 29, 30, 31, 32, 33, 34, 35, 36, 37, 38, 39, 40, 41, 42] (by decide +kernel) (by decide +kernel)
set_option maxRecDepth 20000 in
theorem gX6_sort_X6_reach : GoodIn wsX6_sort (wsV RX6 121 RX6 yX6_reach wsX6_reach) := goodIn_app (goodIn_of _ (by decide +kernel)) ggX6_sort_X6_reach
theorem dX6_sort_0 : decode cX6_sort 0 = .ok (.aload_n 0, 1) := by decide +kernel
theorem dX6_sort_1 : decode cX6_sort 1 = .ok (.invokevirtual 115, 3) := by decide +kernel
theorem dX6_sort_4 : decode cX6_sort 4 = .ok (.aload_n 0, 1) := by decide +kernel
theorem dX6_sort_5 : decode cX6_sort 5 = .ok (.iconst 0, 1) := by decide +kernel
theorem dX6_sort_6 : decode cX6_sort 6 = .ok (.putfield 118, 3) := by decide +kernel
theorem dX6_sort_9 : decode cX6_sort 9 = .ok (.iconst 0, 1) := by decide +kernel
theorem dX6_sort_10 : decode cX6_sort 10 = .ok (.istore_n 1, 1) := by decide +kernel
theorem dX6_sort_11 : decode cX6_sort 11 = .ok (.iload_n 1, 1) := by decide +kernel
theorem dX6_sort_12 : decode cX6_sort 12 = .ok (.aload_n 0, 1) := by decide +kernel
theorem dX6_sort_13 : decode cX6_sort 13 = .ok (.getfield 48, 3) := by decide +kernel
theorem dX6_sort_16 : decode cX6_sort 16 = .ok (.if_icmp .ge 122, 3) := by decide +kernel
theorem dX6_sort_19 : decode cX6_sort 19 = .ok (.aload_n 0, 1) := by decide +kernel
theorem dX6_sort_20 : decode cX6_sort 20 = .ok (.iconst 2, 1) := by decide +kernel
theorem dX6_sort_21 : decode cX6_sort 21 = .ok (.iload_n 1, 1) := by decide +kernel
theorem dX6_sort_22 : decode cX6_sort 22 = .ok (.imul, 1) := by decide +kernel
theorem dX6_sort_23 : decode cX6_sort 23 = .ok (.iconst 1, 1) := by decide +kernel
theorem dX6_sort_24 : decode cX6_sort 24 = .ok (.iadd, 1) := by decide +kernel
theorem dX6_sort_25 : decode cX6_sort 25 = .ok (.invokevirtual 121, 3) := by decide +kernel
theorem dX6_sort_28 : decode cX6_sort 28 = .ok (.aload_n 0, 1) := by decide +kernel
theorem dX6_sort_29 : decode cX6_sort 29 = .ok (.iconst 2, 1) := by decide +kernel
theorem dX6_sort_30 : decode cX6_sort 30 = .ok (.iload_n 1, 1) := by decide +kernel
theorem dX6_sort_31 : decode cX6_sort 31 = .ok (.imul, 1) := by decide +kernel
theorem dX6_sort_32 : decode cX6_sort 32 = .ok (.invokevirtual 121, 3) := by decide +kernel
theorem dX6_sort_35 : decode cX6_sort 35 = .ok (.if_icmp .ge 7, 3) := by decide +kernel
theorem dX6_sort_38 : decode cX6_sort 38 = .ok (.iconst 1, 1) := by decide +kernel
theorem dX6_sort_39 : decode cX6_sort 39 = .ok (.goto 4, 3) := by decide +kernel
theorem dX6_sort_42 : decode cX6_sort 42 = .ok (.iconst 0, 1) := by decide +kernel
theorem dX6_sort_43 : decode cX6_sort 43 = .ok (.istore_n 2, 1) := by decide +kernel
theorem dX6_sort_44 : decode cX6_sort 44 = .ok (.aload_n 0, 1) := by decide +kernel
theorem dX6_sort_45 : decode cX6_sort 45 = .ok (.iconst 2, 1) := by decide +kernel
theorem dX6_sort_46 : decode cX6_sort 46 = .ok (.iload_n 1, 1) := by decide +kernel
theorem dX6_sort_47 : decode cX6_sort 47 = .ok (.imul, 1) := by decide +kernel
theorem dX6_sort_48 : decode cX6_sort 48 = .ok (.iload_n 2, 1) := by decide +kernel
theorem dX6_sort_49 : decode cX6_sort 49 = .ok (.iadd, 1) := by decide +kernel
theorem dX6_sort_50 : decode cX6_sort 50 = .ok (.invokevirtual 121, 3) := by decide +kernel
theorem dX6_sort_53 : decode cX6_sort 53 = .ok (.istore_n 3, 1) := by decide +kernel
theorem dX6_sort_54 : decode cX6_sort 54 = .ok (.iload_n 3, 1) := by decide +kernel
theorem dX6_sort_55 : decode cX6_sort 55 = .ok (.ldc 114, 2) := by decide +kernel
theorem dX6_sort_57 : decode cX6_sort 57 = .ok (.if_icmp .ge 75, 3) := by decide +kernel
theorem dX6_sort_60 : decode cX6_sort 60 = .ok (.aload_n 0, 1) := by decide +kernel
theorem dX6_sort_61 : decode cX6_sort 61 = .ok (.getfield 118, 3) := by decide +kernel
theorem dX6_sort_64 : decode cX6_sort 64 = .ok (.istore 4, 2) := by decide +kernel
theorem dX6_sort_66 : decode cX6_sort 66 = .ok (.iload 4, 2) := by decide +kernel
theorem dX6_sort_68 : decode cX6_sort 68 = .ok (.ifCond .le 42, 3) := by decide +kernel
theorem dX6_sort_71 : decode cX6_sort 71 = .ok (.aload_n 0, 1) := by decide +kernel
theorem dX6_sort_72 : decode cX6_sort 72 = .ok (.aload_n 0, 1) := by decide +kernel
theorem dX6_sort_73 : decode cX6_sort 73 = .ok (.getfield 34, 3) := by decide +kernel
theorem dX6_sort_76 : decode cX6_sort 76 = .ok (.iload 4, 2) := by decide +kernel
theorem dX6_sort_78 : decode cX6_sort 78 = .ok (.iconst 1, 1) := by decide +kernel
theorem dX6_sort_79 : decode cX6_sort 79 = .ok (.isub, 1) := by decide +kernel
theorem dX6_sort_80 : decode cX6_sort 80 = .ok (.iaload, 1) := by decide +kernel
theorem dX6_sort_81 : decode cX6_sort 81 = .ok (.invokevirtual 121, 3) := by decide +kernel
theorem dX6_sort_84 : decode cX6_sort 84 = .ok (.iload_n 3, 1) := by decide +kernel
theorem dX6_sort_85 : decode cX6_sort 85 = .ok (.if_icmp .le 25, 3) := by decide +kernel
theorem dX6_sort_88 : decode cX6_sort 88 = .ok (.aload_n 0, 1) := by decide +kernel
theorem dX6_sort_89 : decode cX6_sort 89 = .ok (.getfield 34, 3) := by decide +kernel
theorem dX6_sort_92 : decode cX6_sort 92 = .ok (.iload 4, 2) := by decide +kernel
theorem dX6_sort_94 : decode cX6_sort 94 = .ok (.aload_n 0, 1) := by decide +kernel
theorem dX6_sort_95 : decode cX6_sort 95 = .ok (.getfield 34, 3) := by decide +kernel
theorem dX6_sort_98 : decode cX6_sort 98 = .ok (.iload 4, 2) := by decide +kernel
theorem dX6_sort_100 : decode cX6_sort 100 = .ok (.iconst 1, 1) := by decide +kernel
theorem dX6_sort_101 : decode cX6_sort 101 = .ok (.isub, 1) := by decide +kernel
theorem dX6_sort_102 : decode cX6_sort 102 = .ok (.iaload, 1) := by decide +kernel
theorem dX6_sort_103 : decode cX6_sort 103 = .ok (.iastore, 1) := by decide +kernel
theorem dX6_sort_104 : decode cX6_sort 104 = .ok (.iinc 4 (-1), 3) := by decide +kernel
theorem dX6_sort_107 : decode cX6_sort 107 = .ok (.goto (-41), 3) := by decide +kernel
theorem dX6_sort_110 : decode cX6_sort 110 = .ok (.aload_n 0, 1) := by decide +kernel
theorem dX6_sort_111 : decode cX6_sort 111 = .ok (.getfield 34, 3) := by decide +kernel
theorem dX6_sort_114 : decode cX6_sort 114 = .ok (.iload 4, 2) := by decide +kernel
theorem dX6_sort_116 : decode cX6_sort 116 = .ok (.iconst 2, 1) := by decide +kernel
theorem dX6_sort_117 : decode cX6_sort 117 = .ok (.iload_n 1, 1) := by decide +kernel
theorem dX6_sort_118 : decode cX6_sort 118 = .ok (.imul, 1) := by decide +kernel
theorem dX6_sort_119 : decode cX6_sort 119 = .ok (.iload_n 2, 1) := by decide +kernel
theorem dX6_sort_120 : decode cX6_sort 120 = .ok (.iadd, 1) := by decide +kernel
theorem dX6_sort_121 : decode cX6_sort 121 = .ok (.iastore, 1) := by decide +kernel
theorem dX6_sort_122 : decode cX6_sort 122 = .ok (.aload_n 0, 1) := by decide +kernel
theorem dX6_sort_123 : decode cX6_sort 123 = .ok (.dup, 1) := by decide +kernel
theorem dX6_sort_124 : decode cX6_sort 124 = .ok (.getfield 118, 3) := by decide +kernel
theorem dX6_sort_127 : decode cX6_sort 127 = .ok (.iconst 1, 1) := by decide +kernel
theorem dX6_sort_128 : decode cX6_sort 128 = .ok (.iadd, 1) := by decide +kernel
theorem dX6_sort_129 : decode cX6_sort 129 = .ok (.putfield 118, 3) := by decide +kernel
theorem dX6_sort_132 : decode cX6_sort 132 = .ok (.iinc 1 1, 3) := by decide +kernel
theorem dX6_sort_135 : decode cX6_sort 135 = .ok (.goto (-124), 3) := by decide +kernel
theorem dX6_sort_138 : decode cX6_sort 138 = .ok (.return_, 1) := by decide +kernel
set_option maxRecDepth 20000 in
theorem ggX6_flushAt_X6_sort : GoodIn wsX6_flushAt wsX6_sort := goodIn_r _ [7, 1, 8, 9, 2, 10, 11, 12, 6, 13, 14, 15, 16, 17, 18, 19, 20, 21, 22, 23, 24, 25, 26, 27, 28, 29, 38, 39, 40, 41, 42, 43, 44, 45, 46, 47, 48, 49, 50, 51, 52, 53, 54] (by decide +kernel) (by decide +kernel)
set_option maxRecDepth 20000 in
theorem gX6_flushAt_X6_sort : GoodIn wsX6_flushAt (wsV RX6 124 RX6 yX6_sort wsX6_sort) := goodIn_app (goodIn_of _ (by decide +kernel)) ggX6_flushAt_X6_sort
set_option maxRecDepth 20000 in
theorem ggX6_flushAt_X6_in : GoodIn wsX6_flushAt wsX6_in := goodIn_r _ [32] (by decide +kernel) (by decide +kernel)
set_option maxRecDepth 20000 in
theorem gX6_flushAt_X6_in : GoodIn wsX6_flushAt (va_wsS RX6 44 yX6_in wsX6_in) := goodIn_app (goodIn_of _ (by decide +kernel)) ggX6_flushAt_X6_in
set_option maxRecDepth 20000 in
theorem ggX6_flushAt_X6_refused : GoodIn wsX6_flushAt wsX6_refused := goodIn_r _ [36, 37, 38, 39, 40, 41, 42, 43, 44, 45, 46, 47, 48, 49, 50, 51, 52, 53, 54] (by decide +kernel) (by decide +kernel)
set_option maxRecDepth 20000 in
theorem gX6_flushAt_X6_refused : GoodIn wsX6_flushAt (wsV RX6 54 RX6 yX6_refused wsX6_refused) := goodIn_app (goodIn_of _ (by decide +kernel)) ggX6_flushAt_X6_refused
theorem dX6_flushAt_0 : decode cX6_flushAt 0 = .ok (.aload_n 0, 1) := by decide +kernel
theorem dX6_flushAt_1 : decode cX6_flushAt 1 = .ok (.invokevirtual 124, 3) := by decide +kernel
theorem dX6_flushAt_4 : decode cX6_flushAt 4 = .ok (.aload_n 0, 1) := by decide +kernel
theorem dX6_flushAt_5 : decode cX6_flushAt 5 = .ok (.iload_n 1, 1) := by decide +kernel
theorem dX6_flushAt_6 : decode cX6_flushAt 6 = .ok (.iconst 0, 1) := by decide +kernel
theorem dX6_flushAt_7 : decode cX6_flushAt 7 = .ok (.aload_n 0, 1) := by decide +kernel
theorem dX6_flushAt_8 : decode cX6_flushAt 8 = .ok (.getfield 118, 3) := by decide +kernel
theorem dX6_flushAt_11 : decode cX6_flushAt 11 = .ok (.iconst 1, 1) := by decide +kernel
theorem dX6_flushAt_12 : decode cX6_flushAt 12 = .ok (.isub, 1) := by decide +kernel
theorem dX6_flushAt_13 : decode cX6_flushAt 13 = .ok (.invokestatic 44, 3) := by decide +kernel
theorem dX6_flushAt_16 : decode cX6_flushAt 16 = .ok (.ifCond .eq 7, 3) := by decide +kernel
theorem dX6_flushAt_19 : decode cX6_flushAt 19 = .ok (.iconst 0, 1) := by decide +kernel
theorem dX6_flushAt_20 : decode cX6_flushAt 20 = .ok (.goto 4, 3) := by decide +kernel
theorem dX6_flushAt_23 : decode cX6_flushAt 23 = .ok (.iconst 1, 1) := by decide +kernel
theorem dX6_flushAt_24 : decode cX6_flushAt 24 = .ok (.invokevirtual 54, 3) := by decide +kernel
theorem dX6_flushAt_27 : decode cX6_flushAt 27 = .ok (.ifCond .eq 7, 3) := by decide +kernel
theorem dX6_flushAt_30 : decode cX6_flushAt 30 = .ok (.iconst 0, 1) := by decide +kernel
theorem dX6_flushAt_31 : decode cX6_flushAt 31 = .ok (.goto 9, 3) := by decide +kernel
theorem dX6_flushAt_34 : decode cX6_flushAt 34 = .ok (.aload_n 0, 1) := by decide +kernel
theorem dX6_flushAt_35 : decode cX6_flushAt 35 = .ok (.getfield 34, 3) := by decide +kernel
theorem dX6_flushAt_38 : decode cX6_flushAt 38 = .ok (.iload_n 1, 1) := by decide +kernel
theorem dX6_flushAt_39 : decode cX6_flushAt 39 = .ok (.iaload, 1) := by decide +kernel
theorem dX6_flushAt_40 : decode cX6_flushAt 40 = .ok (.ireturn, 1) := by decide +kernel
theorem dX6_connect_0 : decode cX6_connect 0 = .ok (.iconst 0, 1) := by decide +kernel
theorem dX6_connect_1 : decode cX6_connect 1 = .ok (.istore_n 1, 1) := by decide +kernel
theorem dX6_connect_2 : decode cX6_connect 2 = .ok (.iload_n 1, 1) := by decide +kernel
theorem dX6_connect_3 : decode cX6_connect 3 = .ok (.sipush 144, 3) := by decide +kernel
theorem dX6_connect_6 : decode cX6_connect 6 = .ok (.if_icmp .ge 32, 3) := by decide +kernel
theorem dX6_connect_9 : decode cX6_connect 9 = .ok (.aload_n 0, 1) := by decide +kernel
theorem dX6_connect_10 : decode cX6_connect 10 = .ok (.getfield 28, 3) := by decide +kernel
theorem dX6_connect_13 : decode cX6_connect 13 = .ok (.iload_n 1, 1) := by decide +kernel
theorem dX6_connect_14 : decode cX6_connect 14 = .ok (.iload_n 1, 1) := by decide +kernel
theorem dX6_connect_15 : decode cX6_connect 15 = .ok (.bipush 12, 2) := by decide +kernel
theorem dX6_connect_17 : decode cX6_connect 17 = .ok (.idiv, 1) := by decide +kernel
theorem dX6_connect_18 : decode cX6_connect 18 = .ok (.iload_n 1, 1) := by decide +kernel
theorem dX6_connect_19 : decode cX6_connect 19 = .ok (.bipush 12, 2) := by decide +kernel
theorem dX6_connect_21 : decode cX6_connect 21 = .ok (.irem, 1) := by decide +kernel
theorem dX6_connect_22 : decode cX6_connect 22 = .ok (.if_icmp .ne 7, 3) := by decide +kernel
theorem dX6_connect_25 : decode cX6_connect 25 = .ok (.iconst 0, 1) := by decide +kernel
theorem dX6_connect_26 : decode cX6_connect 26 = .ok (.goto 5, 3) := by decide +kernel
theorem dX6_connect_29 : decode cX6_connect 29 = .ok (.ldc 114, 2) := by decide +kernel
theorem dX6_connect_31 : decode cX6_connect 31 = .ok (.iastore, 1) := by decide +kernel
theorem dX6_connect_32 : decode cX6_connect 32 = .ok (.iinc 1 1, 3) := by decide +kernel
theorem dX6_connect_35 : decode cX6_connect 35 = .ok (.goto (-33), 3) := by decide +kernel
theorem dX6_connect_38 : decode cX6_connect 38 = .ok (.iconst 0, 1) := by decide +kernel
theorem dX6_connect_39 : decode cX6_connect 39 = .ok (.istore_n 1, 1) := by decide +kernel
theorem dX6_connect_40 : decode cX6_connect 40 = .ok (.iload_n 1, 1) := by decide +kernel
theorem dX6_connect_41 : decode cX6_connect 41 = .ok (.aload_n 0, 1) := by decide +kernel
theorem dX6_connect_42 : decode cX6_connect 42 = .ok (.getfield 48, 3) := by decide +kernel
theorem dX6_connect_45 : decode cX6_connect 45 = .ok (.if_icmp .ge 103, 3) := by decide +kernel
theorem dX6_connect_48 : decode cX6_connect 48 = .ok (.bipush 12, 2) := by decide +kernel
theorem dX6_connect_50 : decode cX6_connect 50 = .ok (.aload_n 0, 1) := by decide +kernel
theorem dX6_connect_51 : decode cX6_connect 51 = .ok (.getfield 7, 3) := by decide +kernel
theorem dX6_connect_54 : decode cX6_connect 54 = .ok (.iconst 2, 1) := by decide +kernel
theorem dX6_connect_55 : decode cX6_connect 55 = .ok (.iload_n 1, 1) := by decide +kernel
theorem dX6_connect_56 : decode cX6_connect 56 = .ok (.imul, 1) := by decide +kernel
theorem dX6_connect_57 : decode cX6_connect 57 = .ok (.iaload, 1) := by decide +kernel
theorem dX6_connect_58 : decode cX6_connect 58 = .ok (.imul, 1) := by decide +kernel
theorem dX6_connect_59 : decode cX6_connect 59 = .ok (.aload_n 0, 1) := by decide +kernel
theorem dX6_connect_60 : decode cX6_connect 60 = .ok (.getfield 7, 3) := by decide +kernel
theorem dX6_connect_63 : decode cX6_connect 63 = .ok (.iconst 2, 1) := by decide +kernel
theorem dX6_connect_64 : decode cX6_connect 64 = .ok (.iload_n 1, 1) := by decide +kernel
theorem dX6_connect_65 : decode cX6_connect 65 = .ok (.imul, 1) := by decide +kernel
theorem dX6_connect_66 : decode cX6_connect 66 = .ok (.iconst 1, 1) := by decide +kernel
theorem dX6_connect_67 : decode cX6_connect 67 = .ok (.iadd, 1) := by decide +kernel
theorem dX6_connect_68 : decode cX6_connect 68 = .ok (.iaload, 1) := by decide +kernel
theorem dX6_connect_69 : decode cX6_connect 69 = .ok (.iadd, 1) := by decide +kernel
theorem dX6_connect_70 : decode cX6_connect 70 = .ok (.istore_n 2, 1) := by decide +kernel
theorem dX6_connect_71 : decode cX6_connect 71 = .ok (.bipush 12, 2) := by decide +kernel
theorem dX6_connect_73 : decode cX6_connect 73 = .ok (.aload_n 0, 1) := by decide +kernel
theorem dX6_connect_74 : decode cX6_connect 74 = .ok (.getfield 7, 3) := by decide +kernel
theorem dX6_connect_77 : decode cX6_connect 77 = .ok (.iconst 2, 1) := by decide +kernel
theorem dX6_connect_78 : decode cX6_connect 78 = .ok (.iload_n 1, 1) := by decide +kernel
theorem dX6_connect_79 : decode cX6_connect 79 = .ok (.imul, 1) := by decide +kernel
theorem dX6_connect_80 : decode cX6_connect 80 = .ok (.iconst 1, 1) := by decide +kernel
theorem dX6_connect_81 : decode cX6_connect 81 = .ok (.iadd, 1) := by decide +kernel
theorem dX6_connect_82 : decode cX6_connect 82 = .ok (.iaload, 1) := by decide +kernel
theorem dX6_connect_83 : decode cX6_connect 83 = .ok (.imul, 1) := by decide +kernel
theorem dX6_connect_84 : decode cX6_connect 84 = .ok (.aload_n 0, 1) := by decide +kernel
theorem dX6_connect_85 : decode cX6_connect 85 = .ok (.getfield 7, 3) := by decide +kernel
theorem dX6_connect_88 : decode cX6_connect 88 = .ok (.iconst 2, 1) := by decide +kernel
theorem dX6_connect_89 : decode cX6_connect 89 = .ok (.iload_n 1, 1) := by decide +kernel
theorem dX6_connect_90 : decode cX6_connect 90 = .ok (.imul, 1) := by decide +kernel
theorem dX6_connect_91 : decode cX6_connect 91 = .ok (.iaload, 1) := by decide +kernel
theorem dX6_connect_92 : decode cX6_connect 92 = .ok (.iadd, 1) := by decide +kernel
theorem dX6_connect_93 : decode cX6_connect 93 = .ok (.istore_n 3, 1) := by decide +kernel
theorem dX6_connect_94 : decode cX6_connect 94 = .ok (.aload_n 0, 1) := by decide +kernel
theorem dX6_connect_95 : decode cX6_connect 95 = .ok (.getfield 28, 3) := by decide +kernel
theorem dX6_connect_98 : decode cX6_connect 98 = .ok (.iload_n 2, 1) := by decide +kernel
theorem dX6_connect_99 : decode cX6_connect 99 = .ok (.aload_n 0, 1) := by decide +kernel
theorem dX6_connect_100 : decode cX6_connect 100 = .ok (.getfield 16, 3) := by decide +kernel
theorem dX6_connect_103 : decode cX6_connect 103 = .ok (.iload_n 1, 1) := by decide +kernel
theorem dX6_connect_104 : decode cX6_connect 104 = .ok (.iaload, 1) := by decide +kernel
theorem dX6_connect_105 : decode cX6_connect 105 = .ok (.aload_n 0, 1) := by decide +kernel
theorem dX6_connect_106 : decode cX6_connect 106 = .ok (.getfield 28, 3) := by decide +kernel
theorem dX6_connect_109 : decode cX6_connect 109 = .ok (.iload_n 2, 1) := by decide +kernel
theorem dX6_connect_110 : decode cX6_connect 110 = .ok (.iaload, 1) := by decide +kernel
theorem dX6_connect_111 : decode cX6_connect 111 = .ok (.if_icmp .ge 12, 3) := by decide +kernel
theorem dX6_connect_114 : decode cX6_connect 114 = .ok (.aload_n 0, 1) := by decide +kernel
theorem dX6_connect_115 : decode cX6_connect 115 = .ok (.getfield 16, 3) := by decide +kernel
theorem dX6_connect_118 : decode cX6_connect 118 = .ok (.iload_n 1, 1) := by decide +kernel
theorem dX6_connect_119 : decode cX6_connect 119 = .ok (.iaload, 1) := by decide +kernel
theorem dX6_connect_120 : decode cX6_connect 120 = .ok (.goto 9, 3) := by decide +kernel
theorem dX6_connect_123 : decode cX6_connect 123 = .ok (.aload_n 0, 1) := by decide +kernel
theorem dX6_connect_124 : decode cX6_connect 124 = .ok (.getfield 28, 3) := by decide +kernel
theorem dX6_connect_127 : decode cX6_connect 127 = .ok (.iload_n 2, 1) := by decide +kernel
theorem dX6_connect_128 : decode cX6_connect 128 = .ok (.iaload, 1) := by decide +kernel
theorem dX6_connect_129 : decode cX6_connect 129 = .ok (.iastore, 1) := by decide +kernel
theorem dX6_connect_130 : decode cX6_connect 130 = .ok (.aload_n 0, 1) := by decide +kernel
theorem dX6_connect_131 : decode cX6_connect 131 = .ok (.getfield 28, 3) := by decide +kernel
theorem dX6_connect_134 : decode cX6_connect 134 = .ok (.iload_n 3, 1) := by decide +kernel
theorem dX6_connect_135 : decode cX6_connect 135 = .ok (.aload_n 0, 1) := by decide +kernel
theorem dX6_connect_136 : decode cX6_connect 136 = .ok (.getfield 28, 3) := by decide +kernel
theorem dX6_connect_139 : decode cX6_connect 139 = .ok (.iload_n 2, 1) := by decide +kernel
theorem dX6_connect_140 : decode cX6_connect 140 = .ok (.iaload, 1) := by decide +kernel
theorem dX6_connect_141 : decode cX6_connect 141 = .ok (.iastore, 1) := by decide +kernel
theorem dX6_connect_142 : decode cX6_connect 142 = .ok (.iinc 1 1, 3) := by decide +kernel
theorem dX6_connect_145 : decode cX6_connect 145 = .ok (.goto (-105), 3) := by decide +kernel
theorem dX6_connect_148 : decode cX6_connect 148 = .ok (.iconst 0, 1) := by decide +kernel
theorem dX6_connect_149 : decode cX6_connect 149 = .ok (.istore_n 1, 1) := by decide +kernel
theorem dX6_connect_150 : decode cX6_connect 150 = .ok (.iload_n 1, 1) := by decide +kernel
theorem dX6_connect_151 : decode cX6_connect 151 = .ok (.aload_n 0, 1) := by decide +kernel
theorem dX6_connect_152 : decode cX6_connect 152 = .ok (.getfield 41, 3) := by decide +kernel
theorem dX6_connect_155 : decode cX6_connect 155 = .ok (.if_icmp .ge 80, 3) := by decide +kernel
theorem dX6_connect_158 : decode cX6_connect 158 = .ok (.iconst 0, 1) := by decide +kernel
theorem dX6_connect_159 : decode cX6_connect 159 = .ok (.istore_n 2, 1) := by decide +kernel
theorem dX6_connect_160 : decode cX6_connect 160 = .ok (.iload_n 2, 1) := by decide +kernel
theorem dX6_connect_161 : decode cX6_connect 161 = .ok (.sipush 144, 3) := by decide +kernel
theorem dX6_connect_164 : decode cX6_connect 164 = .ok (.if_icmp .ge 65, 3) := by decide +kernel
theorem dX6_connect_167 : decode cX6_connect 167 = .ok (.aload_n 0, 1) := by decide +kernel
theorem dX6_connect_168 : decode cX6_connect 168 = .ok (.getfield 28, 3) := by decide +kernel
theorem dX6_connect_171 : decode cX6_connect 171 = .ok (.iload_n 2, 1) := by decide +kernel
theorem dX6_connect_172 : decode cX6_connect 172 = .ok (.bipush 12, 2) := by decide +kernel
theorem dX6_connect_174 : decode cX6_connect 174 = .ok (.idiv, 1) := by decide +kernel
theorem dX6_connect_175 : decode cX6_connect 175 = .ok (.bipush 12, 2) := by decide +kernel
theorem dX6_connect_177 : decode cX6_connect 177 = .ok (.imul, 1) := by decide +kernel
theorem dX6_connect_178 : decode cX6_connect 178 = .ok (.iload_n 1, 1) := by decide +kernel
theorem dX6_connect_179 : decode cX6_connect 179 = .ok (.iadd, 1) := by decide +kernel
theorem dX6_connect_180 : decode cX6_connect 180 = .ok (.iaload, 1) := by decide +kernel
theorem dX6_connect_181 : decode cX6_connect 181 = .ok (.aload_n 0, 1) := by decide +kernel
theorem dX6_connect_182 : decode cX6_connect 182 = .ok (.getfield 28, 3) := by decide +kernel
theorem dX6_connect_185 : decode cX6_connect 185 = .ok (.bipush 12, 2) := by decide +kernel
theorem dX6_connect_187 : decode cX6_connect 187 = .ok (.iload_n 1, 1) := by decide +kernel
theorem dX6_connect_188 : decode cX6_connect 188 = .ok (.imul, 1) := by decide +kernel
theorem dX6_connect_189 : decode cX6_connect 189 = .ok (.iload_n 2, 1) := by decide +kernel
theorem dX6_connect_190 : decode cX6_connect 190 = .ok (.bipush 12, 2) := by decide +kernel
theorem dX6_connect_192 : decode cX6_connect 192 = .ok (.irem, 1) := by decide +kernel
theorem dX6_connect_193 : decode cX6_connect 193 = .ok (.iadd, 1) := by decide +kernel
theorem dX6_connect_194 : decode cX6_connect 194 = .ok (.iaload, 1) := by decide +kernel
theorem dX6_connect_195 : decode cX6_connect 195 = .ok (.iadd, 1) := by decide +kernel
theorem dX6_connect_196 : decode cX6_connect 196 = .ok (.istore_n 3, 1) := by decide +kernel
theorem dX6_connect_197 : decode cX6_connect 197 = .ok (.aload_n 0, 1) := by decide +kernel
theorem dX6_connect_198 : decode cX6_connect 198 = .ok (.getfield 28, 3) := by decide +kernel
theorem dX6_connect_201 : decode cX6_connect 201 = .ok (.iload_n 2, 1) := by decide +kernel
theorem dX6_connect_202 : decode cX6_connect 202 = .ok (.iload_n 3, 1) := by decide +kernel
theorem dX6_connect_203 : decode cX6_connect 203 = .ok (.aload_n 0, 1) := by decide +kernel
theorem dX6_connect_204 : decode cX6_connect 204 = .ok (.getfield 28, 3) := by decide +kernel
theorem dX6_connect_207 : decode cX6_connect 207 = .ok (.iload_n 2, 1) := by decide +kernel
theorem dX6_connect_208 : decode cX6_connect 208 = .ok (.iaload, 1) := by decide +kernel
theorem dX6_connect_209 : decode cX6_connect 209 = .ok (.if_icmp .ge 7, 3) := by decide +kernel
theorem dX6_connect_212 : decode cX6_connect 212 = .ok (.iload_n 3, 1) := by decide +kernel
theorem dX6_connect_213 : decode cX6_connect 213 = .ok (.goto 9, 3) := by decide +kernel
theorem dX6_connect_216 : decode cX6_connect 216 = .ok (.aload_n 0, 1) := by decide +kernel
theorem dX6_connect_217 : decode cX6_connect 217 = .ok (.getfield 28, 3) := by decide +kernel
theorem dX6_connect_220 : decode cX6_connect 220 = .ok (.iload_n 2, 1) := by decide +kernel
theorem dX6_connect_221 : decode cX6_connect 221 = .ok (.iaload, 1) := by decide +kernel
theorem dX6_connect_222 : decode cX6_connect 222 = .ok (.iastore, 1) := by decide +kernel
theorem dX6_connect_223 : decode cX6_connect 223 = .ok (.iinc 2 1, 3) := by decide +kernel
theorem dX6_connect_226 : decode cX6_connect 226 = .ok (.goto (-66), 3) := by decide +kernel
theorem dX6_connect_229 : decode cX6_connect 229 = .ok (.iinc 1 1, 3) := by decide +kernel
theorem dX6_connect_232 : decode cX6_connect 232 = .ok (.goto (-82), 3) := by decide +kernel
theorem dX6_connect_235 : decode cX6_connect 235 = .ok (.return_, 1) := by decide +kernel
theorem dX6_walked_0 : decode cX6_walked 0 = .ok (.iload_n 1, 1) := by decide +kernel
theorem dX6_walked_1 : decode cX6_walked 1 = .ok (.istore 4, 2) := by decide +kernel
theorem dX6_walked_3 : decode cX6_walked 3 = .ok (.iconst 0, 1) := by decide +kernel
theorem dX6_walked_4 : decode cX6_walked 4 = .ok (.istore 5, 2) := by decide +kernel
theorem dX6_walked_6 : decode cX6_walked 6 = .ok (.iconst 0, 1) := by decide +kernel
theorem dX6_walked_7 : decode cX6_walked 7 = .ok (.istore 6, 2) := by decide +kernel
theorem dX6_walked_9 : decode cX6_walked 9 = .ok (.iload_n 3, 1) := by decide +kernel
theorem dX6_walked_10 : decode cX6_walked 10 = .ok (.istore 7, 2) := by decide +kernel
theorem dX6_walked_12 : decode cX6_walked 12 = .ok (.iconst 0, 1) := by decide +kernel
theorem dX6_walked_13 : decode cX6_walked 13 = .ok (.istore 8, 2) := by decide +kernel
theorem dX6_walked_15 : decode cX6_walked 15 = .ok (.iload 8, 2) := by decide +kernel
theorem dX6_walked_17 : decode cX6_walked 17 = .ok (.iload_n 2, 1) := by decide +kernel
theorem dX6_walked_18 : decode cX6_walked 18 = .ok (.if_icmp .ge 76, 3) := by decide +kernel
theorem dX6_walked_21 : decode cX6_walked 21 = .ok (.iload 7, 2) := by decide +kernel
theorem dX6_walked_23 : decode cX6_walked 23 = .ok (.iload_n 2, 1) := by decide +kernel
theorem dX6_walked_24 : decode cX6_walked 24 = .ok (.irem, 1) := by decide +kernel
theorem dX6_walked_25 : decode cX6_walked 25 = .ok (.istore 9, 2) := by decide +kernel
theorem dX6_walked_27 : decode cX6_walked 27 = .ok (.iload 6, 2) := by decide +kernel
theorem dX6_walked_29 : decode cX6_walked 29 = .ok (.iload 9, 2) := by decide +kernel
theorem dX6_walked_31 : decode cX6_walked 31 = .ok (.ishr, 1) := by decide +kernel
theorem dX6_walked_32 : decode cX6_walked 32 = .ok (.iconst 1, 1) := by decide +kernel
theorem dX6_walked_33 : decode cX6_walked 33 = .ok (.iand, 1) := by decide +kernel
theorem dX6_walked_34 : decode cX6_walked 34 = .ok (.iconst 1, 1) := by decide +kernel
theorem dX6_walked_35 : decode cX6_walked 35 = .ok (.if_icmp .ne 6, 3) := by decide +kernel
theorem dX6_walked_38 : decode cX6_walked 38 = .ok (.ldc 114, 2) := by decide +kernel
theorem dX6_walked_40 : decode cX6_walked 40 = .ok (.ireturn, 1) := by decide +kernel
theorem dX6_walked_41 : decode cX6_walked 41 = .ok (.iload 6, 2) := by decide +kernel
theorem dX6_walked_43 : decode cX6_walked 43 = .ok (.iconst 1, 1) := by decide +kernel
theorem dX6_walked_44 : decode cX6_walked 44 = .ok (.iload 9, 2) := by decide +kernel
theorem dX6_walked_46 : decode cX6_walked 46 = .ok (.ishl, 1) := by decide +kernel
theorem dX6_walked_47 : decode cX6_walked 47 = .ok (.ior, 1) := by decide +kernel
theorem dX6_walked_48 : decode cX6_walked 48 = .ok (.istore 6, 2) := by decide +kernel
theorem dX6_walked_50 : decode cX6_walked 50 = .ok (.iload 5, 2) := by decide +kernel
theorem dX6_walked_52 : decode cX6_walked 52 = .ok (.aload_n 0, 1) := by decide +kernel
theorem dX6_walked_53 : decode cX6_walked 53 = .ok (.getfield 28, 3) := by decide +kernel
theorem dX6_walked_56 : decode cX6_walked 56 = .ok (.bipush 12, 2) := by decide +kernel
theorem dX6_walked_58 : decode cX6_walked 58 = .ok (.iload 4, 2) := by decide +kernel
theorem dX6_walked_60 : decode cX6_walked 60 = .ok (.imul, 1) := by decide +kernel
theorem dX6_walked_61 : decode cX6_walked 61 = .ok (.aload_n 0, 1) := by decide +kernel
theorem dX6_walked_62 : decode cX6_walked 62 = .ok (.getfield 31, 3) := by decide +kernel
theorem dX6_walked_65 : decode cX6_walked 65 = .ok (.iload 9, 2) := by decide +kernel
theorem dX6_walked_67 : decode cX6_walked 67 = .ok (.iaload, 1) := by decide +kernel
theorem dX6_walked_68 : decode cX6_walked 68 = .ok (.iadd, 1) := by decide +kernel
theorem dX6_walked_69 : decode cX6_walked 69 = .ok (.iaload, 1) := by decide +kernel
theorem dX6_walked_70 : decode cX6_walked 70 = .ok (.iadd, 1) := by decide +kernel
theorem dX6_walked_71 : decode cX6_walked 71 = .ok (.istore 5, 2) := by decide +kernel
theorem dX6_walked_73 : decode cX6_walked 73 = .ok (.aload_n 0, 1) := by decide +kernel
theorem dX6_walked_74 : decode cX6_walked 74 = .ok (.getfield 31, 3) := by decide +kernel
theorem dX6_walked_77 : decode cX6_walked 77 = .ok (.iload 9, 2) := by decide +kernel
theorem dX6_walked_79 : decode cX6_walked 79 = .ok (.iaload, 1) := by decide +kernel
theorem dX6_walked_80 : decode cX6_walked 80 = .ok (.istore 4, 2) := by decide +kernel
theorem dX6_walked_82 : decode cX6_walked 82 = .ok (.iload 7, 2) := by decide +kernel
theorem dX6_walked_84 : decode cX6_walked 84 = .ok (.iload_n 2, 1) := by decide +kernel
theorem dX6_walked_85 : decode cX6_walked 85 = .ok (.idiv, 1) := by decide +kernel
theorem dX6_walked_86 : decode cX6_walked 86 = .ok (.istore 7, 2) := by decide +kernel
theorem dX6_walked_88 : decode cX6_walked 88 = .ok (.iinc 8 1, 3) := by decide +kernel
theorem dX6_walked_91 : decode cX6_walked 91 = .ok (.goto (-76), 3) := by decide +kernel
theorem dX6_walked_94 : decode cX6_walked 94 = .ok (.iload 5, 2) := by decide +kernel
theorem dX6_walked_96 : decode cX6_walked 96 = .ok (.ireturn, 1) := by decide +kernel
set_option maxRecDepth 20000 in
theorem ggX6_walk_X6_bits : GoodIn wsX6_walk wsX6_bits := goodIn_r _ [9] (by decide +kernel) (by decide +kernel)
set_option maxRecDepth 20000 in
theorem gX6_walk_X6_bits : GoodIn wsX6_walk (va_wsS RX6 108 yX6_bits wsX6_bits) := goodIn_app (goodIn_of _ (by decide +kernel)) ggX6_walk_X6_bits
set_option maxRecDepth 20000 in
theorem ggX6_walk_X6_isNode : GoodIn wsX6_walk wsX6_isNode := goodIn_r _ [13, 14, 15, 16, 8, 17, 34, 35, 36, 37, 38, 39, 40, 41, 42, 43, 44, 45, 46, 47, 48, 49, 50] (by decide +kernel) (by decide +kernel)
set_option maxRecDepth 20000 in
theorem gX6_walk_X6_isNode : GoodIn wsX6_walk (wsV RX6 61 RX6 yX6_isNode wsX6_isNode) := goodIn_app (goodIn_of _ (by decide +kernel)) ggX6_walk_X6_isNode
set_option maxRecDepth 20000 in
theorem ggX6_walk_X6_refused : GoodIn wsX6_walk wsX6_refused := goodIn_r _ [21, 22, 34, 35, 36, 37, 38, 39, 40, 41, 42, 43, 44, 45, 46, 47, 48, 49, 50] (by decide +kernel) (by decide +kernel)
set_option maxRecDepth 20000 in
theorem gX6_walk_X6_refused : GoodIn wsX6_walk (wsV RX6 54 RX6 yX6_refused wsX6_refused) := goodIn_app (goodIn_of _ (by decide +kernel)) ggX6_walk_X6_refused
set_option maxRecDepth 20000 in
theorem ggX6_walk_X6_connect : GoodIn wsX6_walk wsX6_connect := goodIn_r _ [26, 27, 5, 28, 3, 29, 14, 34, 35, 36, 37, 38, 39, 40, 41, 42, 43, 44, 45, 46, 47, 48, 49, 50] (by decide +kernel) (by decide +kernel)
set_option maxRecDepth 20000 in
theorem gX6_walk_X6_connect : GoodIn wsX6_walk (wsV RX6 127 RX6 yX6_connect wsX6_connect) := goodIn_app (goodIn_of _ (by decide +kernel)) ggX6_walk_X6_connect
set_option maxRecDepth 20000 in
theorem ggX6_walk_X6_walked : GoodIn wsX6_walk wsX6_walked := goodIn_r _ [33, 5, 27, 2, 34, 35, 36, 37, 38, 39, 40, 41, 42, 43, 44, 45, 46, 47, 48, 49, 50] (by decide +kernel) (by decide +kernel)
set_option maxRecDepth 20000 in
theorem gX6_walk_X6_walked : GoodIn wsX6_walk (wsV RX6 130 RX6 yX6_walked wsX6_walked) := goodIn_app (goodIn_of _ (by decide +kernel)) ggX6_walk_X6_walked
theorem dX6_walk_0 : decode cX6_walk 0 = .ok (.iload_n 2, 1) := by decide +kernel
theorem dX6_walk_1 : decode cX6_walk 1 = .ok (.ifCond .lt 26, 3) := by decide +kernel
theorem dX6_walk_4 : decode cX6_walk 4 = .ok (.iload_n 2, 1) := by decide +kernel
theorem dX6_walk_5 : decode cX6_walk 5 = .ok (.iconst 1, 1) := by decide +kernel
theorem dX6_walk_6 : decode cX6_walk 6 = .ok (.aload_n 0, 1) := by decide +kernel
theorem dX6_walk_7 : decode cX6_walk 7 = .ok (.getfield 51, 3) := by decide +kernel
theorem dX6_walk_10 : decode cX6_walk 10 = .ok (.ishl, 1) := by decide +kernel
theorem dX6_walk_11 : decode cX6_walk 11 = .ok (.if_icmp .ge 16, 3) := by decide +kernel
theorem dX6_walk_14 : decode cX6_walk 14 = .ok (.iload_n 2, 1) := by decide +kernel
theorem dX6_walk_15 : decode cX6_walk 15 = .ok (.invokestatic 108, 3) := by decide +kernel
theorem dX6_walk_18 : decode cX6_walk 18 = .ok (.bipush 6, 2) := by decide +kernel
theorem dX6_walk_20 : decode cX6_walk 20 = .ok (.if_icmp .gt 7, 3) := by decide +kernel
theorem dX6_walk_23 : decode cX6_walk 23 = .ok (.iconst 1, 1) := by decide +kernel
theorem dX6_walk_24 : decode cX6_walk 24 = .ok (.goto 4, 3) := by decide +kernel
theorem dX6_walk_27 : decode cX6_walk 27 = .ok (.iconst 0, 1) := by decide +kernel
theorem dX6_walk_28 : decode cX6_walk 28 = .ok (.istore_n 3, 1) := by decide +kernel
theorem dX6_walk_29 : decode cX6_walk 29 = .ok (.aload_n 0, 1) := by decide +kernel
theorem dX6_walk_30 : decode cX6_walk 30 = .ok (.aload_n 0, 1) := by decide +kernel
theorem dX6_walk_31 : decode cX6_walk 31 = .ok (.iload_n 1, 1) := by decide +kernel
theorem dX6_walk_32 : decode cX6_walk 32 = .ok (.invokevirtual 61, 3) := by decide +kernel
theorem dX6_walk_35 : decode cX6_walk 35 = .ok (.ifCond .ne 7, 3) := by decide +kernel
theorem dX6_walk_38 : decode cX6_walk 38 = .ok (.iconst 1, 1) := by decide +kernel
theorem dX6_walk_39 : decode cX6_walk 39 = .ok (.goto 12, 3) := by decide +kernel
theorem dX6_walk_42 : decode cX6_walk 42 = .ok (.iload_n 3, 1) := by decide +kernel
theorem dX6_walk_43 : decode cX6_walk 43 = .ok (.ifCond .eq 7, 3) := by decide +kernel
theorem dX6_walk_46 : decode cX6_walk 46 = .ok (.iconst 0, 1) := by decide +kernel
theorem dX6_walk_47 : decode cX6_walk 47 = .ok (.goto 4, 3) := by decide +kernel
theorem dX6_walk_50 : decode cX6_walk 50 = .ok (.iconst 2, 1) := by decide +kernel
theorem dX6_walk_51 : decode cX6_walk 51 = .ok (.invokevirtual 54, 3) := by decide +kernel
theorem dX6_walk_54 : decode cX6_walk 54 = .ok (.ifCond .eq 5, 3) := by decide +kernel
theorem dX6_walk_57 : decode cX6_walk 57 = .ok (.iconst 0, 1) := by decide +kernel
theorem dX6_walk_58 : decode cX6_walk 58 = .ok (.ireturn, 1) := by decide +kernel
theorem dX6_walk_59 : decode cX6_walk 59 = .ok (.iconst 0, 1) := by decide +kernel
theorem dX6_walk_60 : decode cX6_walk 60 = .ok (.istore 4, 2) := by decide +kernel
theorem dX6_walk_62 : decode cX6_walk 62 = .ok (.iconst 0, 1) := by decide +kernel
theorem dX6_walk_63 : decode cX6_walk 63 = .ok (.istore 5, 2) := by decide +kernel
theorem dX6_walk_65 : decode cX6_walk 65 = .ok (.iload 5, 2) := by decide +kernel
theorem dX6_walk_67 : decode cX6_walk 67 = .ok (.aload_n 0, 1) := by decide +kernel
theorem dX6_walk_68 : decode cX6_walk 68 = .ok (.getfield 51, 3) := by decide +kernel
theorem dX6_walk_71 : decode cX6_walk 71 = .ok (.if_icmp .ge 41, 3) := by decide +kernel
theorem dX6_walk_74 : decode cX6_walk 74 = .ok (.iload_n 2, 1) := by decide +kernel
theorem dX6_walk_75 : decode cX6_walk 75 = .ok (.iload 5, 2) := by decide +kernel
theorem dX6_walk_77 : decode cX6_walk 77 = .ok (.ishr, 1) := by decide +kernel
theorem dX6_walk_78 : decode cX6_walk 78 = .ok (.iconst 1, 1) := by decide +kernel
theorem dX6_walk_79 : decode cX6_walk 79 = .ok (.iand, 1) := by decide +kernel
theorem dX6_walk_80 : decode cX6_walk 80 = .ok (.iconst 1, 1) := by decide +kernel
theorem dX6_walk_81 : decode cX6_walk 81 = .ok (.if_icmp .ne 25, 3) := by decide +kernel
theorem dX6_walk_84 : decode cX6_walk 84 = .ok (.aload_n 0, 1) := by decide +kernel
theorem dX6_walk_85 : decode cX6_walk 85 = .ok (.getfield 31, 3) := by decide +kernel
theorem dX6_walk_88 : decode cX6_walk 88 = .ok (.iload 4, 2) := by decide +kernel
theorem dX6_walk_90 : decode cX6_walk 90 = .ok (.aload_n 0, 1) := by decide +kernel
theorem dX6_walk_91 : decode cX6_walk 91 = .ok (.getfield 7, 3) := by decide +kernel
theorem dX6_walk_94 : decode cX6_walk 94 = .ok (.aload_n 0, 1) := by decide +kernel
theorem dX6_walk_95 : decode cX6_walk 95 = .ok (.getfield 22, 3) := by decide +kernel
theorem dX6_walk_98 : decode cX6_walk 98 = .ok (.iload 5, 2) := by decide +kernel
theorem dX6_walk_100 : decode cX6_walk 100 = .ok (.iaload, 1) := by decide +kernel
theorem dX6_walk_101 : decode cX6_walk 101 = .ok (.iaload, 1) := by decide +kernel
theorem dX6_walk_102 : decode cX6_walk 102 = .ok (.iastore, 1) := by decide +kernel
theorem dX6_walk_103 : decode cX6_walk 103 = .ok (.iinc 4 1, 3) := by decide +kernel
theorem dX6_walk_106 : decode cX6_walk 106 = .ok (.iinc 5 1, 3) := by decide +kernel
theorem dX6_walk_109 : decode cX6_walk 109 = .ok (.goto (-44), 3) := by decide +kernel
theorem dX6_walk_112 : decode cX6_walk 112 = .ok (.aload_n 0, 1) := by decide +kernel
theorem dX6_walk_113 : decode cX6_walk 113 = .ok (.invokevirtual 127, 3) := by decide +kernel
theorem dX6_walk_116 : decode cX6_walk 116 = .ok (.iconst 1, 1) := by decide +kernel
theorem dX6_walk_117 : decode cX6_walk 117 = .ok (.istore 5, 2) := by decide +kernel
theorem dX6_walk_119 : decode cX6_walk 119 = .ok (.iconst 0, 1) := by decide +kernel
theorem dX6_walk_120 : decode cX6_walk 120 = .ok (.istore 6, 2) := by decide +kernel
theorem dX6_walk_122 : decode cX6_walk 122 = .ok (.iload 6, 2) := by decide +kernel
theorem dX6_walk_124 : decode cX6_walk 124 = .ok (.iload 4, 2) := by decide +kernel
theorem dX6_walk_126 : decode cX6_walk 126 = .ok (.if_icmp .ge 16, 3) := by decide +kernel
theorem dX6_walk_129 : decode cX6_walk 129 = .ok (.iload 5, 2) := by decide +kernel
theorem dX6_walk_131 : decode cX6_walk 131 = .ok (.iload 4, 2) := by decide +kernel
theorem dX6_walk_133 : decode cX6_walk 133 = .ok (.imul, 1) := by decide +kernel
theorem dX6_walk_134 : decode cX6_walk 134 = .ok (.istore 5, 2) := by decide +kernel
theorem dX6_walk_136 : decode cX6_walk 136 = .ok (.iinc 6 1, 3) := by decide +kernel
theorem dX6_walk_139 : decode cX6_walk 139 = .ok (.goto (-17), 3) := by decide +kernel
theorem dX6_walk_142 : decode cX6_walk 142 = .ok (.ldc 114, 2) := by decide +kernel
theorem dX6_walk_144 : decode cX6_walk 144 = .ok (.istore 6, 2) := by decide +kernel
theorem dX6_walk_146 : decode cX6_walk 146 = .ok (.iconst 0, 1) := by decide +kernel
theorem dX6_walk_147 : decode cX6_walk 147 = .ok (.istore 7, 2) := by decide +kernel
theorem dX6_walk_149 : decode cX6_walk 149 = .ok (.iload 7, 2) := by decide +kernel
theorem dX6_walk_151 : decode cX6_walk 151 = .ok (.iload 5, 2) := by decide +kernel
theorem dX6_walk_153 : decode cX6_walk 153 = .ok (.if_icmp .ge 36, 3) := by decide +kernel
theorem dX6_walk_156 : decode cX6_walk 156 = .ok (.aload_n 0, 1) := by decide +kernel
theorem dX6_walk_157 : decode cX6_walk 157 = .ok (.iload_n 1, 1) := by decide +kernel
theorem dX6_walk_158 : decode cX6_walk 158 = .ok (.iload 4, 2) := by decide +kernel
theorem dX6_walk_160 : decode cX6_walk 160 = .ok (.iload 7, 2) := by decide +kernel
theorem dX6_walk_162 : decode cX6_walk 162 = .ok (.invokevirtual 130, 3) := by decide +kernel
theorem dX6_walk_165 : decode cX6_walk 165 = .ok (.istore 8, 2) := by decide +kernel
theorem dX6_walk_167 : decode cX6_walk 167 = .ok (.iload 8, 2) := by decide +kernel
theorem dX6_walk_169 : decode cX6_walk 169 = .ok (.iload 6, 2) := by decide +kernel
theorem dX6_walk_171 : decode cX6_walk 171 = .ok (.if_icmp .ge 8, 3) := by decide +kernel
theorem dX6_walk_174 : decode cX6_walk 174 = .ok (.iload 8, 2) := by decide +kernel
theorem dX6_walk_176 : decode cX6_walk 176 = .ok (.goto 5, 3) := by decide +kernel
theorem dX6_walk_179 : decode cX6_walk 179 = .ok (.iload 6, 2) := by decide +kernel
theorem dX6_walk_181 : decode cX6_walk 181 = .ok (.istore 6, 2) := by decide +kernel
theorem dX6_walk_183 : decode cX6_walk 183 = .ok (.iinc 7 1, 3) := by decide +kernel
theorem dX6_walk_186 : decode cX6_walk 186 = .ok (.goto (-37), 3) := by decide +kernel
theorem dX6_walk_189 : decode cX6_walk 189 = .ok (.iload 6, 2) := by decide +kernel
theorem dX6_walk_191 : decode cX6_walk 191 = .ok (.ldc 114, 2) := by decide +kernel
theorem dX6_walk_193 : decode cX6_walk 193 = .ok (.if_icmp .lt 7, 3) := by decide +kernel
theorem dX6_walk_196 : decode cX6_walk 196 = .ok (.iconst (-1), 1) := by decide +kernel
theorem dX6_walk_197 : decode cX6_walk 197 = .ok (.goto 5, 3) := by decide +kernel
theorem dX6_walk_200 : decode cX6_walk 200 = .ok (.iload 6, 2) := by decide +kernel
theorem dX6_walk_202 : decode cX6_walk 202 = .ok (.ireturn, 1) := by decide +kernel
theorem dJ6_numberOfTrailingZeros_0f7a4_0 : decode cJ6_numberOfTrailingZeros_0f7a4 0 = .ok (.iload_n 0, 1) := by decide +kernel
theorem dJ6_numberOfTrailingZeros_0f7a4_1 : decode cJ6_numberOfTrailingZeros_0f7a4 1 = .ok (.iconst (-1), 1) := by decide +kernel
theorem dJ6_numberOfTrailingZeros_0f7a4_2 : decode cJ6_numberOfTrailingZeros_0f7a4 2 = .ok (.ixor, 1) := by decide +kernel
theorem dJ6_numberOfTrailingZeros_0f7a4_3 : decode cJ6_numberOfTrailingZeros_0f7a4 3 = .ok (.iload_n 0, 1) := by decide +kernel
theorem dJ6_numberOfTrailingZeros_0f7a4_4 : decode cJ6_numberOfTrailingZeros_0f7a4 4 = .ok (.iconst 1, 1) := by decide +kernel
theorem dJ6_numberOfTrailingZeros_0f7a4_5 : decode cJ6_numberOfTrailingZeros_0f7a4 5 = .ok (.isub, 1) := by decide +kernel
theorem dJ6_numberOfTrailingZeros_0f7a4_6 : decode cJ6_numberOfTrailingZeros_0f7a4 6 = .ok (.iand, 1) := by decide +kernel
theorem dJ6_numberOfTrailingZeros_0f7a4_7 : decode cJ6_numberOfTrailingZeros_0f7a4 7 = .ok (.istore_n 0, 1) := by decide +kernel
theorem dJ6_numberOfTrailingZeros_0f7a4_8 : decode cJ6_numberOfTrailingZeros_0f7a4 8 = .ok (.iload_n 0, 1) := by decide +kernel
theorem dJ6_numberOfTrailingZeros_0f7a4_9 : decode cJ6_numberOfTrailingZeros_0f7a4 9 = .ok (.ifCond .gt 8, 3) := by decide +kernel
theorem dJ6_numberOfTrailingZeros_0f7a4_12 : decode cJ6_numberOfTrailingZeros_0f7a4 12 = .ok (.iload_n 0, 1) := by decide +kernel
theorem dJ6_numberOfTrailingZeros_0f7a4_13 : decode cJ6_numberOfTrailingZeros_0f7a4 13 = .ok (.bipush 32, 2) := by decide +kernel
theorem dJ6_numberOfTrailingZeros_0f7a4_15 : decode cJ6_numberOfTrailingZeros_0f7a4 15 = .ok (.iand, 1) := by decide +kernel
theorem dJ6_numberOfTrailingZeros_0f7a4_16 : decode cJ6_numberOfTrailingZeros_0f7a4 16 = .ok (.ireturn, 1) := by decide +kernel
theorem dJ6_numberOfTrailingZeros_0f7a4_17 : decode cJ6_numberOfTrailingZeros_0f7a4 17 = .ok (.iconst 1, 1) := by decide +kernel
theorem dJ6_numberOfTrailingZeros_0f7a4_18 : decode cJ6_numberOfTrailingZeros_0f7a4 18 = .ok (.istore_n 1, 1) := by decide +kernel
theorem dJ6_numberOfTrailingZeros_0f7a4_19 : decode cJ6_numberOfTrailingZeros_0f7a4 19 = .ok (.iload_n 0, 1) := by decide +kernel
theorem dJ6_numberOfTrailingZeros_0f7a4_20 : decode cJ6_numberOfTrailingZeros_0f7a4 20 = .ok (.ldc_w 264, 3) := by decide +kernel
theorem dJ6_numberOfTrailingZeros_0f7a4_23 : decode cJ6_numberOfTrailingZeros_0f7a4 23 = .ok (.if_icmp .le 11, 3) := by decide +kernel
theorem dJ6_numberOfTrailingZeros_0f7a4_26 : decode cJ6_numberOfTrailingZeros_0f7a4 26 = .ok (.iinc 1 16, 3) := by decide +kernel
theorem dJ6_numberOfTrailingZeros_0f7a4_29 : decode cJ6_numberOfTrailingZeros_0f7a4 29 = .ok (.iload_n 0, 1) := by decide +kernel
theorem dJ6_numberOfTrailingZeros_0f7a4_30 : decode cJ6_numberOfTrailingZeros_0f7a4 30 = .ok (.bipush 16, 2) := by decide +kernel
theorem dJ6_numberOfTrailingZeros_0f7a4_32 : decode cJ6_numberOfTrailingZeros_0f7a4 32 = .ok (.iushr, 1) := by decide +kernel
theorem dJ6_numberOfTrailingZeros_0f7a4_33 : decode cJ6_numberOfTrailingZeros_0f7a4 33 = .ok (.istore_n 0, 1) := by decide +kernel
theorem dJ6_numberOfTrailingZeros_0f7a4_34 : decode cJ6_numberOfTrailingZeros_0f7a4 34 = .ok (.iload_n 0, 1) := by decide +kernel
theorem dJ6_numberOfTrailingZeros_0f7a4_35 : decode cJ6_numberOfTrailingZeros_0f7a4 35 = .ok (.sipush 256, 3) := by decide +kernel
theorem dJ6_numberOfTrailingZeros_0f7a4_38 : decode cJ6_numberOfTrailingZeros_0f7a4 38 = .ok (.if_icmp .le 11, 3) := by decide +kernel
theorem dJ6_numberOfTrailingZeros_0f7a4_41 : decode cJ6_numberOfTrailingZeros_0f7a4 41 = .ok (.iinc 1 8, 3) := by decide +kernel
theorem dJ6_numberOfTrailingZeros_0f7a4_44 : decode cJ6_numberOfTrailingZeros_0f7a4 44 = .ok (.iload_n 0, 1) := by decide +kernel
theorem dJ6_numberOfTrailingZeros_0f7a4_45 : decode cJ6_numberOfTrailingZeros_0f7a4 45 = .ok (.bipush 8, 2) := by decide +kernel
theorem dJ6_numberOfTrailingZeros_0f7a4_47 : decode cJ6_numberOfTrailingZeros_0f7a4 47 = .ok (.iushr, 1) := by decide +kernel
theorem dJ6_numberOfTrailingZeros_0f7a4_48 : decode cJ6_numberOfTrailingZeros_0f7a4 48 = .ok (.istore_n 0, 1) := by decide +kernel
theorem dJ6_numberOfTrailingZeros_0f7a4_49 : decode cJ6_numberOfTrailingZeros_0f7a4 49 = .ok (.iload_n 0, 1) := by decide +kernel
theorem dJ6_numberOfTrailingZeros_0f7a4_50 : decode cJ6_numberOfTrailingZeros_0f7a4 50 = .ok (.bipush 16, 2) := by decide +kernel
theorem dJ6_numberOfTrailingZeros_0f7a4_52 : decode cJ6_numberOfTrailingZeros_0f7a4 52 = .ok (.if_icmp .le 10, 3) := by decide +kernel
theorem dJ6_numberOfTrailingZeros_0f7a4_55 : decode cJ6_numberOfTrailingZeros_0f7a4 55 = .ok (.iinc 1 4, 3) := by decide +kernel
theorem dJ6_numberOfTrailingZeros_0f7a4_58 : decode cJ6_numberOfTrailingZeros_0f7a4 58 = .ok (.iload_n 0, 1) := by decide +kernel
theorem dJ6_numberOfTrailingZeros_0f7a4_59 : decode cJ6_numberOfTrailingZeros_0f7a4 59 = .ok (.iconst 4, 1) := by decide +kernel
theorem dJ6_numberOfTrailingZeros_0f7a4_60 : decode cJ6_numberOfTrailingZeros_0f7a4 60 = .ok (.iushr, 1) := by decide +kernel
theorem dJ6_numberOfTrailingZeros_0f7a4_61 : decode cJ6_numberOfTrailingZeros_0f7a4 61 = .ok (.istore_n 0, 1) := by decide +kernel
theorem dJ6_numberOfTrailingZeros_0f7a4_62 : decode cJ6_numberOfTrailingZeros_0f7a4 62 = .ok (.iload_n 0, 1) := by decide +kernel
theorem dJ6_numberOfTrailingZeros_0f7a4_63 : decode cJ6_numberOfTrailingZeros_0f7a4 63 = .ok (.iconst 4, 1) := by decide +kernel
theorem dJ6_numberOfTrailingZeros_0f7a4_64 : decode cJ6_numberOfTrailingZeros_0f7a4 64 = .ok (.if_icmp .le 10, 3) := by decide +kernel
theorem dJ6_numberOfTrailingZeros_0f7a4_67 : decode cJ6_numberOfTrailingZeros_0f7a4 67 = .ok (.iinc 1 2, 3) := by decide +kernel
theorem dJ6_numberOfTrailingZeros_0f7a4_70 : decode cJ6_numberOfTrailingZeros_0f7a4 70 = .ok (.iload_n 0, 1) := by decide +kernel
theorem dJ6_numberOfTrailingZeros_0f7a4_71 : decode cJ6_numberOfTrailingZeros_0f7a4 71 = .ok (.iconst 2, 1) := by decide +kernel
theorem dJ6_numberOfTrailingZeros_0f7a4_72 : decode cJ6_numberOfTrailingZeros_0f7a4 72 = .ok (.iushr, 1) := by decide +kernel
theorem dJ6_numberOfTrailingZeros_0f7a4_73 : decode cJ6_numberOfTrailingZeros_0f7a4 73 = .ok (.istore_n 0, 1) := by decide +kernel
theorem dJ6_numberOfTrailingZeros_0f7a4_74 : decode cJ6_numberOfTrailingZeros_0f7a4 74 = .ok (.iload_n 1, 1) := by decide +kernel
theorem dJ6_numberOfTrailingZeros_0f7a4_75 : decode cJ6_numberOfTrailingZeros_0f7a4 75 = .ok (.iload_n 0, 1) := by decide +kernel
theorem dJ6_numberOfTrailingZeros_0f7a4_76 : decode cJ6_numberOfTrailingZeros_0f7a4 76 = .ok (.iconst 1, 1) := by decide +kernel
theorem dJ6_numberOfTrailingZeros_0f7a4_77 : decode cJ6_numberOfTrailingZeros_0f7a4 77 = .ok (.iushr, 1) := by decide +kernel
theorem dJ6_numberOfTrailingZeros_0f7a4_78 : decode cJ6_numberOfTrailingZeros_0f7a4 78 = .ok (.iadd, 1) := by decide +kernel
theorem dJ6_numberOfTrailingZeros_0f7a4_79 : decode cJ6_numberOfTrailingZeros_0f7a4 79 = .ok (.ireturn, 1) := by decide +kernel
theorem dJ6_bitCount_0f7a4_0 : decode cJ6_bitCount_0f7a4 0 = .ok (.iload_n 0, 1) := by decide +kernel
theorem dJ6_bitCount_0f7a4_1 : decode cJ6_bitCount_0f7a4 1 = .ok (.iload_n 0, 1) := by decide +kernel
theorem dJ6_bitCount_0f7a4_2 : decode cJ6_bitCount_0f7a4 2 = .ok (.iconst 1, 1) := by decide +kernel
theorem dJ6_bitCount_0f7a4_3 : decode cJ6_bitCount_0f7a4 3 = .ok (.iushr, 1) := by decide +kernel
theorem dJ6_bitCount_0f7a4_4 : decode cJ6_bitCount_0f7a4 4 = .ok (.ldc_w 265, 3) := by decide +kernel
theorem dJ6_bitCount_0f7a4_7 : decode cJ6_bitCount_0f7a4 7 = .ok (.iand, 1) := by decide +kernel
theorem dJ6_bitCount_0f7a4_8 : decode cJ6_bitCount_0f7a4 8 = .ok (.isub, 1) := by decide +kernel
theorem dJ6_bitCount_0f7a4_9 : decode cJ6_bitCount_0f7a4 9 = .ok (.istore_n 0, 1) := by decide +kernel
theorem dJ6_bitCount_0f7a4_10 : decode cJ6_bitCount_0f7a4 10 = .ok (.iload_n 0, 1) := by decide +kernel
theorem dJ6_bitCount_0f7a4_11 : decode cJ6_bitCount_0f7a4 11 = .ok (.ldc_w 266, 3) := by decide +kernel
theorem dJ6_bitCount_0f7a4_14 : decode cJ6_bitCount_0f7a4 14 = .ok (.iand, 1) := by decide +kernel
theorem dJ6_bitCount_0f7a4_15 : decode cJ6_bitCount_0f7a4 15 = .ok (.iload_n 0, 1) := by decide +kernel
theorem dJ6_bitCount_0f7a4_16 : decode cJ6_bitCount_0f7a4 16 = .ok (.iconst 2, 1) := by decide +kernel
theorem dJ6_bitCount_0f7a4_17 : decode cJ6_bitCount_0f7a4 17 = .ok (.iushr, 1) := by decide +kernel
theorem dJ6_bitCount_0f7a4_18 : decode cJ6_bitCount_0f7a4 18 = .ok (.ldc_w 266, 3) := by decide +kernel
theorem dJ6_bitCount_0f7a4_21 : decode cJ6_bitCount_0f7a4 21 = .ok (.iand, 1) := by decide +kernel
theorem dJ6_bitCount_0f7a4_22 : decode cJ6_bitCount_0f7a4 22 = .ok (.iadd, 1) := by decide +kernel
theorem dJ6_bitCount_0f7a4_23 : decode cJ6_bitCount_0f7a4 23 = .ok (.istore_n 0, 1) := by decide +kernel
theorem dJ6_bitCount_0f7a4_24 : decode cJ6_bitCount_0f7a4 24 = .ok (.iload_n 0, 1) := by decide +kernel
theorem dJ6_bitCount_0f7a4_25 : decode cJ6_bitCount_0f7a4 25 = .ok (.iload_n 0, 1) := by decide +kernel
theorem dJ6_bitCount_0f7a4_26 : decode cJ6_bitCount_0f7a4 26 = .ok (.iconst 4, 1) := by decide +kernel
theorem dJ6_bitCount_0f7a4_27 : decode cJ6_bitCount_0f7a4 27 = .ok (.iushr, 1) := by decide +kernel
theorem dJ6_bitCount_0f7a4_28 : decode cJ6_bitCount_0f7a4 28 = .ok (.iadd, 1) := by decide +kernel
theorem dJ6_bitCount_0f7a4_29 : decode cJ6_bitCount_0f7a4 29 = .ok (.ldc_w 267, 3) := by decide +kernel
theorem dJ6_bitCount_0f7a4_32 : decode cJ6_bitCount_0f7a4 32 = .ok (.iand, 1) := by decide +kernel
theorem dJ6_bitCount_0f7a4_33 : decode cJ6_bitCount_0f7a4 33 = .ok (.istore_n 0, 1) := by decide +kernel
theorem dJ6_bitCount_0f7a4_34 : decode cJ6_bitCount_0f7a4 34 = .ok (.iload_n 0, 1) := by decide +kernel
theorem dJ6_bitCount_0f7a4_35 : decode cJ6_bitCount_0f7a4 35 = .ok (.iload_n 0, 1) := by decide +kernel
theorem dJ6_bitCount_0f7a4_36 : decode cJ6_bitCount_0f7a4 36 = .ok (.bipush 8, 2) := by decide +kernel
theorem dJ6_bitCount_0f7a4_38 : decode cJ6_bitCount_0f7a4 38 = .ok (.iushr, 1) := by decide +kernel
theorem dJ6_bitCount_0f7a4_39 : decode cJ6_bitCount_0f7a4 39 = .ok (.iadd, 1) := by decide +kernel
theorem dJ6_bitCount_0f7a4_40 : decode cJ6_bitCount_0f7a4 40 = .ok (.istore_n 0, 1) := by decide +kernel
theorem dJ6_bitCount_0f7a4_41 : decode cJ6_bitCount_0f7a4 41 = .ok (.iload_n 0, 1) := by decide +kernel
theorem dJ6_bitCount_0f7a4_42 : decode cJ6_bitCount_0f7a4 42 = .ok (.iload_n 0, 1) := by decide +kernel
theorem dJ6_bitCount_0f7a4_43 : decode cJ6_bitCount_0f7a4 43 = .ok (.bipush 16, 2) := by decide +kernel
theorem dJ6_bitCount_0f7a4_45 : decode cJ6_bitCount_0f7a4 45 = .ok (.iushr, 1) := by decide +kernel
theorem dJ6_bitCount_0f7a4_46 : decode cJ6_bitCount_0f7a4 46 = .ok (.iadd, 1) := by decide +kernel
theorem dJ6_bitCount_0f7a4_47 : decode cJ6_bitCount_0f7a4 47 = .ok (.istore_n 0, 1) := by decide +kernel
theorem dJ6_bitCount_0f7a4_48 : decode cJ6_bitCount_0f7a4 48 = .ok (.iload_n 0, 1) := by decide +kernel
theorem dJ6_bitCount_0f7a4_49 : decode cJ6_bitCount_0f7a4 49 = .ok (.bipush 63, 2) := by decide +kernel
theorem dJ6_bitCount_0f7a4_51 : decode cJ6_bitCount_0f7a4 51 = .ok (.iand, 1) := by decide +kernel
theorem dJ6_bitCount_0f7a4_52 : decode cJ6_bitCount_0f7a4 52 = .ok (.ireturn, 1) := by decide +kernel
theorem dJ9_max_7cf53_0 : decode cJ9_max_7cf53 0 = .ok (.iload_n 0, 1) := by decide +kernel
theorem dJ9_max_7cf53_1 : decode cJ9_max_7cf53 1 = .ok (.iload_n 1, 1) := by decide +kernel
theorem dJ9_max_7cf53_2 : decode cJ9_max_7cf53 2 = .ok (.if_icmp .lt 7, 3) := by decide +kernel
theorem dJ9_max_7cf53_5 : decode cJ9_max_7cf53 5 = .ok (.iload_n 0, 1) := by decide +kernel
theorem dJ9_max_7cf53_6 : decode cJ9_max_7cf53 6 = .ok (.goto 4, 3) := by decide +kernel
theorem dJ9_max_7cf53_9 : decode cJ9_max_7cf53 9 = .ok (.iload_n 1, 1) := by decide +kernel
theorem dJ9_max_7cf53_10 : decode cJ9_max_7cf53 10 = .ok (.ireturn, 1) := by decide +kernel
theorem dJ9_min_7cf53_0 : decode cJ9_min_7cf53 0 = .ok (.iload_n 0, 1) := by decide +kernel
theorem dJ9_min_7cf53_1 : decode cJ9_min_7cf53 1 = .ok (.iload_n 1, 1) := by decide +kernel
theorem dJ9_min_7cf53_2 : decode cJ9_min_7cf53 2 = .ok (.if_icmp .gt 7, 3) := by decide +kernel
theorem dJ9_min_7cf53_5 : decode cJ9_min_7cf53 5 = .ok (.iload_n 0, 1) := by decide +kernel
theorem dJ9_min_7cf53_6 : decode cJ9_min_7cf53 6 = .ok (.goto 4, 3) := by decide +kernel
theorem dJ9_min_7cf53_9 : decode cJ9_min_7cf53 9 = .ok (.iload_n 1, 1) := by decide +kernel
theorem dJ9_min_7cf53_10 : decode cJ9_min_7cf53 10 = .ok (.ireturn, 1) := by decide +kernel
