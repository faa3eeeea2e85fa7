set_option maxRecDepth 20000 in
theorem ggL_nodes_X5_addNode : GoodIn wsL_nodes wsX5_addNode := goodIn_ca (goodIn_r _ [7, 8, 9, 10, 11, 12, 13, 14, 15, 16, 17, 18, 19, 20, 21, 22, 23, 24, 25, 26, 6, 27, 28, 29, 30, 31, 32, 33, 34, 35, 36, 37, 38, 39, 40, 41, 42, 43, 44, 45, 46] (by decide +kernel) (by decide +kernel)) (goodIn_sub (fun _ h => List.mem_cons_of_mem _ (List.mem_append_right _ h)) (by decide +kernel))
set_option maxRecDepth 20000 in
theorem gL_nodes_X5_addNode : GoodIn wsL_nodes (wsV RL 7 RX5 yX5_addNode wsX5_addNode) := goodIn_app (goodIn_of _ (by decide +kernel)) ggL_nodes_X5_addNode
theorem dL_nodes_0 : decode cL_nodes 0 = .ok (.aload_n 0, 1) := by decide +kernel
theorem dL_nodes_1 : decode cL_nodes 1 = .ok (.iload_n 1, 1) := by decide +kernel
theorem dL_nodes_2 : decode cL_nodes 2 = .ok (.invokevirtual 7, 3) := by decide +kernel
theorem dL_nodes_5 : decode cL_nodes 5 = .ok (.ireturn, 1) := by decide +kernel
theorem dL_nodes_6 : decode cL_nodes 6 = .ok (.astore_n 2, 1) := by decide +kernel
theorem dL_nodes_7 : decode cL_nodes 7 = .ok (.ldc 15, 2) := by decide +kernel
theorem dL_nodes_9 : decode cL_nodes 9 = .ok (.ireturn, 1) := by decide +kernel
set_option maxRecDepth 20000 in
theorem ggL_pipes_X5_addPipe : GoodIn wsL_pipes wsX5_addPipe := goodIn_ca (goodIn_ca (goodIn_ca (goodIn_r _ [11, 12, 13, 14, 15, 16, 17, 18, 19, 10, 20, 21, 22, 23, 24, 25, 26, 27, 28, 29, 30, 31, 32, 33, 34, 35, 36, 37, 38, 39, 40, 41, 42, 43, 44, 45, 46, 47, 48, 49, 50, 51, 52, 53, 54, 55, 56, 57, 58, 59, 60, 61, 62, 63, 64] (by decide +kernel) (by decide +kernel)) (goodIn_sub (fun _ h => List.mem_cons_of_mem _ (List.mem_append_left _ (List.mem_append_left _ (List.mem_append_right _ h)))) (by decide +kernel))) (goodIn_sub (fun _ h => List.mem_cons_of_mem _ (List.mem_append_left _ (List.mem_append_right _ h))) (by decide +kernel))) (goodIn_sub (fun _ h => List.mem_cons_of_mem _ (List.mem_append_right _ h)) (by decide +kernel))
set_option maxRecDepth 20000 in
theorem gL_pipes_X5_addPipe : GoodIn wsL_pipes (wsV RL 16 RX5 yX5_addPipe wsX5_addPipe) := goodIn_app (goodIn_of _ (by decide +kernel)) ggL_pipes_X5_addPipe
theorem dL_pipes_0 : decode cL_pipes 0 = .ok (.aload_n 0, 1) := by decide +kernel
theorem dL_pipes_1 : decode cL_pipes 1 = .ok (.iload_n 1, 1) := by decide +kernel
theorem dL_pipes_2 : decode cL_pipes 2 = .ok (.iload_n 2, 1) := by decide +kernel
theorem dL_pipes_3 : decode cL_pipes 3 = .ok (.iload_n 3, 1) := by decide +kernel
theorem dL_pipes_4 : decode cL_pipes 4 = .ok (.iload 4, 2) := by decide +kernel
theorem dL_pipes_6 : decode cL_pipes 6 = .ok (.invokevirtual 16, 3) := by decide +kernel
theorem dL_pipes_9 : decode cL_pipes 9 = .ok (.ireturn, 1) := by decide +kernel
theorem dL_pipes_10 : decode cL_pipes 10 = .ok (.astore 5, 2) := by decide +kernel
theorem dL_pipes_12 : decode cL_pipes 12 = .ok (.ldc 22, 2) := by decide +kernel
theorem dL_pipes_14 : decode cL_pipes 14 = .ok (.ireturn, 1) := by decide +kernel
theorem dL_pipes_15 : decode cL_pipes 15 = .ok (.astore 5, 2) := by decide +kernel
theorem dL_pipes_17 : decode cL_pipes 17 = .ok (.ldc 25, 2) := by decide +kernel
theorem dL_pipes_19 : decode cL_pipes 19 = .ok (.ireturn, 1) := by decide +kernel
theorem dL_pipes_20 : decode cL_pipes 20 = .ok (.astore 5, 2) := by decide +kernel
theorem dL_pipes_22 : decode cL_pipes 22 = .ok (.ldc 15, 2) := by decide +kernel
theorem dL_pipes_24 : decode cL_pipes 24 = .ok (.ireturn, 1) := by decide +kernel
set_option maxRecDepth 20000 in
theorem ggL_valves_X5_addValve : GoodIn wsL_valves wsX5_addValve := goodIn_ca (goodIn_ca (goodIn_ca (goodIn_r _ [11, 12, 13, 14, 15, 16, 17, 18, 19, 10, 20, 21, 22, 23, 24, 25, 26, 27, 28, 29, 30, 31, 32, 33, 34, 35, 36, 37, 38, 39, 40, 41, 42, 43, 44, 45, 46, 47, 48, 49, 50, 51, 52, 53, 54, 55, 56, 57, 58, 59, 60] (by decide +kernel) (by decide +kernel)) (goodIn_sub (fun _ h => List.mem_cons_of_mem _ (List.mem_append_left _ (List.mem_append_left _ (List.mem_append_right _ h)))) (by decide +kernel))) (goodIn_sub (fun _ h => List.mem_cons_of_mem _ (List.mem_append_left _ (List.mem_append_right _ h))) (by decide +kernel))) (goodIn_sub (fun _ h => List.mem_cons_of_mem _ (List.mem_append_right _ h)) (by decide +kernel))
set_option maxRecDepth 20000 in
theorem gL_valves_X5_addValve : GoodIn wsL_valves (wsV RL 26 RX5 yX5_addValve wsX5_addValve) := goodIn_app (goodIn_of _ (by decide +kernel)) ggL_valves_X5_addValve
theorem dL_valves_0 : decode cL_valves 0 = .ok (.aload_n 0, 1) := by decide +kernel
theorem dL_valves_1 : decode cL_valves 1 = .ok (.iload_n 1, 1) := by decide +kernel
theorem dL_valves_2 : decode cL_valves 2 = .ok (.iload_n 2, 1) := by decide +kernel
theorem dL_valves_3 : decode cL_valves 3 = .ok (.invokevirtual 26, 3) := by decide +kernel
theorem dL_valves_6 : decode cL_valves 6 = .ok (.ireturn, 1) := by decide +kernel
theorem dL_valves_7 : decode cL_valves 7 = .ok (.astore_n 3, 1) := by decide +kernel
theorem dL_valves_8 : decode cL_valves 8 = .ok (.ldc 22, 2) := by decide +kernel
theorem dL_valves_10 : decode cL_valves 10 = .ok (.ireturn, 1) := by decide +kernel
theorem dL_valves_11 : decode cL_valves 11 = .ok (.astore_n 3, 1) := by decide +kernel
theorem dL_valves_12 : decode cL_valves 12 = .ok (.ldc 25, 2) := by decide +kernel
theorem dL_valves_14 : decode cL_valves 14 = .ok (.ireturn, 1) := by decide +kernel
theorem dL_valves_15 : decode cL_valves 15 = .ok (.astore_n 3, 1) := by decide +kernel
theorem dL_valves_16 : decode cL_valves 16 = .ok (.ldc 15, 2) := by decide +kernel
theorem dL_valves_18 : decode cL_valves 18 = .ok (.ireturn, 1) := by decide +kernel
set_option maxRecDepth 20000 in
theorem ggL_sources_X5_setSource : GoodIn wsL_sources wsX5_setSource := goodIn_ca (goodIn_r _ [7, 8, 9, 10, 11, 6, 12, 13, 14, 15, 16, 17, 18, 19, 20, 21, 22, 23, 24, 25, 26, 27, 28, 29, 30, 31, 32, 33, 34, 35, 36, 37, 38, 39, 40, 41, 42, 43, 44, 45, 46] (by decide +kernel) (by decide +kernel)) (goodIn_sub (fun _ h => List.mem_cons_of_mem _ (List.mem_append_right _ h)) (by decide +kernel))
set_option maxRecDepth 20000 in
theorem gL_sources_X5_setSource : GoodIn wsL_sources (wsV RL 30 RX5 yX5_setSource wsX5_setSource) := goodIn_app (goodIn_of _ (by decide +kernel)) ggL_sources_X5_setSource
theorem dL_sources_0 : decode cL_sources 0 = .ok (.aload_n 0, 1) := by decide +kernel
theorem dL_sources_1 : decode cL_sources 1 = .ok (.iload_n 1, 1) := by decide +kernel
theorem dL_sources_2 : decode cL_sources 2 = .ok (.iload_n 2, 1) := by decide +kernel
theorem dL_sources_3 : decode cL_sources 3 = .ok (.invokevirtual 30, 3) := by decide +kernel
theorem dL_sources_6 : decode cL_sources 6 = .ok (.ifCond .eq 7, 3) := by decide +kernel
theorem dL_sources_9 : decode cL_sources 9 = .ok (.iconst 1, 1) := by decide +kernel
theorem dL_sources_10 : decode cL_sources 10 = .ok (.goto 4, 3) := by decide +kernel
theorem dL_sources_13 : decode cL_sources 13 = .ok (.iconst 0, 1) := by decide +kernel
theorem dL_sources_14 : decode cL_sources 14 = .ok (.ireturn, 1) := by decide +kernel
theorem dL_sources_15 : decode cL_sources 15 = .ok (.astore_n 3, 1) := by decide +kernel
theorem dL_sources_16 : decode cL_sources 16 = .ok (.ldc 22, 2) := by decide +kernel
theorem dL_sources_18 : decode cL_sources 18 = .ok (.ireturn, 1) := by decide +kernel
set_option maxRecDepth 20000 in
theorem ggL_sticks_X5_setStuck : GoodIn wsL_sticks wsX5_setStuck := goodIn_ca (goodIn_r _ [7, 8, 9, 10, 11, 6, 12, 13, 14, 15, 16, 17, 18, 19, 20, 21, 22, 23, 24, 25, 26, 27, 28, 29, 30, 31, 32, 33, 34, 35, 36, 37, 38, 39, 40, 41, 42, 43, 44, 45, 46] (by decide +kernel) (by decide +kernel)) (goodIn_sub (fun _ h => List.mem_cons_of_mem _ (List.mem_append_right _ h)) (by decide +kernel))
set_option maxRecDepth 20000 in
theorem gL_sticks_X5_setStuck : GoodIn wsL_sticks (wsV RL 34 RX5 yX5_setStuck wsX5_setStuck) := goodIn_app (goodIn_of _ (by decide +kernel)) ggL_sticks_X5_setStuck
theorem dL_sticks_0 : decode cL_sticks 0 = .ok (.aload_n 0, 1) := by decide +kernel
theorem dL_sticks_1 : decode cL_sticks 1 = .ok (.iload_n 1, 1) := by decide +kernel
theorem dL_sticks_2 : decode cL_sticks 2 = .ok (.iload_n 2, 1) := by decide +kernel
theorem dL_sticks_3 : decode cL_sticks 3 = .ok (.invokevirtual 34, 3) := by decide +kernel
theorem dL_sticks_6 : decode cL_sticks 6 = .ok (.ifCond .eq 7, 3) := by decide +kernel
theorem dL_sticks_9 : decode cL_sticks 9 = .ok (.iconst 1, 1) := by decide +kernel
theorem dL_sticks_10 : decode cL_sticks 10 = .ok (.goto 4, 3) := by decide +kernel
theorem dL_sticks_13 : decode cL_sticks 13 = .ok (.iconst 0, 1) := by decide +kernel
theorem dL_sticks_14 : decode cL_sticks 14 = .ok (.ireturn, 1) := by decide +kernel
theorem dL_sticks_15 : decode cL_sticks 15 = .ok (.astore_n 3, 1) := by decide +kernel
theorem dL_sticks_16 : decode cL_sticks 16 = .ok (.ldc 22, 2) := by decide +kernel
theorem dL_sticks_18 : decode cL_sticks 18 = .ok (.ireturn, 1) := by decide +kernel
set_option maxRecDepth 20000 in
theorem ggL_turns_X5_turn : GoodIn wsL_turns wsX5_turn := goodIn_ca (goodIn_ca (goodIn_r _ [9, 10, 11, 12, 13, 14, 15, 8, 16, 17, 18, 19, 20, 21, 22, 23, 24, 25, 26, 27, 28, 29, 30, 31, 32, 33, 34, 35, 36, 37, 38, 39, 40, 41, 42, 43, 44, 45, 46, 47, 48, 49, 50, 51, 52, 53, 54, 55] (by decide +kernel) (by decide +kernel)) (goodIn_sub (fun _ h => List.mem_cons_of_mem _ (List.mem_append_left _ (List.mem_append_right _ h))) (by decide +kernel))) (goodIn_sub (fun _ h => List.mem_cons_of_mem _ (List.mem_append_right _ h)) (by decide +kernel))
set_option maxRecDepth 20000 in
theorem gL_turns_X5_turn : GoodIn wsL_turns (wsV RL 37 RX5 yX5_turn wsX5_turn) := goodIn_app (goodIn_of _ (by decide +kernel)) ggL_turns_X5_turn
theorem dL_turns_0 : decode cL_turns 0 = .ok (.aload_n 0, 1) := by decide +kernel
theorem dL_turns_1 : decode cL_turns 1 = .ok (.iload_n 1, 1) := by decide +kernel
theorem dL_turns_2 : decode cL_turns 2 = .ok (.iload_n 2, 1) := by decide +kernel
theorem dL_turns_3 : decode cL_turns 3 = .ok (.invokevirtual 37, 3) := by decide +kernel
theorem dL_turns_6 : decode cL_turns 6 = .ok (.ifCond .eq 7, 3) := by decide +kernel
theorem dL_turns_9 : decode cL_turns 9 = .ok (.iconst 1, 1) := by decide +kernel
theorem dL_turns_10 : decode cL_turns 10 = .ok (.goto 4, 3) := by decide +kernel
theorem dL_turns_13 : decode cL_turns 13 = .ok (.iconst 0, 1) := by decide +kernel
theorem dL_turns_14 : decode cL_turns 14 = .ok (.ireturn, 1) := by decide +kernel
theorem dL_turns_15 : decode cL_turns 15 = .ok (.astore_n 3, 1) := by decide +kernel
theorem dL_turns_16 : decode cL_turns 16 = .ok (.ldc 22, 2) := by decide +kernel
theorem dL_turns_18 : decode cL_turns 18 = .ok (.ireturn, 1) := by decide +kernel
theorem dL_turns_19 : decode cL_turns 19 = .ok (.astore_n 3, 1) := by decide +kernel
theorem dL_turns_20 : decode cL_turns 20 = .ok (.ldc 15, 2) := by decide +kernel
theorem dL_turns_22 : decode cL_turns 22 = .ok (.ireturn, 1) := by decide +kernel
set_option maxRecDepth 20000 in
theorem ggL_nodeDry_X5_isNodeDry : GoodIn wsL_nodeDry wsX5_isNodeDry := goodIn_ca (goodIn_r _ [7, 8, 9, 10, 6, 11, 12, 13, 14, 15, 16, 17, 18, 19, 20, 21, 22, 23, 24, 25, 26, 27, 28, 29, 30, 31, 32, 33, 34, 35, 36, 37, 38, 39, 40, 41, 42, 43, 44, 45, 46, 47, 48, 49, 50, 51, 52, 53, 54, 55, 56, 57] (by decide +kernel) (by decide +kernel)) (goodIn_sub (fun _ h => List.mem_cons_of_mem _ (List.mem_append_right _ h)) (by decide +kernel))
set_option maxRecDepth 20000 in
theorem gL_nodeDry_X5_isNodeDry : GoodIn wsL_nodeDry (wsV RL 40 RX5 yX5_isNodeDry wsX5_isNodeDry) := goodIn_app (goodIn_of _ (by decide +kernel)) ggL_nodeDry_X5_isNodeDry
theorem dL_nodeDry_0 : decode cL_nodeDry 0 = .ok (.aload_n 0, 1) := by decide +kernel
theorem dL_nodeDry_1 : decode cL_nodeDry 1 = .ok (.iload_n 1, 1) := by decide +kernel
theorem dL_nodeDry_2 : decode cL_nodeDry 2 = .ok (.invokevirtual 40, 3) := by decide +kernel
theorem dL_nodeDry_5 : decode cL_nodeDry 5 = .ok (.ifCond .eq 7, 3) := by decide +kernel
theorem dL_nodeDry_8 : decode cL_nodeDry 8 = .ok (.iconst 1, 1) := by decide +kernel
theorem dL_nodeDry_9 : decode cL_nodeDry 9 = .ok (.goto 4, 3) := by decide +kernel
theorem dL_nodeDry_12 : decode cL_nodeDry 12 = .ok (.iconst 0, 1) := by decide +kernel
theorem dL_nodeDry_13 : decode cL_nodeDry 13 = .ok (.ireturn, 1) := by decide +kernel
theorem dL_nodeDry_14 : decode cL_nodeDry 14 = .ok (.astore_n 2, 1) := by decide +kernel
theorem dL_nodeDry_15 : decode cL_nodeDry 15 = .ok (.ldc 22, 2) := by decide +kernel
theorem dL_nodeDry_17 : decode cL_nodeDry 17 = .ok (.ireturn, 1) := by decide +kernel
set_option maxRecDepth 20000 in
theorem ggL_pipeDry_X5_isPipeDry : GoodIn wsL_pipeDry wsX5_isPipeDry := goodIn_ca (goodIn_r _ [7, 8, 9, 10, 6, 11, 12, 13, 14, 15, 16, 17, 18, 19, 20, 21, 22, 23, 24, 25, 26, 27, 28, 29, 30, 31, 32, 33, 34, 35, 36, 37, 38, 39, 40, 41, 42, 43, 44, 45, 46, 47, 48, 49, 50, 51, 52, 53, 54, 55, 56, 57, 58, 59] (by decide +kernel) (by decide +kernel)) (goodIn_sub (fun _ h => List.mem_cons_of_mem _ (List.mem_append_right _ h)) (by decide +kernel))
set_option maxRecDepth 20000 in
theorem gL_pipeDry_X5_isPipeDry : GoodIn wsL_pipeDry (wsV RL 44 RX5 yX5_isPipeDry wsX5_isPipeDry) := goodIn_app (goodIn_of _ (by decide +kernel)) ggL_pipeDry_X5_isPipeDry
theorem dL_pipeDry_0 : decode cL_pipeDry 0 = .ok (.aload_n 0, 1) := by decide +kernel
theorem dL_pipeDry_1 : decode cL_pipeDry 1 = .ok (.iload_n 1, 1) := by decide +kernel
theorem dL_pipeDry_2 : decode cL_pipeDry 2 = .ok (.invokevirtual 44, 3) := by decide +kernel
theorem dL_pipeDry_5 : decode cL_pipeDry 5 = .ok (.ifCond .eq 7, 3) := by decide +kernel
theorem dL_pipeDry_8 : decode cL_pipeDry 8 = .ok (.iconst 1, 1) := by decide +kernel
theorem dL_pipeDry_9 : decode cL_pipeDry 9 = .ok (.goto 4, 3) := by decide +kernel
theorem dL_pipeDry_12 : decode cL_pipeDry 12 = .ok (.iconst 0, 1) := by decide +kernel
theorem dL_pipeDry_13 : decode cL_pipeDry 13 = .ok (.ireturn, 1) := by decide +kernel
theorem dL_pipeDry_14 : decode cL_pipeDry 14 = .ok (.astore_n 2, 1) := by decide +kernel
theorem dL_pipeDry_15 : decode cL_pipeDry 15 = .ok (.ldc 22, 2) := by decide +kernel
theorem dL_pipeDry_17 : decode cL_pipeDry 17 = .ok (.ireturn, 1) := by decide +kernel
set_option maxRecDepth 20000 in
theorem ggL_ofNode_X5_segmentOfNode : GoodIn wsL_ofNode wsX5_segmentOfNode := goodIn_ca (goodIn_r _ [7, 8, 9, 10, 11, 6, 12, 13, 14, 15, 16, 17, 18, 19, 20, 21, 22, 23, 24, 25, 26, 27, 28, 29, 30, 31, 32, 33, 34, 35, 36, 37, 38, 39, 40, 41, 42, 43, 44, 45, 46, 47, 48, 49, 50, 51, 52, 53, 54, 55, 56, 57, 58, 59, 60, 61, 62, 63, 64, 65, 66, 67, 68, 69, 70, 71, 72, 73, 74] (by decide +kernel) (by decide +kernel)) (goodIn_sub (fun _ h => List.mem_cons_of_mem _ (List.mem_append_right _ h)) (by decide +kernel))
set_option maxRecDepth 20000 in
theorem gL_ofNode_X5_segmentOfNode : GoodIn wsL_ofNode (wsV RL 47 RX5 yX5_segmentOfNode wsX5_segmentOfNode) := goodIn_app (goodIn_of _ (by decide +kernel)) ggL_ofNode_X5_segmentOfNode
theorem dL_ofNode_0 : decode cL_ofNode 0 = .ok (.aload_n 0, 1) := by decide +kernel
theorem dL_ofNode_1 : decode cL_ofNode 1 = .ok (.iload_n 1, 1) := by decide +kernel
theorem dL_ofNode_2 : decode cL_ofNode 2 = .ok (.invokevirtual 47, 3) := by decide +kernel
theorem dL_ofNode_5 : decode cL_ofNode 5 = .ok (.ireturn, 1) := by decide +kernel
theorem dL_ofNode_6 : decode cL_ofNode 6 = .ok (.astore_n 2, 1) := by decide +kernel
theorem dL_ofNode_7 : decode cL_ofNode 7 = .ok (.ldc 22, 2) := by decide +kernel
theorem dL_ofNode_9 : decode cL_ofNode 9 = .ok (.ireturn, 1) := by decide +kernel
set_option maxRecDepth 20000 in
theorem ggL_ofPipe_X5_segmentOfPipe : GoodIn wsL_ofPipe wsX5_segmentOfPipe := goodIn_ca (goodIn_r _ [7, 8, 9, 10, 11, 6, 12, 13, 14, 15, 16, 17, 18, 19, 20, 21, 22, 23, 24, 25, 26, 27, 28, 29, 30, 31, 32, 33, 34, 35, 36, 37, 38, 39, 40, 41, 42, 43, 44, 45, 46, 47, 48, 49, 50, 51, 52, 53, 54, 55, 56, 57, 58, 59, 60, 61, 62, 63, 64, 65, 66, 67, 68, 69, 70, 71, 72, 73, 74, 75] (by decide +kernel) (by decide +kernel)) (goodIn_sub (fun _ h => List.mem_cons_of_mem _ (List.mem_append_right _ h)) (by decide +kernel))
set_option maxRecDepth 20000 in
theorem gL_ofPipe_X5_segmentOfPipe : GoodIn wsL_ofPipe (wsV RL 51 RX5 yX5_segmentOfPipe wsX5_segmentOfPipe) := goodIn_app (goodIn_of _ (by decide +kernel)) ggL_ofPipe_X5_segmentOfPipe
theorem dL_ofPipe_0 : decode cL_ofPipe 0 = .ok (.aload_n 0, 1) := by decide +kernel
theorem dL_ofPipe_1 : decode cL_ofPipe 1 = .ok (.iload_n 1, 1) := by decide +kernel
theorem dL_ofPipe_2 : decode cL_ofPipe 2 = .ok (.invokevirtual 51, 3) := by decide +kernel
theorem dL_ofPipe_5 : decode cL_ofPipe 5 = .ok (.ireturn, 1) := by decide +kernel
theorem dL_ofPipe_6 : decode cL_ofPipe 6 = .ok (.astore_n 2, 1) := by decide +kernel
theorem dL_ofPipe_7 : decode cL_ofPipe 7 = .ok (.ldc 22, 2) := by decide +kernel
theorem dL_ofPipe_9 : decode cL_ofPipe 9 = .ok (.ireturn, 1) := by decide +kernel
set_option maxRecDepth 20000 in
theorem ggL_merged_X5_segmentByMerging : GoodIn wsL_merged wsX5_segmentByMerging := goodIn_ca (goodIn_r _ [7, 8, 9, 10, 11, 6, 12, 13, 14, 15, 16, 17, 18, 19, 20, 21, 22, 23, 24, 25, 26, 27, 28, 29, 30, 31, 32, 33, 34, 35, 36, 37, 38, 39, 40, 41, 42, 43, 44, 45, 46, 47, 48, 49, 50, 51, 52, 53, 54, 55, 56, 57, 58, 59, 60, 61, 62, 63, 64, 65, 66, 67, 68, 69, 70, 71, 72, 73, 74, 75, 76, 77, 78, 79, 80, 81, 82, 83, 84, 85] (by decide +kernel) (by decide +kernel)) (goodIn_sub (fun _ h => List.mem_cons_of_mem _ (List.mem_append_right _ h)) (by decide +kernel))
set_option maxRecDepth 20000 in
theorem gL_merged_X5_segmentByMerging : GoodIn wsL_merged (wsV RL 54 RX5 yX5_segmentByMerging wsX5_segmentByMerging) := goodIn_app (goodIn_of _ (by decide +kernel)) ggL_merged_X5_segmentByMerging
theorem dL_merged_0 : decode cL_merged 0 = .ok (.aload_n 0, 1) := by decide +kernel
theorem dL_merged_1 : decode cL_merged 1 = .ok (.iload_n 1, 1) := by decide +kernel
theorem dL_merged_2 : decode cL_merged 2 = .ok (.invokevirtual 54, 3) := by decide +kernel
theorem dL_merged_5 : decode cL_merged 5 = .ok (.ireturn, 1) := by decide +kernel
theorem dL_merged_6 : decode cL_merged 6 = .ok (.astore_n 2, 1) := by decide +kernel
theorem dL_merged_7 : decode cL_merged 7 = .ok (.ldc 22, 2) := by decide +kernel
theorem dL_merged_9 : decode cL_merged 9 = .ok (.ireturn, 1) := by decide +kernel
set_option maxRecDepth 20000 in
theorem ggL_ring_X5_ring : GoodIn wsL_ring wsX5_ring := goodIn_ca (goodIn_ca (goodIn_r _ [9, 10, 11, 12, 13, 8, 14, 15, 16, 17, 18, 19, 20, 21, 22, 23, 24, 25, 26, 27, 28, 29, 30, 31, 32, 33, 34, 35, 36, 37, 38, 39, 40, 41, 42, 43, 44, 45, 46, 47, 48, 49, 50, 51, 52, 53, 54, 55, 56, 57, 58, 59, 60, 61, 62, 63, 64, 65, 66, 67, 68, 69, 70, 71, 72, 73, 74, 75, 76, 77, 78, 79, 80, 81, 82, 83, 84, 85, 86, 87, 88, 89, 90, 91, 92, 93, 94, 95, 96, 97, 98, 99, 100, 101, 102, 103, 104, 105, 106] (by decide +kernel) (by decide +kernel)) (goodIn_sub (fun _ h => List.mem_cons_of_mem _ (List.mem_append_left _ (List.mem_append_right _ h))) (by decide +kernel))) (goodIn_sub (fun _ h => List.mem_cons_of_mem _ (List.mem_append_right _ h)) (by decide +kernel))
set_option maxRecDepth 20000 in
theorem gL_ring_X5_ring : GoodIn wsL_ring (wsV RL 57 RX5 yX5_ring wsX5_ring) := goodIn_app (goodIn_of _ (by decide +kernel)) ggL_ring_X5_ring
theorem dL_ring_0 : decode cL_ring 0 = .ok (.aload_n 0, 1) := by decide +kernel
theorem dL_ring_1 : decode cL_ring 1 = .ok (.iload_n 1, 1) := by decide +kernel
theorem dL_ring_2 : decode cL_ring 2 = .ok (.invokevirtual 57, 3) := by decide +kernel
theorem dL_ring_5 : decode cL_ring 5 = .ok (.ireturn, 1) := by decide +kernel
theorem dL_ring_6 : decode cL_ring 6 = .ok (.astore_n 2, 1) := by decide +kernel
theorem dL_ring_7 : decode cL_ring 7 = .ok (.ldc 22, 2) := by decide +kernel
theorem dL_ring_9 : decode cL_ring 9 = .ok (.ireturn, 1) := by decide +kernel
theorem dL_ring_10 : decode cL_ring 10 = .ok (.astore_n 2, 1) := by decide +kernel
theorem dL_ring_11 : decode cL_ring 11 = .ok (.ldc 15, 2) := by decide +kernel
theorem dL_ring_13 : decode cL_ring 13 = .ok (.ireturn, 1) := by decide +kernel
set_option maxRecDepth 20000 in
theorem ggL_cut_X5_cutOff : GoodIn wsL_cut wsX5_cutOff := goodIn_ca (goodIn_ca (goodIn_r _ [9, 10, 11, 12, 13, 8, 14, 15, 16, 17, 18, 19, 20, 21, 22, 23, 24, 25, 26, 27, 28, 29, 30, 31, 32, 33, 34, 35, 36, 37, 38, 39, 40, 41, 42, 43, 44, 45, 46, 47, 48, 49, 50, 51, 52, 53, 54, 55, 56, 57, 58, 59, 60, 61, 62, 63, 64, 65, 66, 67, 68, 69, 70, 71, 72, 73, 74, 75, 76, 77, 78, 79, 80, 81, 82, 83, 84, 85, 86, 87, 88, 89, 90, 91, 92, 93, 94, 95, 96, 97, 98, 99, 100, 101, 102, 103, 104, 105, 106, 107, 108, 109, 110, 111, 112, 113, 114, 115, 116, 117, 118, 119, 120] (by decide +kernel) (by decide +kernel)) (goodIn_sub (fun _ h => List.mem_cons_of_mem _ (List.mem_append_left _ (List.mem_append_right _ h))) (by decide +kernel))) (goodIn_sub (fun _ h => List.mem_cons_of_mem _ (List.mem_append_right _ h)) (by decide +kernel))
set_option maxRecDepth 20000 in
theorem gL_cut_X5_cutOff : GoodIn wsL_cut (wsV RL 60 RX5 yX5_cutOff wsX5_cutOff) := goodIn_app (goodIn_of _ (by decide +kernel)) ggL_cut_X5_cutOff
theorem dL_cut_0 : decode cL_cut 0 = .ok (.aload_n 0, 1) := by decide +kernel
theorem dL_cut_1 : decode cL_cut 1 = .ok (.iload_n 1, 1) := by decide +kernel
theorem dL_cut_2 : decode cL_cut 2 = .ok (.invokevirtual 60, 3) := by decide +kernel
theorem dL_cut_5 : decode cL_cut 5 = .ok (.ireturn, 1) := by decide +kernel
theorem dL_cut_6 : decode cL_cut 6 = .ok (.astore_n 2, 1) := by decide +kernel
theorem dL_cut_7 : decode cL_cut 7 = .ok (.ldc 22, 2) := by decide +kernel
theorem dL_cut_9 : decode cL_cut 9 = .ok (.ireturn, 1) := by decide +kernel
theorem dL_cut_10 : decode cL_cut 10 = .ok (.astore_n 2, 1) := by decide +kernel
theorem dL_cut_11 : decode cL_cut 11 = .ok (.ldc 15, 2) := by decide +kernel
theorem dL_cut_13 : decode cL_cut 13 = .ok (.ireturn, 1) := by decide +kernel
set_option maxRecDepth 20000 in
theorem ggL_fewest_X5_fewest : GoodIn wsL_fewest wsX5_fewest := goodIn_ca (goodIn_r _ [7, 8, 9, 10, 11, 6, 12, 13, 14, 15, 16, 17, 18, 19, 20, 21, 22, 23, 24, 25, 26, 27, 28, 29, 30, 31, 32, 33, 34, 35, 36, 37, 38, 39, 40, 41, 42, 43, 44, 45, 46, 47, 48, 49, 50, 51, 52, 53, 54, 55, 56, 57, 58, 59, 60, 61, 62, 63, 64, 65, 66, 67, 68, 69, 70, 71, 72, 73, 74, 75, 76, 77, 78, 79, 80, 81, 82, 83, 84, 85, 86, 87, 88, 89, 90, 91, 92, 93, 94, 95, 96, 97, 98, 99, 100, 101, 102, 103, 104, 105, 106, 107, 108, 109, 110, 111, 112, 113, 114, 115, 116, 117, 118, 119, 120, 121, 122, 123] (by decide +kernel) (by decide +kernel)) (goodIn_sub (fun _ h => List.mem_cons_of_mem _ (List.mem_append_right _ h)) (by decide +kernel))
set_option maxRecDepth 20000 in
theorem gL_fewest_X5_fewest : GoodIn wsL_fewest (wsV RL 63 RX5 yX5_fewest wsX5_fewest) := goodIn_app (goodIn_of _ (by decide +kernel)) ggL_fewest_X5_fewest
theorem dL_fewest_0 : decode cL_fewest 0 = .ok (.aload_n 0, 1) := by decide +kernel
theorem dL_fewest_1 : decode cL_fewest 1 = .ok (.iload_n 1, 1) := by decide +kernel
theorem dL_fewest_2 : decode cL_fewest 2 = .ok (.invokevirtual 63, 3) := by decide +kernel
theorem dL_fewest_5 : decode cL_fewest 5 = .ok (.ireturn, 1) := by decide +kernel
theorem dL_fewest_6 : decode cL_fewest 6 = .ok (.astore_n 2, 1) := by decide +kernel
theorem dL_fewest_7 : decode cL_fewest 7 = .ok (.ldc 22, 2) := by decide +kernel
theorem dL_fewest_9 : decode cL_fewest 9 = .ok (.ireturn, 1) := by decide +kernel
set_option maxRecDepth 20000 in
theorem ggL_tried_X5_fewestByTrying : GoodIn wsL_tried wsX5_fewestByTrying := goodIn_ca (goodIn_r _ [7, 8, 9, 10, 11, 6, 12, 13, 14, 15, 16, 17, 18, 19, 20, 21, 22, 23, 24, 25, 26, 27, 28, 29, 30, 31, 32, 33, 34, 35, 36, 37, 38, 39, 40, 41, 42, 43, 44, 45, 46, 47, 48, 49, 50, 51, 52, 53, 54, 55, 56, 57, 58, 59, 60, 61, 62, 63, 64, 65, 66, 67, 68, 69, 70, 71, 72, 73, 74, 75, 76, 77, 78, 79, 80, 81, 82, 83, 84, 85, 86, 87, 88, 89, 90, 91, 92, 93, 94, 95, 96, 97, 98, 99, 100, 101, 102, 103, 104, 105, 106, 107, 108, 109, 110, 111, 112, 113, 114, 115, 116, 117, 118, 119, 120, 121, 122] (by decide +kernel) (by decide +kernel)) (goodIn_sub (fun _ h => List.mem_cons_of_mem _ (List.mem_append_right _ h)) (by decide +kernel))
set_option maxRecDepth 20000 in
theorem gL_tried_X5_fewestByTrying : GoodIn wsL_tried (wsV RL 66 RX5 yX5_fewestByTrying wsX5_fewestByTrying) := goodIn_app (goodIn_of _ (by decide +kernel)) ggL_tried_X5_fewestByTrying
theorem dL_tried_0 : decode cL_tried 0 = .ok (.aload_n 0, 1) := by decide +kernel
theorem dL_tried_1 : decode cL_tried 1 = .ok (.iload_n 1, 1) := by decide +kernel
theorem dL_tried_2 : decode cL_tried 2 = .ok (.invokevirtual 66, 3) := by decide +kernel
theorem dL_tried_5 : decode cL_tried 5 = .ok (.ireturn, 1) := by decide +kernel
theorem dL_tried_6 : decode cL_tried 6 = .ok (.astore_n 2, 1) := by decide +kernel
theorem dL_tried_7 : decode cL_tried 7 = .ok (.ldc 22, 2) := by decide +kernel
theorem dL_tried_9 : decode cL_tried 9 = .ok (.ireturn, 1) := by decide +kernel
set_option maxRecDepth 20000 in
theorem ggL_far_X5_distance : GoodIn wsL_far wsX5_distance := goodIn_ca (goodIn_r _ [7, 8, 9, 10, 11, 6, 12, 13, 14, 15, 16, 17, 18, 19, 20, 21, 22, 23, 24, 25, 26, 27, 28, 29, 30, 31, 32, 33, 34, 35, 36, 37, 38, 39, 40, 41, 42, 43, 44, 45, 46, 47, 48, 49, 50, 51, 52, 53, 54, 55, 56, 57, 58, 59, 60, 61, 62, 63, 64, 65, 66, 67, 68, 69, 70, 71, 72, 73, 74, 75, 76, 77, 78, 79, 80, 81, 82, 83, 84, 85, 86, 87, 88, 89, 90, 91, 92, 93] (by decide +kernel) (by decide +kernel)) (goodIn_sub (fun _ h => List.mem_cons_of_mem _ (List.mem_append_right _ h)) (by decide +kernel))
set_option maxRecDepth 20000 in
theorem gL_far_X5_distance : GoodIn wsL_far (wsV RL 69 RX5 yX5_distance wsX5_distance) := goodIn_app (goodIn_of _ (by decide +kernel)) ggL_far_X5_distance
theorem dL_far_0 : decode cL_far 0 = .ok (.aload_n 0, 1) := by decide +kernel
theorem dL_far_1 : decode cL_far 1 = .ok (.iload_n 1, 1) := by decide +kernel
theorem dL_far_2 : decode cL_far 2 = .ok (.invokevirtual 69, 3) := by decide +kernel
theorem dL_far_5 : decode cL_far 5 = .ok (.ireturn, 1) := by decide +kernel
theorem dL_far_6 : decode cL_far 6 = .ok (.astore_n 2, 1) := by decide +kernel
theorem dL_far_7 : decode cL_far 7 = .ok (.ldc 22, 2) := by decide +kernel
theorem dL_far_9 : decode cL_far 9 = .ok (.ireturn, 1) := by decide +kernel
set_option maxRecDepth 20000 in
theorem ggL_flush_X5_flushAt : GoodIn wsL_flush wsX5_flushAt := goodIn_ca (goodIn_r _ [7, 8, 9, 10, 11, 12, 13, 14, 15, 16, 17, 18, 19, 20, 21, 22, 23, 24, 25, 26, 27, 28, 29, 6, 30, 31, 32, 33, 34, 35, 36, 37, 38, 39, 40, 41, 42, 43, 44, 45, 46, 47, 48, 49, 50, 51, 52, 53, 54, 55, 56, 57, 58, 59, 60, 61, 62, 63, 64, 65, 66, 67, 68, 69, 70, 71, 72, 73, 74, 75, 76, 77, 78, 79, 80, 81, 82, 83, 84, 85, 86, 87, 88, 89, 90, 91, 92, 93, 94, 95, 96, 97, 98, 99, 100, 101, 102, 103, 104, 105, 106, 107] (by decide +kernel) (by decide +kernel)) (goodIn_sub (fun _ h => List.mem_cons_of_mem _ (List.mem_append_right _ h)) (by decide +kernel))
set_option maxRecDepth 20000 in
theorem gL_flush_X5_flushAt : GoodIn wsL_flush (wsV RL 72 RX5 yX5_flushAt wsX5_flushAt) := goodIn_app (goodIn_of _ (by decide +kernel)) ggL_flush_X5_flushAt
theorem dL_flush_0 : decode cL_flush 0 = .ok (.aload_n 0, 1) := by decide +kernel
theorem dL_flush_1 : decode cL_flush 1 = .ok (.iload_n 1, 1) := by decide +kernel
theorem dL_flush_2 : decode cL_flush 2 = .ok (.invokevirtual 72, 3) := by decide +kernel
theorem dL_flush_5 : decode cL_flush 5 = .ok (.ireturn, 1) := by decide +kernel
theorem dL_flush_6 : decode cL_flush 6 = .ok (.astore_n 2, 1) := by decide +kernel
theorem dL_flush_7 : decode cL_flush 7 = .ok (.ldc 22, 2) := by decide +kernel
theorem dL_flush_9 : decode cL_flush 9 = .ok (.ireturn, 1) := by decide +kernel
set_option maxRecDepth 20000 in
theorem ggL_walks_X5_walk : GoodIn wsL_walks wsX5_walk := goodIn_ca (goodIn_ca (goodIn_r _ [9, 10, 11, 12, 13, 14, 15, 16, 8, 17, 18, 19, 20, 21, 22, 23, 24, 25, 26, 27, 28, 29, 30, 31, 32, 33, 34, 35, 36, 37, 38, 39, 40, 41, 42, 43, 44, 45, 46, 47, 48, 49, 50, 51, 52, 53, 54, 55, 56, 57, 58, 59, 60, 61, 62, 63, 64, 65, 66, 67, 68, 69, 70, 71, 72, 73, 74, 75, 76, 77, 78, 79, 80, 81, 82, 83, 84, 85, 86, 87, 88, 89, 90, 91, 92, 93, 94, 95, 96, 97, 98, 99, 100, 101, 102, 103, 104, 105, 106, 107, 108, 109, 110, 111, 112, 113, 114, 115, 116, 117, 118, 119, 120] (by decide +kernel) (by decide +kernel)) (goodIn_sub (fun _ h => List.mem_cons_of_mem _ (List.mem_append_left _ (List.mem_append_right _ h))) (by decide +kernel))) (goodIn_sub (fun _ h => List.mem_cons_of_mem _ (List.mem_append_right _ h)) (by decide +kernel))
set_option maxRecDepth 20000 in
theorem gL_walks_X5_walk : GoodIn wsL_walks (wsV RL 75 RX5 yX5_walk wsX5_walk) := goodIn_app (goodIn_of _ (by decide +kernel)) ggL_walks_X5_walk
theorem dL_walks_0 : decode cL_walks 0 = .ok (.aload_n 0, 1) := by decide +kernel
theorem dL_walks_1 : decode cL_walks 1 = .ok (.iload_n 1, 1) := by decide +kernel
theorem dL_walks_2 : decode cL_walks 2 = .ok (.iload_n 2, 1) := by decide +kernel
theorem dL_walks_3 : decode cL_walks 3 = .ok (.invokevirtual 75, 3) := by decide +kernel
theorem dL_walks_6 : decode cL_walks 6 = .ok (.ireturn, 1) := by decide +kernel
theorem dL_walks_7 : decode cL_walks 7 = .ok (.astore_n 3, 1) := by decide +kernel
theorem dL_walks_8 : decode cL_walks 8 = .ok (.ldc 22, 2) := by decide +kernel
theorem dL_walks_10 : decode cL_walks 10 = .ok (.ireturn, 1) := by decide +kernel
theorem dL_walks_11 : decode cL_walks 11 = .ok (.astore_n 3, 1) := by decide +kernel
theorem dL_walks_12 : decode cL_walks 12 = .ok (.ldc 25, 2) := by decide +kernel
theorem dL_walks_14 : decode cL_walks 14 = .ok (.ireturn, 1) := by decide +kernel
theorem dL_drawn_0 : decode cL_drawn 0 = .ok (.iload_n 1, 1) := by decide +kernel
theorem dL_drawn_1 : decode cL_drawn 1 = .ok (.aload_n 0, 1) := by decide +kernel
theorem dL_drawn_2 : decode cL_drawn 2 = .ok (.arraylength, 1) := by decide +kernel
theorem dL_drawn_3 : decode cL_drawn 3 = .ok (.if_icmp .ge 9, 3) := by decide +kernel
theorem dL_drawn_6 : decode cL_drawn 6 = .ok (.aload_n 0, 1) := by decide +kernel
theorem dL_drawn_7 : decode cL_drawn 7 = .ok (.iload_n 1, 1) := by decide +kernel
theorem dL_drawn_8 : decode cL_drawn 8 = .ok (.iaload, 1) := by decide +kernel
theorem dL_drawn_9 : decode cL_drawn 9 = .ok (.goto 13, 3) := by decide +kernel
theorem dL_drawn_12 : decode cL_drawn 12 = .ok (.ldc 78, 2) := by decide +kernel
theorem dL_drawn_14 : decode cL_drawn 14 = .ok (.iload_n 1, 1) := by decide +kernel
theorem dL_drawn_15 : decode cL_drawn 15 = .ok (.iconst 3, 1) := by decide +kernel
theorem dL_drawn_16 : decode cL_drawn 16 = .ok (.iadd, 1) := by decide +kernel
theorem dL_drawn_17 : decode cL_drawn 17 = .ok (.imul, 1) := by decide +kernel
theorem dL_drawn_18 : decode cL_drawn 18 = .ok (.sipush 13711, 3) := by decide +kernel
theorem dL_drawn_21 : decode cL_drawn 21 = .ok (.iadd, 1) := by decide +kernel
theorem dL_drawn_22 : decode cL_drawn 22 = .ok (.ldc 79, 2) := by decide +kernel
theorem dL_drawn_24 : decode cL_drawn 24 = .ok (.iand, 1) := by decide +kernel
theorem dL_drawn_25 : decode cL_drawn 25 = .ok (.ireturn, 1) := by decide +kernel
set_option maxRecDepth 20000 in
theorem ggL_refuses_X5_nodes : GoodIn wsL_refuses wsX5_nodes := goodIn_r _ [8, 9, 10, 11, 12, 13, 14, 15, 500, 501, 502, 503, 504, 505, 506, 507, 508, 509, 510, 511, 512, 513, 514, 515, 516] (by decide +kernel) (by decide +kernel)
set_option maxRecDepth 20000 in
theorem gL_refuses_X5_nodes : GoodIn wsL_refuses (wsV RL 80 RX5 yX5_nodes wsX5_nodes) := goodIn_app (goodIn_of _ (by decide +kernel)) ggL_refuses_X5_nodes
set_option maxRecDepth 20000 in
theorem ggL_refuses_X5_pipes : GoodIn wsL_refuses wsX5_pipes := goodIn_r _ [19, 9, 20, 21, 22, 13, 23, 24, 500, 501, 502, 503, 504, 505, 506, 507, 508, 509, 510, 511, 512, 513, 514, 515, 516] (by decide +kernel) (by decide +kernel)
set_option maxRecDepth 20000 in
theorem gL_refuses_X5_pipes : GoodIn wsL_refuses (wsV RL 84 RX5 yX5_pipes wsX5_pipes) := goodIn_app (goodIn_of _ (by decide +kernel)) ggL_refuses_X5_pipes
set_option maxRecDepth 20000 in
theorem ggL_refuses_X5_valves : GoodIn wsL_refuses wsX5_valves := goodIn_r _ [28, 9, 29, 30, 31, 13, 32, 33, 500, 501, 502, 503, 504, 505, 506, 507, 508, 509, 510, 511, 512, 513, 514, 515, 516] (by decide +kernel) (by decide +kernel)
set_option maxRecDepth 20000 in
theorem gL_refuses_X5_valves : GoodIn wsL_refuses (wsV RL 87 RX5 yX5_valves wsX5_valves) := goodIn_app (goodIn_of _ (by decide +kernel)) ggL_refuses_X5_valves
set_option maxRecDepth 20000 in
theorem ggL_refuses_L_pipes : GoodIn wsL_refuses wsL_pipes := goodIn_ca (goodIn_ca (goodIn_ca (goodIn_r _ [37, 38, 39, 40, 1, 2, 3, 41, 42, 43, 7, 44, 45, 46, 47, 48, 9, 49, 50, 51, 52, 53, 54, 10, 11, 12, 13, 14, 15, 20, 21, 22, 23, 24, 55, 56, 57, 58, 59, 60, 61, 62, 63, 64, 65, 66, 67, 68, 500, 501, 502, 503, 504, 505, 506, 507, 508, 509, 510, 511, 512, 513, 514, 515, 516] (by decide +kernel) (by decide +kernel)) (goodIn_sub (fun _ h => List.mem_cons_of_mem _ (List.mem_append_left _ (List.mem_append_left _ (List.mem_append_right _ h)))) (by decide +kernel))) (goodIn_sub (fun _ h => List.mem_cons_of_mem _ (List.mem_append_left _ (List.mem_append_right _ h))) (by decide +kernel))) (goodIn_sub (fun _ h => List.mem_cons_of_mem _ (List.mem_append_right _ h)) (by decide +kernel))
set_option maxRecDepth 20000 in
theorem gL_refuses_L_pipes : GoodIn wsL_refuses (va_wsS RL 90 yL_pipes wsL_pipes) := goodIn_app (goodIn_of _ (by decide +kernel)) ggL_refuses_L_pipes
set_option maxRecDepth 20000 in
theorem ggL_refuses_L_valves : GoodIn wsL_refuses wsL_valves := goodIn_ca (goodIn_ca (goodIn_ca (goodIn_r _ [71, 38, 39, 40, 1, 2, 3, 72, 73, 74, 7, 75, 45, 46, 47, 48, 9, 76, 77, 78, 79, 53, 54, 20, 21, 22, 13, 23, 24, 80, 81, 82, 83, 84, 29, 30, 31, 32, 33, 85, 86, 87, 88, 89, 500, 501, 502, 503, 504, 505, 506, 507, 508, 509, 510, 511, 512, 513, 514, 515, 516] (by decide +kernel) (by decide +kernel)) (goodIn_sub (fun _ h => List.mem_cons_of_mem _ (List.mem_append_left _ (List.mem_append_left _ (List.mem_append_right _ h)))) (by decide +kernel))) (goodIn_sub (fun _ h => List.mem_cons_of_mem _ (List.mem_append_left _ (List.mem_append_right _ h))) (by decide +kernel))) (goodIn_sub (fun _ h => List.mem_cons_of_mem _ (List.mem_append_right _ h)) (by decide +kernel))
set_option maxRecDepth 20000 in
theorem gL_refuses_L_valves : GoodIn wsL_refuses (va_wsS RL 95 yL_valves wsL_valves) := goodIn_app (goodIn_of _ (by decide +kernel)) ggL_refuses_L_valves
set_option maxRecDepth 20000 in
theorem ggL_refuses_L_sources : GoodIn wsL_refuses wsL_sources := goodIn_ca (goodIn_r _ [92, 38, 1, 93, 94, 95, 7, 96, 9, 49, 50, 51, 52, 53, 54, 10, 11, 12, 13, 14, 15, 97, 98, 99, 100, 101, 102, 103, 104, 105, 500, 501, 502, 503, 504, 505, 506, 507, 508, 509, 510, 511, 512, 513, 514, 515, 516] (by decide +kernel) (by decide +kernel)) (goodIn_sub (fun _ h => List.mem_cons_of_mem _ (List.mem_append_right _ h)) (by decide +kernel))
set_option maxRecDepth 20000 in
theorem gL_refuses_L_sources : GoodIn wsL_refuses (va_wsS RL 98 yL_sources wsL_sources) := goodIn_app (goodIn_of _ (by decide +kernel)) ggL_refuses_L_sources
set_option maxRecDepth 20000 in
theorem ggL_refuses_L_sticks : GoodIn wsL_refuses wsL_sticks := goodIn_ca (goodIn_r _ [108, 38, 1, 109, 110, 111, 7, 112, 9, 113, 114, 115, 116, 53, 54, 29, 30, 31, 13, 32, 33, 117, 118, 119, 120, 121, 102, 103, 104, 105, 500, 501, 502, 503, 504, 505, 506, 507, 508, 509, 510, 511, 512, 513, 514, 515, 516] (by decide +kernel) (by decide +kernel)) (goodIn_sub (fun _ h => List.mem_cons_of_mem _ (List.mem_append_right _ h)) (by decide +kernel))
set_option maxRecDepth 20000 in
theorem gL_refuses_L_sticks : GoodIn wsL_refuses (va_wsS RL 102 yL_sticks wsL_sticks) := goodIn_app (goodIn_of _ (by decide +kernel)) ggL_refuses_L_sticks
set_option maxRecDepth 20000 in
theorem ggL_refuses_L_turns : GoodIn wsL_refuses wsL_turns := goodIn_ca (goodIn_ca (goodIn_r _ [124, 38, 40, 1, 3, 125, 126, 127, 7, 128, 47, 48, 9, 113, 114, 115, 116, 53, 54, 29, 30, 31, 13, 32, 33, 129, 130, 131, 132, 121, 102, 103, 133, 134, 135, 136, 137, 104, 105, 500, 501, 502, 503, 504, 505, 506, 507, 508, 509, 510, 511, 512, 513, 514, 515, 516] (by decide +kernel) (by decide +kernel)) (goodIn_sub (fun _ h => List.mem_cons_of_mem _ (List.mem_append_left _ (List.mem_append_right _ h))) (by decide +kernel))) (goodIn_sub (fun _ h => List.mem_cons_of_mem _ (List.mem_append_right _ h)) (by decide +kernel))
set_option maxRecDepth 20000 in
theorem gL_refuses_L_turns : GoodIn wsL_refuses (va_wsS RL 105 yL_turns wsL_turns) := goodIn_app (goodIn_of _ (by decide +kernel)) ggL_refuses_L_turns
set_option maxRecDepth 20000 in
theorem ggL_refuses_L_nodeDry : GoodIn wsL_refuses wsL_nodeDry := goodIn_ca (goodIn_r _ [140, 38, 1, 141, 142, 143, 7, 144, 49, 50, 51, 52, 53, 54, 9, 10, 11, 12, 13, 14, 15, 145, 146, 147, 148, 149, 150, 151, 152, 101, 137, 153, 154, 155, 156, 24, 84, 66, 157, 102, 103, 500, 501, 502, 503, 504, 505, 506, 507, 508, 509, 510, 511, 512, 513, 514, 515, 516] (by decide +kernel) (by decide +kernel)) (goodIn_sub (fun _ h => List.mem_cons_of_mem _ (List.mem_append_right _ h)) (by decide +kernel))
set_option maxRecDepth 20000 in
theorem gL_refuses_L_nodeDry : GoodIn wsL_refuses (va_wsS RL 108 yL_nodeDry wsL_nodeDry) := goodIn_app (goodIn_of _ (by decide +kernel)) ggL_refuses_L_nodeDry
set_option maxRecDepth 20000 in
theorem ggL_refuses_L_pipeDry : GoodIn wsL_refuses wsL_pipeDry := goodIn_ca (goodIn_r _ [160, 38, 1, 161, 162, 163, 7, 164, 76, 77, 78, 79, 53, 54, 9, 20, 21, 22, 13, 23, 24, 165, 67, 68, 145, 146, 147, 148, 149, 150, 151, 152, 101, 137, 153, 154, 155, 156, 84, 66, 157, 102, 103, 500, 501, 502, 503, 504, 505, 506, 507, 508, 509, 510, 511, 512, 513, 514, 515, 516] (by decide +kernel) (by decide +kernel)) (goodIn_sub (fun _ h => List.mem_cons_of_mem _ (List.mem_append_right _ h)) (by decide +kernel))
set_option maxRecDepth 20000 in
theorem gL_refuses_L_pipeDry : GoodIn wsL_refuses (va_wsS RL 112 yL_pipeDry wsL_pipeDry) := goodIn_app (goodIn_of _ (by decide +kernel)) ggL_refuses_L_pipeDry
set_option maxRecDepth 20000 in
theorem ggL_refuses_L_ofNode : GoodIn wsL_refuses wsL_ofNode := goodIn_ca (goodIn_r _ [168, 38, 1, 169, 170, 171, 7, 172, 173, 49, 50, 51, 52, 53, 54, 9, 10, 11, 12, 13, 14, 15, 174, 175, 176, 177, 178, 179, 180, 181, 182, 183, 184, 154, 155, 156, 24, 84, 66, 185, 186, 187, 188, 189, 190, 191, 192, 193, 194, 195, 196, 197, 67, 68, 102, 103, 500, 501, 502, 503, 504, 505, 506, 507, 508, 509, 510, 511, 512, 513, 514, 515, 516, 517, 518] (by decide +kernel) (by decide +kernel)) (goodIn_sub (fun _ h => List.mem_cons_of_mem _ (List.mem_append_right _ h)) (by decide +kernel))
set_option maxRecDepth 20000 in
theorem gL_refuses_L_ofNode : GoodIn wsL_refuses (va_wsS RL 115 yL_ofNode wsL_ofNode) := goodIn_app (goodIn_of _ (by decide +kernel)) ggL_refuses_L_ofNode
set_option maxRecDepth 20000 in
theorem ggL_refuses_L_ofPipe : GoodIn wsL_refuses wsL_ofPipe := goodIn_ca (goodIn_r _ [200, 38, 1, 201, 202, 203, 7, 204, 173, 76, 77, 78, 79, 53, 54, 9, 20, 21, 22, 13, 23, 24, 165, 67, 68, 174, 175, 176, 177, 178, 179, 180, 181, 182, 183, 184, 154, 155, 156, 84, 66, 185, 186, 187, 188, 189, 190, 191, 192, 193, 194, 195, 196, 197, 15, 102, 103, 500, 501, 502, 503, 504, 505, 506, 507, 508, 509, 510, 511, 512, 513, 514, 515, 516, 517, 518] (by decide +kernel) (by decide +kernel)) (goodIn_sub (fun _ h => List.mem_cons_of_mem _ (List.mem_append_right _ h)) (by decide +kernel))
set_option maxRecDepth 20000 in
theorem gL_refuses_L_ofPipe : GoodIn wsL_refuses (va_wsS RL 118 yL_ofPipe wsL_ofPipe) := goodIn_app (goodIn_of _ (by decide +kernel)) ggL_refuses_L_ofPipe
set_option maxRecDepth 20000 in
theorem ggL_refuses_L_merged : GoodIn wsL_refuses wsL_merged := goodIn_ca (goodIn_r _ [207, 38, 1, 208, 209, 210, 7, 211, 173, 76, 77, 78, 79, 53, 54, 9, 20, 21, 22, 13, 23, 24, 165, 67, 68, 212, 213, 214, 177, 215, 183, 216, 217, 218, 219, 220, 221, 222, 81, 82, 83, 84, 223, 224, 225, 226, 65, 227, 228, 229, 230, 231, 232, 233, 234, 235, 236, 237, 238, 239, 240, 241, 194, 195, 196, 197, 15, 500, 501, 502, 503, 504, 505, 506, 507, 508, 509, 510, 511, 512, 513, 514, 515, 516, 517, 518] (by decide +kernel) (by decide +kernel)) (goodIn_sub (fun _ h => List.mem_cons_of_mem _ (List.mem_append_right _ h)) (by decide +kernel))
set_option maxRecDepth 20000 in
theorem gL_refuses_L_merged : GoodIn wsL_refuses (va_wsS RL 121 yL_merged wsL_merged) := goodIn_app (goodIn_of _ (by decide +kernel)) ggL_refuses_L_merged
set_option maxRecDepth 20000 in
theorem ggL_refuses_L_ring : GoodIn wsL_refuses wsL_ring := goodIn_ca (goodIn_ca (goodIn_r _ [244, 38, 40, 1, 3, 245, 246, 247, 7, 248, 249, 76, 77, 78, 79, 53, 54, 9, 20, 21, 22, 13, 23, 24, 250, 251, 252, 253, 47, 48, 254, 255, 256, 257, 258, 67, 68, 259, 260, 261, 262, 263, 264, 265, 266, 267, 121, 137, 268, 154, 155, 156, 84, 66, 269, 270, 271, 272, 101, 273, 274, 275, 276, 277, 30, 31, 32, 33, 278, 279, 280, 281, 89, 102, 103, 282, 283, 284, 285, 65, 286, 287, 288, 289, 500, 501, 502, 503, 504, 505, 506, 507, 508, 509, 510, 511, 512, 513, 514, 515, 516, 519, 520, 521, 522, 523, 524] (by decide +kernel) (by decide +kernel)) (goodIn_sub (fun _ h => List.mem_cons_of_mem _ (List.mem_append_right _ h)) (by decide +kernel))) (goodIn_sub (fun _ h => List.mem_cons_of_mem _ (List.mem_append_left _ (List.mem_append_right _ h))) (by decide +kernel))
set_option maxRecDepth 20000 in
theorem gL_refuses_L_ring : GoodIn wsL_refuses (va_wsS RL 124 yL_ring wsL_ring) := goodIn_app (goodIn_of _ (by decide +kernel)) ggL_refuses_L_ring
set_option maxRecDepth 20000 in
theorem ggL_refuses_L_cut : GoodIn wsL_refuses wsL_cut := goodIn_ca (goodIn_ca (goodIn_r _ [292, 38, 40, 1, 3, 293, 294, 295, 7, 296, 249, 76, 77, 78, 79, 53, 54, 9, 20, 21, 22, 13, 23, 24, 250, 251, 252, 253, 47, 48, 254, 255, 256, 257, 258, 67, 68, 259, 260, 261, 262, 263, 264, 265, 266, 267, 121, 137, 268, 154, 155, 156, 84, 66, 269, 270, 271, 272, 101, 297, 298, 299, 300, 301, 150, 151, 152, 153, 302, 274, 275, 276, 277, 30, 31, 32, 33, 278, 279, 280, 281, 89, 102, 103, 282, 283, 284, 285, 65, 286, 287, 288, 289, 303, 304, 305, 306, 60, 500, 501, 502, 503, 504, 505, 506, 507, 508, 509, 510, 511, 512, 513, 514, 515, 516, 519, 520, 521, 522, 523, 524] (by decide +kernel) (by decide +kernel)) (goodIn_sub (fun _ h => List.mem_cons_of_mem _ (List.mem_append_right _ h)) (by decide +kernel))) (goodIn_sub (fun _ h => List.mem_cons_of_mem _ (List.mem_append_left _ (List.mem_append_right _ h))) (by decide +kernel))
set_option maxRecDepth 20000 in
theorem gL_refuses_L_cut : GoodIn wsL_refuses (va_wsS RL 126 yL_cut wsL_cut) := goodIn_app (goodIn_of _ (by decide +kernel)) ggL_refuses_L_cut
set_option maxRecDepth 20000 in
theorem ggL_refuses_L_fewest : GoodIn wsL_refuses wsL_fewest := goodIn_ca (goodIn_r _ [309, 38, 1, 310, 311, 312, 7, 313, 249, 76, 77, 78, 79, 53, 54, 9, 20, 21, 22, 13, 23, 24, 314, 315, 316, 257, 317, 318, 319, 255, 256, 258, 67, 68, 259, 260, 261, 262, 263, 264, 265, 266, 267, 121, 137, 268, 154, 155, 156, 84, 66, 320, 321, 322, 323, 324, 270, 271, 272, 101, 325, 326, 327, 328, 329, 330, 277, 30, 31, 32, 33, 278, 279, 280, 281, 89, 282, 283, 284, 285, 65, 331, 332, 333, 334, 335, 336, 337, 338, 339, 340, 286, 287, 288, 289, 102, 103, 341, 342, 343, 344, 500, 501, 502, 503, 504, 505, 506, 507, 508, 509, 510, 511, 512, 513, 514, 515, 516, 519, 520, 521, 522, 523, 524] (by decide +kernel) (by decide +kernel)) (goodIn_sub (fun _ h => List.mem_cons_of_mem _ (List.mem_append_right _ h)) (by decide +kernel))
set_option maxRecDepth 20000 in
theorem gL_refuses_L_fewest : GoodIn wsL_refuses (va_wsS RL 129 yL_fewest wsL_fewest) := goodIn_app (goodIn_of _ (by decide +kernel)) ggL_refuses_L_fewest
set_option maxRecDepth 20000 in
theorem ggL_refuses_L_tried : GoodIn wsL_refuses wsL_tried := goodIn_ca (goodIn_r _ [347, 38, 1, 348, 349, 350, 7, 351, 249, 76, 77, 78, 79, 53, 54, 9, 20, 21, 22, 13, 23, 24, 352, 353, 354, 257, 355, 263, 319, 255, 256, 258, 67, 68, 259, 260, 261, 262, 264, 265, 266, 267, 121, 137, 268, 154, 155, 156, 84, 66, 320, 321, 322, 323, 324, 270, 271, 272, 101, 325, 326, 327, 328, 329, 330, 277, 30, 31, 32, 33, 278, 279, 280, 281, 89, 282, 283, 284, 285, 65, 286, 287, 288, 289, 356, 357, 358, 359, 102, 103, 360, 361, 362, 363, 364, 187, 365, 366, 367, 368, 500, 501, 502, 503, 504, 505, 506, 507, 508, 509, 510, 511, 512, 513, 514, 515, 516, 519, 520, 521, 522, 523, 524] (by decide +kernel) (by decide +kernel)) (goodIn_sub (fun _ h => List.mem_cons_of_mem _ (List.mem_append_right _ h)) (by decide +kernel))
set_option maxRecDepth 20000 in
theorem gL_refuses_L_tried : GoodIn wsL_refuses (va_wsS RL 131 yL_tried wsL_tried) := goodIn_app (goodIn_of _ (by decide +kernel)) ggL_refuses_L_tried
set_option maxRecDepth 20000 in
theorem ggL_refuses_L_far : GoodIn wsL_refuses wsL_far := goodIn_ca (goodIn_r _ [371, 38, 1, 372, 373, 374, 7, 375, 376, 49, 50, 51, 52, 53, 54, 9, 10, 11, 12, 13, 14, 15, 377, 378, 379, 380, 381, 382, 383, 384, 385, 386, 387, 388, 389, 270, 271, 272, 101, 102, 103, 390, 391, 21, 22, 23, 24, 392, 393, 394, 395, 137, 396, 81, 82, 83, 84, 397, 398, 399, 400, 401, 236, 233, 237, 402, 224, 225, 226, 65, 403, 404, 405, 406, 59, 500, 501, 502, 503, 504, 505, 506, 507, 508, 509, 510, 511, 512, 513, 514, 515, 516, 525, 526] (by decide +kernel) (by decide +kernel)) (goodIn_sub (fun _ h => List.mem_cons_of_mem _ (List.mem_append_right _ h)) (by decide +kernel))
set_option maxRecDepth 20000 in
theorem gL_refuses_L_far : GoodIn wsL_refuses (va_wsS RL 134 yL_far wsL_far) := goodIn_app (goodIn_of _ (by decide +kernel)) ggL_refuses_L_far
set_option maxRecDepth 20000 in
theorem ggL_refuses_L_flush : GoodIn wsL_refuses wsL_flush := goodIn_ca (goodIn_r _ [409, 38, 1, 410, 411, 412, 7, 413, 53, 54, 376, 414, 415, 416, 380, 417, 388, 384, 385, 386, 387, 382, 383, 389, 270, 271, 13, 272, 101, 102, 103, 390, 11, 12, 14, 15, 391, 21, 22, 23, 24, 392, 393, 394, 395, 137, 396, 81, 82, 83, 84, 397, 398, 399, 400, 401, 236, 233, 237, 402, 224, 225, 226, 65, 403, 404, 405, 406, 59, 418, 419, 420, 421, 422, 423, 424, 425, 426, 427, 428, 429, 430, 431, 432, 433, 434, 435, 436, 437, 500, 501, 502, 503, 504, 525, 526, 505, 506, 507, 508, 509, 510, 511, 512, 513, 514, 515, 516] (by decide +kernel) (by decide +kernel)) (goodIn_sub (fun _ h => List.mem_cons_of_mem _ (List.mem_append_right _ h)) (by decide +kernel))
set_option maxRecDepth 20000 in
theorem gL_refuses_L_flush : GoodIn wsL_refuses (va_wsS RL 137 yL_flush wsL_flush) := goodIn_app (goodIn_of _ (by decide +kernel)) ggL_refuses_L_flush
set_option maxRecDepth 20000 in
theorem ggL_refuses_L_walks : GoodIn wsL_refuses wsL_walks := goodIn_ca (goodIn_ca (goodIn_r _ [440, 38, 39, 1, 2, 441, 442, 443, 7, 444, 45, 46, 9, 445, 49, 50, 51, 52, 53, 54, 10, 11, 12, 13, 14, 15, 29, 30, 31, 32, 33, 446, 364, 187, 365, 366, 367, 368, 447, 448, 449, 450, 451, 452, 453, 454, 236, 233, 237, 455, 456, 457, 458, 459, 460, 461, 102, 103, 462, 283, 284, 285, 65, 89, 463, 464, 465, 466, 467, 468, 21, 22, 23, 24, 469, 224, 225, 226, 470, 404, 405, 406, 59, 471, 472, 473, 474, 475, 476, 477, 478, 479, 480, 481, 482, 483, 484, 485, 486, 487, 500, 501, 502, 503, 504, 505, 506, 507, 508, 509, 510, 511, 512, 513, 514, 515, 516, 527, 528, 529, 530] (by decide +kernel) (by decide +kernel)) (goodIn_sub (fun _ h => List.mem_cons_of_mem _ (List.mem_append_left _ (List.mem_append_left _ (List.mem_append_right _ h)))) (by decide +kernel))) (goodIn_sub (fun _ h => List.mem_cons_of_mem _ (List.mem_append_right _ h)) (by decide +kernel))
set_option maxRecDepth 20000 in
theorem gL_refuses_L_walks : GoodIn wsL_refuses (va_wsS RL 140 yL_walks wsL_walks) := goodIn_app (goodIn_of _ (by decide +kernel)) ggL_refuses_L_walks
set_option maxRecDepth 20000 in
theorem ggL_refuses_L_nodes : GoodIn wsL_refuses wsL_nodes := goodIn_ca (goodIn_r _ [490, 40, 3, 491, 492, 493, 7, 494, 47, 48, 9, 10, 11, 12, 13, 14, 15, 495, 496, 497, 498, 499, 98, 99, 100, 101, 102, 103, 104, 105, 500, 501, 502, 503, 504, 505, 506, 507, 508, 509, 510, 511, 512, 513, 514, 515, 516] (by decide +kernel) (by decide +kernel)) (goodIn_sub (fun _ h => List.mem_cons_of_mem _ (List.mem_append_left _ (List.mem_append_right _ h))) (by decide +kernel))
set_option maxRecDepth 20000 in
theorem gL_refuses_L_nodes : GoodIn wsL_refuses (va_wsS RL 143 yL_nodes wsL_nodes) := goodIn_app (goodIn_of _ (by decide +kernel)) ggL_refuses_L_nodes
theorem dL_refuses_0 : decode cL_refuses 0 = .ok (.iload_n 1, 1) := by decide +kernel
theorem dL_refuses_1 : decode cL_refuses 1 = .ok (.iconst 2, 1) := by decide +kernel
theorem dL_refuses_2 : decode cL_refuses 2 = .ok (.irem, 1) := by decide +kernel
theorem dL_refuses_3 : decode cL_refuses 3 = .ok (.ifCond .ne 7, 3) := by decide +kernel
theorem dL_refuses_6 : decode cL_refuses 6 = .ok (.iconst 1, 1) := by decide +kernel
theorem dL_refuses_7 : decode cL_refuses 7 = .ok (.goto 4, 3) := by decide +kernel
theorem dL_refuses_10 : decode cL_refuses 10 = .ok (.iconst 0, 1) := by decide +kernel
theorem dL_refuses_11 : decode cL_refuses 11 = .ok (.istore_n 2, 1) := by decide +kernel
theorem dL_refuses_12 : decode cL_refuses 12 = .ok (.iload_n 2, 1) := by decide +kernel
theorem dL_refuses_13 : decode cL_refuses 13 = .ok (.ifCond .eq 12, 3) := by decide +kernel
theorem dL_refuses_16 : decode cL_refuses 16 = .ok (.iconst (-1), 1) := by decide +kernel
theorem dL_refuses_17 : decode cL_refuses 17 = .ok (.iload_n 1, 1) := by decide +kernel
theorem dL_refuses_18 : decode cL_refuses 18 = .ok (.bipush 50, 2) := by decide +kernel
theorem dL_refuses_20 : decode cL_refuses 20 = .ok (.irem, 1) := by decide +kernel
theorem dL_refuses_21 : decode cL_refuses 21 = .ok (.isub, 1) := by decide +kernel
theorem dL_refuses_22 : decode cL_refuses 22 = .ok (.goto 12, 3) := by decide +kernel
theorem dL_refuses_25 : decode cL_refuses 25 = .ok (.aload_n 0, 1) := by decide +kernel
theorem dL_refuses_26 : decode cL_refuses 26 = .ok (.invokevirtual 80, 3) := by decide +kernel
theorem dL_refuses_29 : decode cL_refuses 29 = .ok (.iload_n 1, 1) := by decide +kernel
theorem dL_refuses_30 : decode cL_refuses 30 = .ok (.bipush 50, 2) := by decide +kernel
theorem dL_refuses_32 : decode cL_refuses 32 = .ok (.irem, 1) := by decide +kernel
theorem dL_refuses_33 : decode cL_refuses 33 = .ok (.iadd, 1) := by decide +kernel
theorem dL_refuses_34 : decode cL_refuses 34 = .ok (.istore_n 3, 1) := by decide +kernel
theorem dL_refuses_35 : decode cL_refuses 35 = .ok (.iload_n 2, 1) := by decide +kernel
theorem dL_refuses_36 : decode cL_refuses 36 = .ok (.ifCond .eq 12, 3) := by decide +kernel
theorem dL_refuses_39 : decode cL_refuses 39 = .ok (.iconst (-1), 1) := by decide +kernel
theorem dL_refuses_40 : decode cL_refuses 40 = .ok (.iload_n 1, 1) := by decide +kernel
theorem dL_refuses_41 : decode cL_refuses 41 = .ok (.bipush 50, 2) := by decide +kernel
theorem dL_refuses_43 : decode cL_refuses 43 = .ok (.irem, 1) := by decide +kernel
theorem dL_refuses_44 : decode cL_refuses 44 = .ok (.isub, 1) := by decide +kernel
theorem dL_refuses_45 : decode cL_refuses 45 = .ok (.goto 12, 3) := by decide +kernel
theorem dL_refuses_48 : decode cL_refuses 48 = .ok (.aload_n 0, 1) := by decide +kernel
theorem dL_refuses_49 : decode cL_refuses 49 = .ok (.invokevirtual 84, 3) := by decide +kernel
theorem dL_refuses_52 : decode cL_refuses 52 = .ok (.iload_n 1, 1) := by decide +kernel
theorem dL_refuses_53 : decode cL_refuses 53 = .ok (.bipush 50, 2) := by decide +kernel
theorem dL_refuses_55 : decode cL_refuses 55 = .ok (.irem, 1) := by decide +kernel
theorem dL_refuses_56 : decode cL_refuses 56 = .ok (.iadd, 1) := by decide +kernel
theorem dL_refuses_57 : decode cL_refuses 57 = .ok (.istore 4, 2) := by decide +kernel
theorem dL_refuses_59 : decode cL_refuses 59 = .ok (.iload_n 2, 1) := by decide +kernel
theorem dL_refuses_60 : decode cL_refuses 60 = .ok (.ifCond .eq 12, 3) := by decide +kernel
theorem dL_refuses_63 : decode cL_refuses 63 = .ok (.iconst (-1), 1) := by decide +kernel
theorem dL_refuses_64 : decode cL_refuses 64 = .ok (.iload_n 1, 1) := by decide +kernel
theorem dL_refuses_65 : decode cL_refuses 65 = .ok (.bipush 50, 2) := by decide +kernel
theorem dL_refuses_67 : decode cL_refuses 67 = .ok (.irem, 1) := by decide +kernel
theorem dL_refuses_68 : decode cL_refuses 68 = .ok (.isub, 1) := by decide +kernel
theorem dL_refuses_69 : decode cL_refuses 69 = .ok (.goto 12, 3) := by decide +kernel
theorem dL_refuses_72 : decode cL_refuses 72 = .ok (.aload_n 0, 1) := by decide +kernel
theorem dL_refuses_73 : decode cL_refuses 73 = .ok (.invokevirtual 87, 3) := by decide +kernel
theorem dL_refuses_76 : decode cL_refuses 76 = .ok (.iload_n 1, 1) := by decide +kernel
theorem dL_refuses_77 : decode cL_refuses 77 = .ok (.bipush 50, 2) := by decide +kernel
theorem dL_refuses_79 : decode cL_refuses 79 = .ok (.irem, 1) := by decide +kernel
theorem dL_refuses_80 : decode cL_refuses 80 = .ok (.iadd, 1) := by decide +kernel
theorem dL_refuses_81 : decode cL_refuses 81 = .ok (.istore 5, 2) := by decide +kernel
theorem dL_refuses_83 : decode cL_refuses 83 = .ok (.aload_n 0, 1) := by decide +kernel
theorem dL_refuses_84 : decode cL_refuses 84 = .ok (.iload_n 3, 1) := by decide +kernel
theorem dL_refuses_85 : decode cL_refuses 85 = .ok (.iload_n 3, 1) := by decide +kernel
theorem dL_refuses_86 : decode cL_refuses 86 = .ok (.iconst 0, 1) := by decide +kernel
theorem dL_refuses_87 : decode cL_refuses 87 = .ok (.iconst 0, 1) := by decide +kernel
theorem dL_refuses_88 : decode cL_refuses 88 = .ok (.invokestatic 90, 3) := by decide +kernel
theorem dL_refuses_91 : decode cL_refuses 91 = .ok (.ldc 22, 2) := by decide +kernel
theorem dL_refuses_93 : decode cL_refuses 93 = .ok (.if_icmp .ne 200, 3) := by decide +kernel
theorem dL_refuses_96 : decode cL_refuses 96 = .ok (.aload_n 0, 1) := by decide +kernel
theorem dL_refuses_97 : decode cL_refuses 97 = .ok (.iload 4, 2) := by decide +kernel
theorem dL_refuses_99 : decode cL_refuses 99 = .ok (.bipush 7, 2) := by decide +kernel
theorem dL_refuses_101 : decode cL_refuses 101 = .ok (.invokestatic 95, 3) := by decide +kernel
theorem dL_refuses_104 : decode cL_refuses 104 = .ok (.ldc 22, 2) := by decide +kernel
theorem dL_refuses_106 : decode cL_refuses 106 = .ok (.if_icmp .ne 187, 3) := by decide +kernel
theorem dL_refuses_109 : decode cL_refuses 109 = .ok (.aload_n 0, 1) := by decide +kernel
theorem dL_refuses_110 : decode cL_refuses 110 = .ok (.iload_n 3, 1) := by decide +kernel
theorem dL_refuses_111 : decode cL_refuses 111 = .ok (.iconst 1, 1) := by decide +kernel
theorem dL_refuses_112 : decode cL_refuses 112 = .ok (.invokestatic 98, 3) := by decide +kernel
theorem dL_refuses_115 : decode cL_refuses 115 = .ok (.ldc 22, 2) := by decide +kernel
theorem dL_refuses_117 : decode cL_refuses 117 = .ok (.if_icmp .ne 176, 3) := by decide +kernel
theorem dL_refuses_120 : decode cL_refuses 120 = .ok (.aload_n 0, 1) := by decide +kernel
theorem dL_refuses_121 : decode cL_refuses 121 = .ok (.iload 5, 2) := by decide +kernel
theorem dL_refuses_123 : decode cL_refuses 123 = .ok (.iconst 1, 1) := by decide +kernel
theorem dL_refuses_124 : decode cL_refuses 124 = .ok (.invokestatic 102, 3) := by decide +kernel
theorem dL_refuses_127 : decode cL_refuses 127 = .ok (.ldc 22, 2) := by decide +kernel
theorem dL_refuses_129 : decode cL_refuses 129 = .ok (.if_icmp .ne 164, 3) := by decide +kernel
theorem dL_refuses_132 : decode cL_refuses 132 = .ok (.aload_n 0, 1) := by decide +kernel
theorem dL_refuses_133 : decode cL_refuses 133 = .ok (.iload 5, 2) := by decide +kernel
theorem dL_refuses_135 : decode cL_refuses 135 = .ok (.iconst 0, 1) := by decide +kernel
theorem dL_refuses_136 : decode cL_refuses 136 = .ok (.invokestatic 105, 3) := by decide +kernel
theorem dL_refuses_139 : decode cL_refuses 139 = .ok (.ldc 22, 2) := by decide +kernel
theorem dL_refuses_141 : decode cL_refuses 141 = .ok (.if_icmp .ne 152, 3) := by decide +kernel
theorem dL_refuses_144 : decode cL_refuses 144 = .ok (.aload_n 0, 1) := by decide +kernel
theorem dL_refuses_145 : decode cL_refuses 145 = .ok (.iload_n 3, 1) := by decide +kernel
theorem dL_refuses_146 : decode cL_refuses 146 = .ok (.invokestatic 108, 3) := by decide +kernel
theorem dL_refuses_149 : decode cL_refuses 149 = .ok (.ldc 22, 2) := by decide +kernel
theorem dL_refuses_151 : decode cL_refuses 151 = .ok (.if_icmp .ne 142, 3) := by decide +kernel
theorem dL_refuses_154 : decode cL_refuses 154 = .ok (.aload_n 0, 1) := by decide +kernel
theorem dL_refuses_155 : decode cL_refuses 155 = .ok (.iload 4, 2) := by decide +kernel
theorem dL_refuses_157 : decode cL_refuses 157 = .ok (.invokestatic 112, 3) := by decide +kernel
theorem dL_refuses_160 : decode cL_refuses 160 = .ok (.ldc 22, 2) := by decide +kernel
theorem dL_refuses_162 : decode cL_refuses 162 = .ok (.if_icmp .ne 131, 3) := by decide +kernel
theorem dL_refuses_165 : decode cL_refuses 165 = .ok (.aload_n 0, 1) := by decide +kernel
theorem dL_refuses_166 : decode cL_refuses 166 = .ok (.iload_n 3, 1) := by decide +kernel
theorem dL_refuses_167 : decode cL_refuses 167 = .ok (.invokestatic 115, 3) := by decide +kernel
theorem dL_refuses_170 : decode cL_refuses 170 = .ok (.ldc 22, 2) := by decide +kernel
theorem dL_refuses_172 : decode cL_refuses 172 = .ok (.if_icmp .ne 121, 3) := by decide +kernel
theorem dL_refuses_175 : decode cL_refuses 175 = .ok (.aload_n 0, 1) := by decide +kernel
theorem dL_refuses_176 : decode cL_refuses 176 = .ok (.iload 4, 2) := by decide +kernel
theorem dL_refuses_178 : decode cL_refuses 178 = .ok (.invokestatic 118, 3) := by decide +kernel
theorem dL_refuses_181 : decode cL_refuses 181 = .ok (.ldc 22, 2) := by decide +kernel
theorem dL_refuses_183 : decode cL_refuses 183 = .ok (.if_icmp .ne 110, 3) := by decide +kernel
theorem dL_refuses_186 : decode cL_refuses 186 = .ok (.aload_n 0, 1) := by decide +kernel
theorem dL_refuses_187 : decode cL_refuses 187 = .ok (.iload 4, 2) := by decide +kernel
theorem dL_refuses_189 : decode cL_refuses 189 = .ok (.invokestatic 121, 3) := by decide +kernel
theorem dL_refuses_192 : decode cL_refuses 192 = .ok (.ldc 22, 2) := by decide +kernel
theorem dL_refuses_194 : decode cL_refuses 194 = .ok (.if_icmp .ne 99, 3) := by decide +kernel
theorem dL_refuses_197 : decode cL_refuses 197 = .ok (.aload_n 0, 1) := by decide +kernel
theorem dL_refuses_198 : decode cL_refuses 198 = .ok (.iload 4, 2) := by decide +kernel
theorem dL_refuses_200 : decode cL_refuses 200 = .ok (.invokestatic 124, 3) := by decide +kernel
theorem dL_refuses_203 : decode cL_refuses 203 = .ok (.ldc 22, 2) := by decide +kernel
theorem dL_refuses_205 : decode cL_refuses 205 = .ok (.if_icmp .ne 88, 3) := by decide +kernel
theorem dL_refuses_208 : decode cL_refuses 208 = .ok (.aload_n 0, 1) := by decide +kernel
theorem dL_refuses_209 : decode cL_refuses 209 = .ok (.iload 4, 2) := by decide +kernel
theorem dL_refuses_211 : decode cL_refuses 211 = .ok (.invokestatic 126, 3) := by decide +kernel
theorem dL_refuses_214 : decode cL_refuses 214 = .ok (.ldc 22, 2) := by decide +kernel
theorem dL_refuses_216 : decode cL_refuses 216 = .ok (.if_icmp .ne 77, 3) := by decide +kernel
theorem dL_refuses_219 : decode cL_refuses 219 = .ok (.aload_n 0, 1) := by decide +kernel
theorem dL_refuses_220 : decode cL_refuses 220 = .ok (.iload 4, 2) := by decide +kernel
theorem dL_refuses_222 : decode cL_refuses 222 = .ok (.invokestatic 129, 3) := by decide +kernel
theorem dL_refuses_225 : decode cL_refuses 225 = .ok (.ldc 22, 2) := by decide +kernel
theorem dL_refuses_227 : decode cL_refuses 227 = .ok (.if_icmp .ne 66, 3) := by decide +kernel
theorem dL_refuses_230 : decode cL_refuses 230 = .ok (.aload_n 0, 1) := by decide +kernel
theorem dL_refuses_231 : decode cL_refuses 231 = .ok (.iload 4, 2) := by decide +kernel
theorem dL_refuses_233 : decode cL_refuses 233 = .ok (.invokestatic 131, 3) := by decide +kernel
theorem dL_refuses_236 : decode cL_refuses 236 = .ok (.ldc 22, 2) := by decide +kernel
theorem dL_refuses_238 : decode cL_refuses 238 = .ok (.if_icmp .ne 55, 3) := by decide +kernel
theorem dL_refuses_241 : decode cL_refuses 241 = .ok (.aload_n 0, 1) := by decide +kernel
theorem dL_refuses_242 : decode cL_refuses 242 = .ok (.iload_n 3, 1) := by decide +kernel
theorem dL_refuses_243 : decode cL_refuses 243 = .ok (.invokestatic 134, 3) := by decide +kernel
theorem dL_refuses_246 : decode cL_refuses 246 = .ok (.ldc 22, 2) := by decide +kernel
theorem dL_refuses_248 : decode cL_refuses 248 = .ok (.if_icmp .ne 45, 3) := by decide +kernel
theorem dL_refuses_251 : decode cL_refuses 251 = .ok (.aload_n 0, 1) := by decide +kernel
theorem dL_refuses_252 : decode cL_refuses 252 = .ok (.iconst (-1), 1) := by decide +kernel
theorem dL_refuses_253 : decode cL_refuses 253 = .ok (.iload_n 1, 1) := by decide +kernel
theorem dL_refuses_254 : decode cL_refuses 254 = .ok (.isub, 1) := by decide +kernel
theorem dL_refuses_255 : decode cL_refuses 255 = .ok (.invokestatic 137, 3) := by decide +kernel
theorem dL_refuses_258 : decode cL_refuses 258 = .ok (.ldc 22, 2) := by decide +kernel
theorem dL_refuses_260 : decode cL_refuses 260 = .ok (.if_icmp .ne 33, 3) := by decide +kernel
theorem dL_refuses_263 : decode cL_refuses 263 = .ok (.aload_n 0, 1) := by decide +kernel
theorem dL_refuses_264 : decode cL_refuses 264 = .ok (.aload_n 0, 1) := by decide +kernel
theorem dL_refuses_265 : decode cL_refuses 265 = .ok (.invokevirtual 84, 3) := by decide +kernel
theorem dL_refuses_268 : decode cL_refuses 268 = .ok (.iload_n 1, 1) := by decide +kernel
theorem dL_refuses_269 : decode cL_refuses 269 = .ok (.iadd, 1) := by decide +kernel
theorem dL_refuses_270 : decode cL_refuses 270 = .ok (.invokestatic 137, 3) := by decide +kernel
theorem dL_refuses_273 : decode cL_refuses 273 = .ok (.ldc 22, 2) := by decide +kernel
theorem dL_refuses_275 : decode cL_refuses 275 = .ok (.if_icmp .ne 18, 3) := by decide +kernel
theorem dL_refuses_278 : decode cL_refuses 278 = .ok (.aload_n 0, 1) := by decide +kernel
theorem dL_refuses_279 : decode cL_refuses 279 = .ok (.iload_n 3, 1) := by decide +kernel
theorem dL_refuses_280 : decode cL_refuses 280 = .ok (.iconst (-1), 1) := by decide +kernel
theorem dL_refuses_281 : decode cL_refuses 281 = .ok (.invokestatic 140, 3) := by decide +kernel
theorem dL_refuses_284 : decode cL_refuses 284 = .ok (.ldc 22, 2) := by decide +kernel
theorem dL_refuses_286 : decode cL_refuses 286 = .ok (.if_icmp .ne 7, 3) := by decide +kernel
theorem dL_refuses_289 : decode cL_refuses 289 = .ok (.iconst 1, 1) := by decide +kernel
theorem dL_refuses_290 : decode cL_refuses 290 = .ok (.goto 4, 3) := by decide +kernel
theorem dL_refuses_293 : decode cL_refuses 293 = .ok (.iconst 0, 1) := by decide +kernel
theorem dL_refuses_294 : decode cL_refuses 294 = .ok (.istore 6, 2) := by decide +kernel
theorem dL_refuses_296 : decode cL_refuses 296 = .ok (.iload 6, 2) := by decide +kernel
theorem dL_refuses_298 : decode cL_refuses 298 = .ok (.ifCond .eq 211, 3) := by decide +kernel
theorem dL_refuses_301 : decode cL_refuses 301 = .ok (.aload_n 0, 1) := by decide +kernel
theorem dL_refuses_302 : decode cL_refuses 302 = .ok (.invokevirtual 80, 3) := by decide +kernel
theorem dL_refuses_305 : decode cL_refuses 305 = .ok (.iconst 1, 1) := by decide +kernel
theorem dL_refuses_306 : decode cL_refuses 306 = .ok (.if_icmp .le 203, 3) := by decide +kernel
theorem dL_refuses_309 : decode cL_refuses 309 = .ok (.iload_n 1, 1) := by decide +kernel
theorem dL_refuses_310 : decode cL_refuses 310 = .ok (.aload_n 0, 1) := by decide +kernel
theorem dL_refuses_311 : decode cL_refuses 311 = .ok (.invokevirtual 80, 3) := by decide +kernel
theorem dL_refuses_314 : decode cL_refuses 314 = .ok (.irem, 1) := by decide +kernel
theorem dL_refuses_315 : decode cL_refuses 315 = .ok (.istore 7, 2) := by decide +kernel
theorem dL_refuses_317 : decode cL_refuses 317 = .ok (.iload 7, 2) := by decide +kernel
theorem dL_refuses_319 : decode cL_refuses 319 = .ok (.iconst 1, 1) := by decide +kernel
theorem dL_refuses_320 : decode cL_refuses 320 = .ok (.iadd, 1) := by decide +kernel
theorem dL_refuses_321 : decode cL_refuses 321 = .ok (.aload_n 0, 1) := by decide +kernel
theorem dL_refuses_322 : decode cL_refuses 322 = .ok (.invokevirtual 80, 3) := by decide +kernel
theorem dL_refuses_325 : decode cL_refuses 325 = .ok (.irem, 1) := by decide +kernel
theorem dL_refuses_326 : decode cL_refuses 326 = .ok (.istore 8, 2) := by decide +kernel
theorem dL_refuses_328 : decode cL_refuses 328 = .ok (.aload_n 0, 1) := by decide +kernel
theorem dL_refuses_329 : decode cL_refuses 329 = .ok (.iload 7, 2) := by decide +kernel
theorem dL_refuses_331 : decode cL_refuses 331 = .ok (.iload_n 3, 1) := by decide +kernel
theorem dL_refuses_332 : decode cL_refuses 332 = .ok (.iconst 5, 1) := by decide +kernel
theorem dL_refuses_333 : decode cL_refuses 333 = .ok (.iconst 5, 1) := by decide +kernel
theorem dL_refuses_334 : decode cL_refuses 334 = .ok (.invokestatic 90, 3) := by decide +kernel
theorem dL_refuses_337 : decode cL_refuses 337 = .ok (.ldc 22, 2) := by decide +kernel
theorem dL_refuses_339 : decode cL_refuses 339 = .ok (.if_icmp .ne 167, 3) := by decide +kernel
theorem dL_refuses_342 : decode cL_refuses 342 = .ok (.aload_n 0, 1) := by decide +kernel
theorem dL_refuses_343 : decode cL_refuses 343 = .ok (.iload 7, 2) := by decide +kernel
theorem dL_refuses_345 : decode cL_refuses 345 = .ok (.iload 7, 2) := by decide +kernel
theorem dL_refuses_347 : decode cL_refuses 347 = .ok (.iconst 5, 1) := by decide +kernel
theorem dL_refuses_348 : decode cL_refuses 348 = .ok (.iconst 5, 1) := by decide +kernel
theorem dL_refuses_349 : decode cL_refuses 349 = .ok (.invokestatic 90, 3) := by decide +kernel
theorem dL_refuses_352 : decode cL_refuses 352 = .ok (.ldc 25, 2) := by decide +kernel
theorem dL_refuses_354 : decode cL_refuses 354 = .ok (.if_icmp .ne 152, 3) := by decide +kernel
theorem dL_refuses_357 : decode cL_refuses 357 = .ok (.aload_n 0, 1) := by decide +kernel
theorem dL_refuses_358 : decode cL_refuses 358 = .ok (.iload 7, 2) := by decide +kernel
theorem dL_refuses_360 : decode cL_refuses 360 = .ok (.iload 8, 2) := by decide +kernel
theorem dL_refuses_362 : decode cL_refuses 362 = .ok (.iconst 0, 1) := by decide +kernel
theorem dL_refuses_363 : decode cL_refuses 363 = .ok (.iconst 5, 1) := by decide +kernel
theorem dL_refuses_364 : decode cL_refuses 364 = .ok (.invokestatic 90, 3) := by decide +kernel
theorem dL_refuses_367 : decode cL_refuses 367 = .ok (.ldc 25, 2) := by decide +kernel
theorem dL_refuses_369 : decode cL_refuses 369 = .ok (.if_icmp .ne 137, 3) := by decide +kernel
theorem dL_refuses_372 : decode cL_refuses 372 = .ok (.aload_n 0, 1) := by decide +kernel
theorem dL_refuses_373 : decode cL_refuses 373 = .ok (.iload 7, 2) := by decide +kernel
theorem dL_refuses_375 : decode cL_refuses 375 = .ok (.iload 8, 2) := by decide +kernel
theorem dL_refuses_377 : decode cL_refuses 377 = .ok (.bipush 100, 2) := by decide +kernel
theorem dL_refuses_379 : decode cL_refuses 379 = .ok (.iload_n 1, 1) := by decide +kernel
theorem dL_refuses_380 : decode cL_refuses 380 = .ok (.iadd, 1) := by decide +kernel
theorem dL_refuses_381 : decode cL_refuses 381 = .ok (.iconst 5, 1) := by decide +kernel
theorem dL_refuses_382 : decode cL_refuses 382 = .ok (.invokestatic 90, 3) := by decide +kernel
theorem dL_refuses_385 : decode cL_refuses 385 = .ok (.ldc 25, 2) := by decide +kernel
theorem dL_refuses_387 : decode cL_refuses 387 = .ok (.if_icmp .ne 119, 3) := by decide +kernel
theorem dL_refuses_390 : decode cL_refuses 390 = .ok (.aload_n 0, 1) := by decide +kernel
theorem dL_refuses_391 : decode cL_refuses 391 = .ok (.iload 7, 2) := by decide +kernel
theorem dL_refuses_393 : decode cL_refuses 393 = .ok (.iload 8, 2) := by decide +kernel
theorem dL_refuses_395 : decode cL_refuses 395 = .ok (.iconst 5, 1) := by decide +kernel
theorem dL_refuses_396 : decode cL_refuses 396 = .ok (.iconst (-1), 1) := by decide +kernel
theorem dL_refuses_397 : decode cL_refuses 397 = .ok (.iload_n 1, 1) := by decide +kernel
theorem dL_refuses_398 : decode cL_refuses 398 = .ok (.isub, 1) := by decide +kernel
theorem dL_refuses_399 : decode cL_refuses 399 = .ok (.invokestatic 90, 3) := by decide +kernel
theorem dL_refuses_402 : decode cL_refuses 402 = .ok (.ldc 25, 2) := by decide +kernel
theorem dL_refuses_404 : decode cL_refuses 404 = .ok (.if_icmp .ne 102, 3) := by decide +kernel
theorem dL_refuses_407 : decode cL_refuses 407 = .ok (.aload_n 0, 1) := by decide +kernel
theorem dL_refuses_408 : decode cL_refuses 408 = .ok (.iload 7, 2) := by decide +kernel
theorem dL_refuses_410 : decode cL_refuses 410 = .ok (.iload 8, 2) := by decide +kernel
theorem dL_refuses_412 : decode cL_refuses 412 = .ok (.iconst 5, 1) := by decide +kernel
theorem dL_refuses_413 : decode cL_refuses 413 = .ok (.bipush 100, 2) := by decide +kernel
theorem dL_refuses_415 : decode cL_refuses 415 = .ok (.iload_n 1, 1) := by decide +kernel
theorem dL_refuses_416 : decode cL_refuses 416 = .ok (.iadd, 1) := by decide +kernel
theorem dL_refuses_417 : decode cL_refuses 417 = .ok (.invokestatic 90, 3) := by decide +kernel
theorem dL_refuses_420 : decode cL_refuses 420 = .ok (.ldc 25, 2) := by decide +kernel
theorem dL_refuses_422 : decode cL_refuses 422 = .ok (.if_icmp .ne 84, 3) := by decide +kernel
theorem dL_refuses_425 : decode cL_refuses 425 = .ok (.aload_n 0, 1) := by decide +kernel
theorem dL_refuses_426 : decode cL_refuses 426 = .ok (.iload 7, 2) := by decide +kernel
theorem dL_refuses_428 : decode cL_refuses 428 = .ok (.iconst (-1), 1) := by decide +kernel
theorem dL_refuses_429 : decode cL_refuses 429 = .ok (.iload_n 1, 1) := by decide +kernel
theorem dL_refuses_430 : decode cL_refuses 430 = .ok (.isub, 1) := by decide +kernel
theorem dL_refuses_431 : decode cL_refuses 431 = .ok (.invokestatic 140, 3) := by decide +kernel
theorem dL_refuses_434 : decode cL_refuses 434 = .ok (.ldc 25, 2) := by decide +kernel
theorem dL_refuses_436 : decode cL_refuses 436 = .ok (.if_icmp .ne 70, 3) := by decide +kernel
theorem dL_refuses_439 : decode cL_refuses 439 = .ok (.aload_n 0, 1) := by decide +kernel
theorem dL_refuses_440 : decode cL_refuses 440 = .ok (.iload 7, 2) := by decide +kernel
theorem dL_refuses_442 : decode cL_refuses 442 = .ok (.iconst 1, 1) := by decide +kernel
theorem dL_refuses_443 : decode cL_refuses 443 = .ok (.aload_n 0, 1) := by decide +kernel
theorem dL_refuses_444 : decode cL_refuses 444 = .ok (.invokevirtual 87, 3) := by decide +kernel
theorem dL_refuses_447 : decode cL_refuses 447 = .ok (.ishl, 1) := by decide +kernel
theorem dL_refuses_448 : decode cL_refuses 448 = .ok (.invokestatic 140, 3) := by decide +kernel
theorem dL_refuses_451 : decode cL_refuses 451 = .ok (.ldc 25, 2) := by decide +kernel
theorem dL_refuses_453 : decode cL_refuses 453 = .ok (.if_icmp .ne 53, 3) := by decide +kernel
theorem dL_refuses_456 : decode cL_refuses 456 = .ok (.aload_n 0, 1) := by decide +kernel
theorem dL_refuses_457 : decode cL_refuses 457 = .ok (.invokevirtual 87, 3) := by decide +kernel
theorem dL_refuses_460 : decode cL_refuses 460 = .ok (.bipush 7, 2) := by decide +kernel
theorem dL_refuses_462 : decode cL_refuses 462 = .ok (.if_icmp .lt 16, 3) := by decide +kernel
theorem dL_refuses_465 : decode cL_refuses 465 = .ok (.aload_n 0, 1) := by decide +kernel
theorem dL_refuses_466 : decode cL_refuses 466 = .ok (.iload 7, 2) := by decide +kernel
theorem dL_refuses_468 : decode cL_refuses 468 = .ok (.bipush 127, 2) := by decide +kernel
theorem dL_refuses_470 : decode cL_refuses 470 = .ok (.invokestatic 140, 3) := by decide +kernel
theorem dL_refuses_473 : decode cL_refuses 473 = .ok (.ldc 25, 2) := by decide +kernel
theorem dL_refuses_475 : decode cL_refuses 475 = .ok (.if_icmp .ne 31, 3) := by decide +kernel
theorem dL_refuses_478 : decode cL_refuses 478 = .ok (.aload_n 0, 1) := by decide +kernel
theorem dL_refuses_479 : decode cL_refuses 479 = .ok (.invokevirtual 84, 3) := by decide +kernel
theorem dL_refuses_482 : decode cL_refuses 482 = .ok (.bipush 16, 2) := by decide +kernel
theorem dL_refuses_484 : decode cL_refuses 484 = .ok (.if_icmp .lt 18, 3) := by decide +kernel
theorem dL_refuses_487 : decode cL_refuses 487 = .ok (.aload_n 0, 1) := by decide +kernel
theorem dL_refuses_488 : decode cL_refuses 488 = .ok (.iload 7, 2) := by decide +kernel
theorem dL_refuses_490 : decode cL_refuses 490 = .ok (.iload 8, 2) := by decide +kernel
theorem dL_refuses_492 : decode cL_refuses 492 = .ok (.iconst 5, 1) := by decide +kernel
theorem dL_refuses_493 : decode cL_refuses 493 = .ok (.iconst 5, 1) := by decide +kernel
theorem dL_refuses_494 : decode cL_refuses 494 = .ok (.invokestatic 90, 3) := by decide +kernel
theorem dL_refuses_497 : decode cL_refuses 497 = .ok (.ldc 15, 2) := by decide +kernel
theorem dL_refuses_499 : decode cL_refuses 499 = .ok (.if_icmp .ne 7, 3) := by decide +kernel
theorem dL_refuses_502 : decode cL_refuses 502 = .ok (.iconst 1, 1) := by decide +kernel
theorem dL_refuses_503 : decode cL_refuses 503 = .ok (.goto 4, 3) := by decide +kernel
theorem dL_refuses_506 : decode cL_refuses 506 = .ok (.iconst 0, 1) := by decide +kernel
theorem dL_refuses_507 : decode cL_refuses 507 = .ok (.istore 6, 2) := by decide +kernel
theorem dL_refuses_509 : decode cL_refuses 509 = .ok (.iload 6, 2) := by decide +kernel
theorem dL_refuses_511 : decode cL_refuses 511 = .ok (.ifCond .eq 80, 3) := by decide +kernel
theorem dL_refuses_514 : decode cL_refuses 514 = .ok (.aload_n 0, 1) := by decide +kernel
theorem dL_refuses_515 : decode cL_refuses 515 = .ok (.invokevirtual 84, 3) := by decide +kernel
theorem dL_refuses_518 : decode cL_refuses 518 = .ok (.ifCond .le 73, 3) := by decide +kernel
theorem dL_refuses_521 : decode cL_refuses 521 = .ok (.aload_n 0, 1) := by decide +kernel
theorem dL_refuses_522 : decode cL_refuses 522 = .ok (.iload_n 1, 1) := by decide +kernel
theorem dL_refuses_523 : decode cL_refuses 523 = .ok (.aload_n 0, 1) := by decide +kernel
theorem dL_refuses_524 : decode cL_refuses 524 = .ok (.invokevirtual 84, 3) := by decide +kernel
theorem dL_refuses_527 : decode cL_refuses 527 = .ok (.irem, 1) := by decide +kernel
theorem dL_refuses_528 : decode cL_refuses 528 = .ok (.iconst 2, 1) := by decide +kernel
theorem dL_refuses_529 : decode cL_refuses 529 = .ok (.iload_n 1, 1) := by decide +kernel
theorem dL_refuses_530 : decode cL_refuses 530 = .ok (.iadd, 1) := by decide +kernel
theorem dL_refuses_531 : decode cL_refuses 531 = .ok (.invokestatic 95, 3) := by decide +kernel
theorem dL_refuses_534 : decode cL_refuses 534 = .ok (.ldc 25, 2) := by decide +kernel
theorem dL_refuses_536 : decode cL_refuses 536 = .ok (.if_icmp .ne 52, 3) := by decide +kernel
theorem dL_refuses_539 : decode cL_refuses 539 = .ok (.aload_n 0, 1) := by decide +kernel
theorem dL_refuses_540 : decode cL_refuses 540 = .ok (.iload_n 1, 1) := by decide +kernel
theorem dL_refuses_541 : decode cL_refuses 541 = .ok (.aload_n 0, 1) := by decide +kernel
theorem dL_refuses_542 : decode cL_refuses 542 = .ok (.invokevirtual 84, 3) := by decide +kernel
theorem dL_refuses_545 : decode cL_refuses 545 = .ok (.irem, 1) := by decide +kernel
theorem dL_refuses_546 : decode cL_refuses 546 = .ok (.iconst (-1), 1) := by decide +kernel
theorem dL_refuses_547 : decode cL_refuses 547 = .ok (.iload_n 1, 1) := by decide +kernel
theorem dL_refuses_548 : decode cL_refuses 548 = .ok (.isub, 1) := by decide +kernel
theorem dL_refuses_549 : decode cL_refuses 549 = .ok (.invokestatic 95, 3) := by decide +kernel
theorem dL_refuses_552 : decode cL_refuses 552 = .ok (.ldc 25, 2) := by decide +kernel
theorem dL_refuses_554 : decode cL_refuses 554 = .ok (.if_icmp .ne 34, 3) := by decide +kernel
theorem dL_refuses_557 : decode cL_refuses 557 = .ok (.aload_n 0, 1) := by decide +kernel
theorem dL_refuses_558 : decode cL_refuses 558 = .ok (.invokevirtual 87, 3) := by decide +kernel
theorem dL_refuses_561 : decode cL_refuses 561 = .ok (.bipush 12, 2) := by decide +kernel
theorem dL_refuses_563 : decode cL_refuses 563 = .ok (.if_icmp .lt 21, 3) := by decide +kernel
theorem dL_refuses_566 : decode cL_refuses 566 = .ok (.aload_n 0, 1) := by decide +kernel
theorem dL_refuses_567 : decode cL_refuses 567 = .ok (.iload_n 1, 1) := by decide +kernel
theorem dL_refuses_568 : decode cL_refuses 568 = .ok (.aload_n 0, 1) := by decide +kernel
theorem dL_refuses_569 : decode cL_refuses 569 = .ok (.invokevirtual 84, 3) := by decide +kernel
theorem dL_refuses_572 : decode cL_refuses 572 = .ok (.irem, 1) := by decide +kernel
theorem dL_refuses_573 : decode cL_refuses 573 = .ok (.iload_n 1, 1) := by decide +kernel
theorem dL_refuses_574 : decode cL_refuses 574 = .ok (.iconst 2, 1) := by decide +kernel
theorem dL_refuses_575 : decode cL_refuses 575 = .ok (.irem, 1) := by decide +kernel
theorem dL_refuses_576 : decode cL_refuses 576 = .ok (.invokestatic 95, 3) := by decide +kernel
theorem dL_refuses_579 : decode cL_refuses 579 = .ok (.ldc 15, 2) := by decide +kernel
theorem dL_refuses_581 : decode cL_refuses 581 = .ok (.if_icmp .ne 7, 3) := by decide +kernel
theorem dL_refuses_584 : decode cL_refuses 584 = .ok (.iconst 1, 1) := by decide +kernel
theorem dL_refuses_585 : decode cL_refuses 585 = .ok (.goto 4, 3) := by decide +kernel
theorem dL_refuses_588 : decode cL_refuses 588 = .ok (.iconst 0, 1) := by decide +kernel
theorem dL_refuses_589 : decode cL_refuses 589 = .ok (.istore 6, 2) := by decide +kernel
theorem dL_refuses_591 : decode cL_refuses 591 = .ok (.iload 6, 2) := by decide +kernel
theorem dL_refuses_593 : decode cL_refuses 593 = .ok (.ifCond .eq 26, 3) := by decide +kernel
theorem dL_refuses_596 : decode cL_refuses 596 = .ok (.aload_n 0, 1) := by decide +kernel
theorem dL_refuses_597 : decode cL_refuses 597 = .ok (.invokevirtual 80, 3) := by decide +kernel
theorem dL_refuses_600 : decode cL_refuses 600 = .ok (.bipush 12, 2) := by decide +kernel
theorem dL_refuses_602 : decode cL_refuses 602 = .ok (.if_icmp .lt 13, 3) := by decide +kernel
theorem dL_refuses_605 : decode cL_refuses 605 = .ok (.aload_n 0, 1) := by decide +kernel
theorem dL_refuses_606 : decode cL_refuses 606 = .ok (.iconst 1, 1) := by decide +kernel
theorem dL_refuses_607 : decode cL_refuses 607 = .ok (.invokestatic 143, 3) := by decide +kernel
theorem dL_refuses_610 : decode cL_refuses 610 = .ok (.ldc 15, 2) := by decide +kernel
theorem dL_refuses_612 : decode cL_refuses 612 = .ok (.if_icmp .ne 7, 3) := by decide +kernel
theorem dL_refuses_615 : decode cL_refuses 615 = .ok (.iconst 1, 1) := by decide +kernel
theorem dL_refuses_616 : decode cL_refuses 616 = .ok (.goto 4, 3) := by decide +kernel
theorem dL_refuses_619 : decode cL_refuses 619 = .ok (.iconst 0, 1) := by decide +kernel
theorem dL_refuses_620 : decode cL_refuses 620 = .ok (.ireturn, 1) := by decide +kernel
set_option maxRecDepth 20000 in
theorem ggL_act_X5_nodes : GoodIn wsL_act wsX5_nodes := goodIn_r _ [5, 6, 7, 8, 9, 10, 11, 12, 150, 151, 152, 153, 154, 155, 156, 157, 158, 159, 160, 161, 162, 163, 164, 165, 166] (by decide +kernel) (by decide +kernel)
set_option maxRecDepth 20000 in
theorem gL_act_X5_nodes : GoodIn wsL_act (wsV RL 80 RX5 yX5_nodes wsX5_nodes) := goodIn_app (goodIn_of _ (by decide +kernel)) ggL_act_X5_nodes
set_option maxRecDepth 20000 in
theorem ggL_act_X5_valves : GoodIn wsL_act wsX5_valves := goodIn_r _ [16, 6, 17, 18, 19, 10, 20, 21, 150, 151, 152, 153, 154, 155, 156, 157, 158, 159, 160, 161, 162, 163, 164, 165, 166] (by decide +kernel) (by decide +kernel)
set_option maxRecDepth 20000 in
theorem gL_act_X5_valves : GoodIn wsL_act (wsV RL 87 RX5 yX5_valves wsX5_valves) := goodIn_app (goodIn_of _ (by decide +kernel)) ggL_act_X5_valves
set_option maxRecDepth 20000 in
theorem ggL_act_L_nodes : GoodIn wsL_act wsL_nodes := goodIn_ca (goodIn_r _ [25, 26, 27, 28, 29, 30, 4, 31, 32, 33, 6, 7, 8, 9, 10, 11, 12, 34, 35, 36, 37, 38, 39, 40, 41, 42, 43, 44, 45, 46, 150, 151, 152, 153, 154, 155, 156, 157, 158, 159, 160, 161, 162, 163, 164, 165, 166] (by decide +kernel) (by decide +kernel)) (goodIn_sub (fun _ h => List.mem_cons_of_mem _ (List.mem_append_left _ (List.mem_append_left _ (List.mem_append_right _ h)))) (by decide +kernel))
set_option maxRecDepth 20000 in
theorem gL_act_L_nodes : GoodIn wsL_act (va_wsS RL 143 yL_nodes wsL_nodes) := goodIn_app (goodIn_of _ (by decide +kernel)) ggL_act_L_nodes
set_option maxRecDepth 20000 in
theorem ggL_act_L_pipes : GoodIn wsL_act wsL_pipes := goodIn_ca (goodIn_ca (goodIn_ca (goodIn_r _ [49, 50, 51, 26, 52, 53, 27, 54, 55, 56, 4, 57, 58, 59, 32, 33, 6, 60, 61, 62, 63, 64, 65, 7, 8, 9, 10, 11, 12, 66, 67, 68, 69, 70, 71, 72, 73, 74, 75, 76, 77, 78, 79, 80, 81, 82, 83, 84, 150, 151, 152, 153, 154, 155, 156, 157, 158, 159, 160, 161, 162, 163, 164, 165, 166] (by decide +kernel) (by decide +kernel)) (goodIn_sub (fun _ h => List.mem_cons_of_mem _ (List.mem_append_left _ (List.mem_append_right _ h))) (by decide +kernel))) (goodIn_sub (fun _ h => List.mem_cons_of_mem _ (List.mem_append_left _ (List.mem_append_left _ (List.mem_append_right _ h)))) (by decide +kernel))) (goodIn_sub (fun _ h => List.mem_cons_of_mem _ (List.mem_append_right _ h)) (by decide +kernel))
set_option maxRecDepth 20000 in
theorem gL_act_L_pipes : GoodIn wsL_act (va_wsS RL 90 yL_pipes wsL_pipes) := goodIn_app (goodIn_of _ (by decide +kernel)) ggL_act_L_pipes
set_option maxRecDepth 20000 in
theorem ggL_act_X5_pipes : GoodIn wsL_act wsX5_pipes := goodIn_r _ [88, 6, 66, 67, 68, 10, 69, 70, 150, 151, 152, 153, 154, 155, 156, 157, 158, 159, 160, 161, 162, 163, 164, 165, 166] (by decide +kernel) (by decide +kernel)
set_option maxRecDepth 20000 in
theorem gL_act_X5_pipes : GoodIn wsL_act (wsV RL 84 RX5 yX5_pipes wsX5_pipes) := goodIn_app (goodIn_of _ (by decide +kernel)) ggL_act_X5_pipes
set_option maxRecDepth 20000 in
theorem ggL_act_L_valves : GoodIn wsL_act wsL_valves := goodIn_ca (goodIn_ca (goodIn_ca (goodIn_r _ [91, 50, 51, 26, 52, 53, 27, 92, 93, 94, 4, 95, 58, 59, 32, 33, 6, 96, 97, 98, 99, 64, 65, 66, 67, 68, 10, 69, 70, 100, 101, 102, 103, 104, 17, 18, 19, 20, 21, 105, 106, 107, 108, 109, 150, 151, 152, 153, 154, 155, 156, 157, 158, 159, 160, 161, 162, 163, 164, 165, 166] (by decide +kernel) (by decide +kernel)) (goodIn_sub (fun _ h => List.mem_cons_of_mem _ (List.mem_append_left _ (List.mem_append_right _ h))) (by decide +kernel))) (goodIn_sub (fun _ h => List.mem_cons_of_mem _ (List.mem_append_left _ (List.mem_append_left _ (List.mem_append_right _ h)))) (by decide +kernel))) (goodIn_sub (fun _ h => List.mem_cons_of_mem _ (List.mem_append_right _ h)) (by decide +kernel))
set_option maxRecDepth 20000 in
theorem gL_act_L_valves : GoodIn wsL_act (va_wsS RL 95 yL_valves wsL_valves) := goodIn_app (goodIn_of _ (by decide +kernel)) ggL_act_L_valves
set_option maxRecDepth 20000 in
theorem ggL_act_L_sources : GoodIn wsL_act wsL_sources := goodIn_ca (goodIn_r _ [112, 50, 52, 113, 114, 115, 4, 116, 6, 60, 61, 62, 63, 64, 65, 7, 8, 9, 10, 11, 12, 117, 39, 40, 41, 42, 43, 44, 45, 46, 150, 151, 152, 153, 154, 155, 156, 157, 158, 159, 160, 161, 162, 163, 164, 165, 166] (by decide +kernel) (by decide +kernel)) (goodIn_sub (fun _ h => List.mem_cons_of_mem _ (List.mem_append_right _ h)) (by decide +kernel))
set_option maxRecDepth 20000 in
theorem gL_act_L_sources : GoodIn wsL_act (va_wsS RL 98 yL_sources wsL_sources) := goodIn_app (goodIn_of _ (by decide +kernel)) ggL_act_L_sources
set_option maxRecDepth 20000 in
theorem ggL_act_L_sticks : GoodIn wsL_act wsL_sticks := goodIn_ca (goodIn_r _ [120, 50, 52, 121, 122, 123, 4, 124, 6, 125, 126, 127, 128, 64, 65, 17, 18, 19, 10, 20, 21, 129, 130, 131, 132, 133, 43, 44, 45, 46, 150, 151, 152, 153, 154, 155, 156, 157, 158, 159, 160, 161, 162, 163, 164, 165, 166] (by decide +kernel) (by decide +kernel)) (goodIn_sub (fun _ h => List.mem_cons_of_mem _ (List.mem_append_right _ h)) (by decide +kernel))
set_option maxRecDepth 20000 in
theorem gL_act_L_sticks : GoodIn wsL_act (va_wsS RL 102 yL_sticks wsL_sticks) := goodIn_app (goodIn_of _ (by decide +kernel)) ggL_act_L_sticks
set_option maxRecDepth 20000 in
theorem ggL_act_L_turns : GoodIn wsL_act wsL_turns := goodIn_ca (goodIn_ca (goodIn_r _ [136, 50, 26, 52, 27, 137, 138, 139, 4, 140, 32, 33, 6, 125, 126, 127, 128, 64, 65, 17, 18, 19, 10, 20, 21, 141, 142, 143, 144, 133, 43, 44, 145, 146, 147, 148, 149, 45, 46, 150, 151, 152, 153, 154, 155, 156, 157, 158, 159, 160, 161, 162, 163, 164, 165, 166] (by decide +kernel) (by decide +kernel)) (goodIn_sub (fun _ h => List.mem_cons_of_mem _ (List.mem_append_left _ (List.mem_append_left _ (List.mem_append_right _ h)))) (by decide +kernel))) (goodIn_sub (fun _ h => List.mem_cons_of_mem _ (List.mem_append_right _ h)) (by decide +kernel))
set_option maxRecDepth 20000 in
theorem gL_act_L_turns : GoodIn wsL_act (va_wsS RL 105 yL_turns wsL_turns) := goodIn_app (goodIn_of _ (by decide +kernel)) ggL_act_L_turns
theorem dL_act_0 : decode cL_act 0 = .ok (.iload_n 1, 1) := by decide +kernel
theorem dL_act_1 : decode cL_act 1 = .ok (.bipush 16, 2) := by decide +kernel
theorem dL_act_3 : decode cL_act 3 = .ok (.idiv, 1) := by decide +kernel
theorem dL_act_4 : decode cL_act 4 = .ok (.istore_n 3, 1) := by decide +kernel
theorem dL_act_5 : decode cL_act 5 = .ok (.aload_n 0, 1) := by decide +kernel
theorem dL_act_6 : decode cL_act 6 = .ok (.invokevirtual 80, 3) := by decide +kernel
theorem dL_act_9 : decode cL_act 9 = .ok (.ifCond .ne 7, 3) := by decide +kernel
theorem dL_act_12 : decode cL_act 12 = .ok (.iconst 0, 1) := by decide +kernel
theorem dL_act_13 : decode cL_act 13 = .ok (.goto 9, 3) := by decide +kernel
theorem dL_act_16 : decode cL_act 16 = .ok (.iload_n 3, 1) := by decide +kernel
theorem dL_act_17 : decode cL_act 17 = .ok (.aload_n 0, 1) := by decide +kernel
theorem dL_act_18 : decode cL_act 18 = .ok (.invokevirtual 80, 3) := by decide +kernel
theorem dL_act_21 : decode cL_act 21 = .ok (.irem, 1) := by decide +kernel
theorem dL_act_22 : decode cL_act 22 = .ok (.istore 4, 2) := by decide +kernel
theorem dL_act_24 : decode cL_act 24 = .ok (.aload_n 0, 1) := by decide +kernel
theorem dL_act_25 : decode cL_act 25 = .ok (.invokevirtual 80, 3) := by decide +kernel
theorem dL_act_28 : decode cL_act 28 = .ok (.ifCond .ne 7, 3) := by decide +kernel
theorem dL_act_31 : decode cL_act 31 = .ok (.iconst 0, 1) := by decide +kernel
theorem dL_act_32 : decode cL_act 32 = .ok (.goto 12, 3) := by decide +kernel
theorem dL_act_35 : decode cL_act 35 = .ok (.iload_n 3, 1) := by decide +kernel
theorem dL_act_36 : decode cL_act 36 = .ok (.bipush 12, 2) := by decide +kernel
theorem dL_act_38 : decode cL_act 38 = .ok (.idiv, 1) := by decide +kernel
theorem dL_act_39 : decode cL_act 39 = .ok (.aload_n 0, 1) := by decide +kernel
theorem dL_act_40 : decode cL_act 40 = .ok (.invokevirtual 80, 3) := by decide +kernel
theorem dL_act_43 : decode cL_act 43 = .ok (.irem, 1) := by decide +kernel
theorem dL_act_44 : decode cL_act 44 = .ok (.istore 5, 2) := by decide +kernel
theorem dL_act_46 : decode cL_act 46 = .ok (.aload_n 0, 1) := by decide +kernel
theorem dL_act_47 : decode cL_act 47 = .ok (.invokevirtual 87, 3) := by decide +kernel
theorem dL_act_50 : decode cL_act 50 = .ok (.ifCond .ne 7, 3) := by decide +kernel
theorem dL_act_53 : decode cL_act 53 = .ok (.iconst 0, 1) := by decide +kernel
theorem dL_act_54 : decode cL_act 54 = .ok (.goto 9, 3) := by decide +kernel
theorem dL_act_57 : decode cL_act 57 = .ok (.iload_n 3, 1) := by decide +kernel
theorem dL_act_58 : decode cL_act 58 = .ok (.aload_n 0, 1) := by decide +kernel
theorem dL_act_59 : decode cL_act 59 = .ok (.invokevirtual 87, 3) := by decide +kernel
theorem dL_act_62 : decode cL_act 62 = .ok (.irem, 1) := by decide +kernel
theorem dL_act_63 : decode cL_act 63 = .ok (.istore 6, 2) := by decide +kernel
theorem dL_act_65 : decode cL_act 65 = .ok (.iload_n 3, 1) := by decide +kernel
theorem dL_act_66 : decode cL_act 66 = .ok (.bipush 16, 2) := by decide +kernel
theorem dL_act_68 : decode cL_act 68 = .ok (.idiv, 1) := by decide +kernel
theorem dL_act_69 : decode cL_act 69 = .ok (.iconst 2, 1) := by decide +kernel
theorem dL_act_70 : decode cL_act 70 = .ok (.irem, 1) := by decide +kernel
theorem dL_act_71 : decode cL_act 71 = .ok (.ifCond .ne 7, 3) := by decide +kernel
theorem dL_act_74 : decode cL_act 74 = .ok (.iconst 1, 1) := by decide +kernel
theorem dL_act_75 : decode cL_act 75 = .ok (.goto 4, 3) := by decide +kernel
theorem dL_act_78 : decode cL_act 78 = .ok (.iconst 0, 1) := by decide +kernel
theorem dL_act_79 : decode cL_act 79 = .ok (.istore 7, 2) := by decide +kernel
theorem dL_act_81 : decode cL_act 81 = .ok (.iload_n 1, 1) := by decide +kernel
theorem dL_act_82 : decode cL_act 82 = .ok (.bipush 16, 2) := by decide +kernel
theorem dL_act_84 : decode cL_act 84 = .ok (.irem, 1) := by decide +kernel
theorem dL_act_85 : decode cL_act 85 = .ok (.tableswitch 168 0 11 #[63, 63, 79, 79, 79, 79, 120, 120, 120, 120, 150, 159], 63) := by decide +kernel
theorem dL_act_148 : decode cL_act 148 = .ok (.aload_n 0, 1) := by decide +kernel
theorem dL_act_149 : decode cL_act 149 = .ok (.iload_n 3, 1) := by decide +kernel
theorem dL_act_150 : decode cL_act 150 = .ok (.iconst 4, 1) := by decide +kernel
theorem dL_act_151 : decode cL_act 151 = .ok (.irem, 1) := by decide +kernel
theorem dL_act_152 : decode cL_act 152 = .ok (.ifCond .ne 7, 3) := by decide +kernel
theorem dL_act_155 : decode cL_act 155 = .ok (.iconst 1, 1) := by decide +kernel
theorem dL_act_156 : decode cL_act 156 = .ok (.goto 4, 3) := by decide +kernel
theorem dL_act_159 : decode cL_act 159 = .ok (.iconst 0, 1) := by decide +kernel
theorem dL_act_160 : decode cL_act 160 = .ok (.invokestatic 143, 3) := by decide +kernel
theorem dL_act_163 : decode cL_act 163 = .ok (.ireturn, 1) := by decide +kernel
theorem dL_act_164 : decode cL_act 164 = .ok (.aload_n 0, 1) := by decide +kernel
theorem dL_act_165 : decode cL_act 165 = .ok (.iload_n 2, 1) := by decide +kernel
theorem dL_act_166 : decode cL_act 166 = .ok (.ifCond .ne 8, 3) := by decide +kernel
theorem dL_act_169 : decode cL_act 169 = .ok (.iload 4, 2) := by decide +kernel
theorem dL_act_171 : decode cL_act 171 = .ok (.goto 5, 3) := by decide +kernel
theorem dL_act_174 : decode cL_act 174 = .ok (.iload 5, 2) := by decide +kernel
theorem dL_act_176 : decode cL_act 176 = .ok (.iload_n 2, 1) := by decide +kernel
theorem dL_act_177 : decode cL_act 177 = .ok (.ifCond .ne 8, 3) := by decide +kernel
theorem dL_act_180 : decode cL_act 180 = .ok (.iload 5, 2) := by decide +kernel
theorem dL_act_182 : decode cL_act 182 = .ok (.goto 5, 3) := by decide +kernel
theorem dL_act_185 : decode cL_act 185 = .ok (.iload 4, 2) := by decide +kernel
theorem dL_act_187 : decode cL_act 187 = .ok (.iconst 1, 1) := by decide +kernel
theorem dL_act_188 : decode cL_act 188 = .ok (.iload_n 3, 1) := by decide +kernel
theorem dL_act_189 : decode cL_act 189 = .ok (.sipush 144, 3) := by decide +kernel
theorem dL_act_192 : decode cL_act 192 = .ok (.idiv, 1) := by decide +kernel
theorem dL_act_193 : decode cL_act 193 = .ok (.bipush 99, 2) := by decide +kernel
theorem dL_act_195 : decode cL_act 195 = .ok (.irem, 1) := by decide +kernel
theorem dL_act_196 : decode cL_act 196 = .ok (.iadd, 1) := by decide +kernel
theorem dL_act_197 : decode cL_act 197 = .ok (.iload_n 3, 1) := by decide +kernel
theorem dL_act_198 : decode cL_act 198 = .ok (.bipush 100, 2) := by decide +kernel
theorem dL_act_200 : decode cL_act 200 = .ok (.irem, 1) := by decide +kernel
theorem dL_act_201 : decode cL_act 201 = .ok (.invokestatic 90, 3) := by decide +kernel
theorem dL_act_204 : decode cL_act 204 = .ok (.ireturn, 1) := by decide +kernel
theorem dL_act_205 : decode cL_act 205 = .ok (.aload_n 0, 1) := by decide +kernel
theorem dL_act_206 : decode cL_act 206 = .ok (.aload_n 0, 1) := by decide +kernel
theorem dL_act_207 : decode cL_act 207 = .ok (.invokevirtual 84, 3) := by decide +kernel
theorem dL_act_210 : decode cL_act 210 = .ok (.ifCond .ne 7, 3) := by decide +kernel
theorem dL_act_213 : decode cL_act 213 = .ok (.iconst 0, 1) := by decide +kernel
theorem dL_act_214 : decode cL_act 214 = .ok (.goto 9, 3) := by decide +kernel
theorem dL_act_217 : decode cL_act 217 = .ok (.iload_n 3, 1) := by decide +kernel
theorem dL_act_218 : decode cL_act 218 = .ok (.aload_n 0, 1) := by decide +kernel
theorem dL_act_219 : decode cL_act 219 = .ok (.invokevirtual 84, 3) := by decide +kernel
theorem dL_act_222 : decode cL_act 222 = .ok (.irem, 1) := by decide +kernel
theorem dL_act_223 : decode cL_act 223 = .ok (.iload_n 3, 1) := by decide +kernel
theorem dL_act_224 : decode cL_act 224 = .ok (.bipush 16, 2) := by decide +kernel
theorem dL_act_226 : decode cL_act 226 = .ok (.idiv, 1) := by decide +kernel
theorem dL_act_227 : decode cL_act 227 = .ok (.iload_n 2, 1) := by decide +kernel
theorem dL_act_228 : decode cL_act 228 = .ok (.iadd, 1) := by decide +kernel
theorem dL_act_229 : decode cL_act 229 = .ok (.iconst 2, 1) := by decide +kernel
theorem dL_act_230 : decode cL_act 230 = .ok (.irem, 1) := by decide +kernel
theorem dL_act_231 : decode cL_act 231 = .ok (.invokestatic 95, 3) := by decide +kernel
theorem dL_act_234 : decode cL_act 234 = .ok (.ireturn, 1) := by decide +kernel
theorem dL_act_235 : decode cL_act 235 = .ok (.aload_n 0, 1) := by decide +kernel
theorem dL_act_236 : decode cL_act 236 = .ok (.iload 4, 2) := by decide +kernel
theorem dL_act_238 : decode cL_act 238 = .ok (.iload 7, 2) := by decide +kernel
theorem dL_act_240 : decode cL_act 240 = .ok (.invokestatic 98, 3) := by decide +kernel
theorem dL_act_243 : decode cL_act 243 = .ok (.ireturn, 1) := by decide +kernel
theorem dL_act_244 : decode cL_act 244 = .ok (.aload_n 0, 1) := by decide +kernel
theorem dL_act_245 : decode cL_act 245 = .ok (.iload 6, 2) := by decide +kernel
theorem dL_act_247 : decode cL_act 247 = .ok (.iload 7, 2) := by decide +kernel
theorem dL_act_249 : decode cL_act 249 = .ok (.invokestatic 102, 3) := by decide +kernel
theorem dL_act_252 : decode cL_act 252 = .ok (.ireturn, 1) := by decide +kernel
theorem dL_act_253 : decode cL_act 253 = .ok (.aload_n 0, 1) := by decide +kernel
theorem dL_act_254 : decode cL_act 254 = .ok (.iload 6, 2) := by decide +kernel
theorem dL_act_256 : decode cL_act 256 = .ok (.iload 7, 2) := by decide +kernel
theorem dL_act_258 : decode cL_act 258 = .ok (.invokestatic 105, 3) := by decide +kernel
theorem dL_act_261 : decode cL_act 261 = .ok (.ireturn, 1) := by decide +kernel
set_option maxRecDepth 20000 in
theorem ggL_alike_X5_nodes : GoodIn wsL_alike wsX5_nodes := goodIn_r _ [5, 6, 7, 8, 9, 10, 11, 12, 346, 347, 348, 349, 350, 351, 352, 353, 354, 355, 356, 357, 358, 359, 360, 361, 362] (by decide +kernel) (by decide +kernel)
set_option maxRecDepth 20000 in
theorem gL_alike_X5_nodes : GoodIn wsL_alike (wsV RL 80 RX5 yX5_nodes wsX5_nodes) := goodIn_app (goodIn_of _ (by decide +kernel)) ggL_alike_X5_nodes
set_option maxRecDepth 20000 in
theorem ggL_alike_X5_pipes : GoodIn wsL_alike wsX5_pipes := goodIn_r _ [16, 6, 17, 18, 19, 10, 20, 21, 346, 347, 348, 349, 350, 351, 352, 353, 354, 355, 356, 357, 358, 359, 360, 361, 362] (by decide +kernel) (by decide +kernel)
set_option maxRecDepth 20000 in
theorem gL_alike_X5_pipes : GoodIn wsL_alike (wsV RL 84 RX5 yX5_pipes wsX5_pipes) := goodIn_app (goodIn_of _ (by decide +kernel)) ggL_alike_X5_pipes
set_option maxRecDepth 20000 in
theorem ggL_alike_X5_valves : GoodIn wsL_alike wsX5_valves := goodIn_r _ [25, 6, 26, 27, 28, 10, 29, 30, 346, 347, 348, 349, 350, 351, 352, 353, 354, 355, 356, 357, 358, 359, 360, 361, 362] (by decide +kernel) (by decide +kernel)
set_option maxRecDepth 20000 in
theorem gL_alike_X5_valves : GoodIn wsL_alike (wsV RL 87 RX5 yX5_valves wsX5_valves) := goodIn_app (goodIn_of _ (by decide +kernel)) ggL_alike_X5_valves
set_option maxRecDepth 20000 in
theorem ggL_alike_X5_supplied : GoodIn wsL_alike wsX5_supplied := goodIn_r _ [34, 6, 35, 36, 37, 10, 38, 39, 40, 41, 42, 43, 44, 21, 45, 46, 47, 48, 49, 50, 51, 52, 4, 53, 54, 55, 346, 347, 348, 349, 350, 351, 352, 353, 354, 355, 356, 357, 358, 359, 360, 361, 362] (by decide +kernel) (by decide +kernel)
set_option maxRecDepth 20000 in
theorem gL_alike_X5_supplied : GoodIn wsL_alike (wsV RL 146 RX5 yX5_supplied wsX5_supplied) := goodIn_app (goodIn_of _ (by decide +kernel)) ggL_alike_X5_supplied
set_option maxRecDepth 20000 in
theorem ggL_alike_X5_segments : GoodIn wsL_alike wsX5_segments := goodIn_r _ [59, 60, 61, 62, 63, 64, 65, 66, 67, 68, 69, 70, 71, 72, 73, 10, 74, 12, 21, 52, 4, 53, 54, 55, 75, 76, 77, 78, 79, 42, 43, 44, 45, 46, 346, 347, 348, 349, 350, 363, 364, 351, 352, 353, 354, 355, 356, 357, 358, 359, 360, 361, 362] (by decide +kernel) (by decide +kernel)
set_option maxRecDepth 20000 in
theorem gL_alike_X5_segments : GoodIn wsL_alike (wsV RL 149 RX5 yX5_segments wsX5_segments) := goodIn_app (goodIn_of _ (by decide +kernel)) ggL_alike_X5_segments
set_option maxRecDepth 20000 in
theorem ggL_alike_L_nodeDry : GoodIn wsL_alike wsL_nodeDry := goodIn_ca (goodIn_r _ [83, 84, 85, 86, 87, 88, 4, 89, 90, 91, 92, 93, 94, 95, 6, 7, 8, 9, 10, 11, 12, 96, 97, 98, 99, 35, 36, 37, 38, 39, 40, 41, 42, 43, 44, 21, 45, 46, 100, 54, 55, 346, 347, 348, 349, 350, 351, 352, 353, 354, 355, 356, 357, 358, 359, 360, 361, 362] (by decide +kernel) (by decide +kernel)) (goodIn_sub (fun _ h => List.mem_cons_of_mem _ (List.mem_append_left _ (List.mem_append_right _ h))) (by decide +kernel))
set_option maxRecDepth 20000 in
theorem gL_alike_L_nodeDry : GoodIn wsL_alike (va_wsS RL 108 yL_nodeDry wsL_nodeDry) := goodIn_app (goodIn_of _ (by decide +kernel)) ggL_alike_L_nodeDry
set_option maxRecDepth 20000 in
theorem ggL_alike_L_ofNode : GoodIn wsL_alike wsL_ofNode := goodIn_ca (goodIn_r _ [103, 84, 85, 104, 105, 106, 4, 107, 60, 90, 91, 92, 93, 94, 95, 6, 7, 8, 9, 10, 11, 12, 108, 109, 110, 64, 111, 75, 76, 77, 78, 70, 79, 42, 43, 44, 21, 45, 46, 112, 113, 114, 115, 116, 66, 67, 68, 69, 71, 72, 73, 74, 52, 53, 54, 55, 346, 347, 348, 349, 350, 351, 352, 353, 354, 355, 356, 357, 358, 359, 360, 361, 362, 363, 364] (by decide +kernel) (by decide +kernel)) (goodIn_sub (fun _ h => List.mem_cons_of_mem _ (List.mem_append_left _ (List.mem_append_right _ h))) (by decide +kernel))
set_option maxRecDepth 20000 in
theorem gL_alike_L_ofNode : GoodIn wsL_alike (va_wsS RL 115 yL_ofNode wsL_ofNode) := goodIn_app (goodIn_of _ (by decide +kernel)) ggL_alike_L_ofNode
set_option maxRecDepth 20000 in
theorem ggL_alike_L_far : GoodIn wsL_alike wsL_far := goodIn_ca (goodIn_r _ [119, 84, 85, 120, 121, 122, 4, 123, 124, 90, 91, 92, 93, 94, 95, 6, 7, 8, 9, 10, 11, 12, 125, 126, 127, 128, 129, 130, 131, 132, 133, 134, 135, 136, 137, 138, 139, 140, 39, 54, 55, 141, 142, 18, 19, 20, 21, 143, 144, 145, 146, 40, 147, 148, 149, 150, 45, 151, 152, 153, 154, 155, 156, 157, 158, 159, 160, 161, 162, 163, 164, 165, 166, 167, 168, 346, 347, 348, 349, 350, 351, 352, 353, 354, 355, 356, 357, 358, 359, 360, 361, 362, 365, 366] (by decide +kernel) (by decide +kernel)) (goodIn_sub (fun _ h => List.mem_cons_of_mem _ (List.mem_append_left _ (List.mem_append_right _ h))) (by decide +kernel))
set_option maxRecDepth 20000 in
theorem gL_alike_L_far : GoodIn wsL_alike (va_wsS RL 134 yL_far wsL_far) := goodIn_app (goodIn_of _ (by decide +kernel)) ggL_alike_L_far
set_option maxRecDepth 20000 in
theorem ggL_alike_L_pipeDry : GoodIn wsL_alike wsL_pipeDry := goodIn_ca (goodIn_r _ [171, 84, 85, 172, 173, 174, 4, 175, 176, 177, 178, 179, 94, 95, 6, 17, 18, 19, 10, 20, 21, 180, 52, 53, 96, 97, 98, 99, 35, 36, 37, 38, 39, 40, 41, 42, 43, 44, 45, 46, 100, 54, 55, 346, 347, 348, 349, 350, 351, 352, 353, 354, 355, 356, 357, 358, 359, 360, 361, 362] (by decide +kernel) (by decide +kernel)) (goodIn_sub (fun _ h => List.mem_cons_of_mem _ (List.mem_append_left _ (List.mem_append_right _ h))) (by decide +kernel))
set_option maxRecDepth 20000 in
theorem gL_alike_L_pipeDry : GoodIn wsL_alike (va_wsS RL 112 yL_pipeDry wsL_pipeDry) := goodIn_app (goodIn_of _ (by decide +kernel)) ggL_alike_L_pipeDry
set_option maxRecDepth 20000 in
theorem ggL_alike_L_ofPipe : GoodIn wsL_alike wsL_ofPipe := goodIn_ca (goodIn_r _ [183, 84, 85, 184, 185, 186, 4, 187, 60, 176, 177, 178, 179, 94, 95, 6, 17, 18, 19, 10, 20, 21, 180, 52, 53, 108, 109, 110, 64, 111, 75, 76, 77, 78, 70, 79, 42, 43, 44, 45, 46, 112, 113, 114, 115, 116, 66, 67, 68, 69, 71, 72, 73, 74, 12, 54, 55, 346, 347, 348, 349, 350, 351, 352, 353, 354, 355, 356, 357, 358, 359, 360, 361, 362, 363, 364] (by decide +kernel) (by decide +kernel)) (goodIn_sub (fun _ h => List.mem_cons_of_mem _ (List.mem_append_left _ (List.mem_append_right _ h))) (by decide +kernel))
set_option maxRecDepth 20000 in
theorem gL_alike_L_ofPipe : GoodIn wsL_alike (va_wsS RL 118 yL_ofPipe wsL_ofPipe) := goodIn_app (goodIn_of _ (by decide +kernel)) ggL_alike_L_ofPipe
set_option maxRecDepth 20000 in
theorem ggL_alike_L_ring : GoodIn wsL_alike wsL_ring := goodIn_ca (goodIn_ca (goodIn_r _ [190, 84, 191, 85, 192, 193, 194, 195, 4, 196, 197, 176, 177, 178, 179, 94, 95, 6, 17, 18, 19, 10, 20, 21, 198, 199, 200, 201, 202, 203, 204, 205, 206, 207, 208, 52, 53, 209, 210, 211, 212, 213, 214, 215, 216, 217, 218, 40, 219, 42, 43, 44, 45, 46, 220, 138, 139, 140, 39, 221, 222, 223, 224, 225, 27, 28, 29, 30, 226, 227, 228, 229, 230, 54, 55, 231, 232, 233, 234, 163, 235, 236, 237, 238, 346, 347, 348, 349, 350, 351, 352, 353, 354, 355, 356, 357, 358, 359, 360, 361, 362, 367, 368, 369, 370, 371, 372] (by decide +kernel) (by decide +kernel)) (goodIn_sub (fun _ h => List.mem_cons_of_mem _ (List.mem_append_left _ (List.mem_append_right _ h))) (by decide +kernel))) (goodIn_sub (fun _ h => List.mem_cons_of_mem _ (List.mem_append_right _ h)) (by decide +kernel))
set_option maxRecDepth 20000 in
theorem gL_alike_L_ring : GoodIn wsL_alike (va_wsS RL 124 yL_ring wsL_ring) := goodIn_app (goodIn_of _ (by decide +kernel)) ggL_alike_L_ring
set_option maxRecDepth 20000 in
theorem ggL_alike_L_cut : GoodIn wsL_alike wsL_cut := goodIn_ca (goodIn_ca (goodIn_r _ [241, 84, 191, 85, 192, 242, 243, 244, 4, 245, 197, 176, 177, 178, 179, 94, 95, 6, 17, 18, 19, 10, 20, 21, 198, 199, 200, 201, 202, 203, 204, 205, 206, 207, 208, 52, 53, 209, 210, 211, 212, 213, 214, 215, 216, 217, 218, 40, 219, 42, 43, 44, 45, 46, 220, 138, 139, 140, 39, 246, 247, 248, 249, 250, 36, 37, 38, 41, 251, 222, 223, 224, 225, 27, 28, 29, 30, 226, 227, 228, 229, 230, 54, 55, 231, 232, 233, 234, 163, 235, 236, 237, 238, 252, 48, 49, 50, 51, 346, 347, 348, 349, 350, 351, 352, 353, 354, 355, 356, 357, 358, 359, 360, 361, 362, 367, 368, 369, 370, 371, 372] (by decide +kernel) (by decide +kernel)) (goodIn_sub (fun _ h => List.mem_cons_of_mem _ (List.mem_append_left _ (List.mem_append_right _ h))) (by decide +kernel))) (goodIn_sub (fun _ h => List.mem_cons_of_mem _ (List.mem_append_right _ h)) (by decide +kernel))
set_option maxRecDepth 20000 in
theorem gL_alike_L_cut : GoodIn wsL_alike (va_wsS RL 126 yL_cut wsL_cut) := goodIn_app (goodIn_of _ (by decide +kernel)) ggL_alike_L_cut
set_option maxRecDepth 20000 in
theorem ggL_alike_L_flush : GoodIn wsL_alike wsL_flush := goodIn_ca (goodIn_r _ [255, 84, 85, 256, 257, 258, 4, 259, 94, 95, 124, 260, 261, 262, 128, 263, 136, 132, 133, 134, 135, 130, 131, 137, 138, 139, 10, 140, 39, 54, 55, 141, 8, 9, 11, 12, 142, 18, 19, 20, 21, 143, 144, 145, 146, 40, 147, 148, 149, 150, 45, 151, 152, 153, 154, 155, 156, 157, 158, 159, 160, 161, 162, 163, 164, 165, 166, 167, 168, 264, 265, 266, 267, 268, 269, 270, 271, 272, 273, 274, 275, 276, 277, 278, 279, 280, 281, 282, 283, 346, 347, 348, 349, 350, 365, 366, 351, 352, 353, 354, 355, 356, 357, 358, 359, 360, 361, 362] (by decide +kernel) (by decide +kernel)) (goodIn_sub (fun _ h => List.mem_cons_of_mem _ (List.mem_append_left _ (List.mem_append_right _ h))) (by decide +kernel))
set_option maxRecDepth 20000 in
theorem gL_alike_L_flush : GoodIn wsL_alike (va_wsS RL 137 yL_flush wsL_flush) := goodIn_app (goodIn_of _ (by decide +kernel)) ggL_alike_L_flush
set_option maxRecDepth 20000 in
theorem ggL_alike_L_fewest : GoodIn wsL_alike wsL_fewest := goodIn_ca (goodIn_r _ [286, 84, 85, 287, 288, 289, 4, 290, 197, 176, 177, 178, 179, 94, 95, 6, 17, 18, 19, 10, 20, 21, 291, 292, 293, 207, 294, 295, 296, 205, 206, 208, 52, 53, 209, 210, 211, 212, 213, 214, 215, 216, 217, 218, 40, 219, 42, 43, 44, 45, 46, 297, 298, 299, 300, 301, 138, 139, 140, 39, 302, 303, 304, 305, 306, 307, 225, 27, 28, 29, 30, 226, 227, 228, 229, 230, 231, 232, 233, 234, 163, 308, 309, 310, 311, 312, 313, 314, 315, 316, 317, 235, 236, 237, 238, 54, 55, 318, 319, 320, 321, 346, 347, 348, 349, 350, 351, 352, 353, 354, 355, 356, 357, 358, 359, 360, 361, 362, 367, 368, 369, 370, 371, 372] (by decide +kernel) (by decide +kernel)) (goodIn_sub (fun _ h => List.mem_cons_of_mem _ (List.mem_append_left _ (List.mem_append_right _ h))) (by decide +kernel))
set_option maxRecDepth 20000 in
theorem gL_alike_L_fewest : GoodIn wsL_alike (va_wsS RL 129 yL_fewest wsL_fewest) := goodIn_app (goodIn_of _ (by decide +kernel)) ggL_alike_L_fewest
set_option maxRecDepth 20000 in
theorem ggL_alike_L_tried : GoodIn wsL_alike wsL_tried := goodIn_ca (goodIn_r _ [324, 84, 85, 325, 326, 327, 4, 328, 197, 176, 177, 178, 179, 94, 95, 6, 17, 18, 19, 10, 20, 21, 329, 330, 331, 207, 332, 213, 296, 205, 206, 208, 52, 53, 209, 210, 211, 212, 214, 215, 216, 217, 218, 40, 219, 42, 43, 44, 45, 46, 297, 298, 299, 300, 301, 138, 139, 140, 39, 302, 303, 304, 305, 306, 307, 225, 27, 28, 29, 30, 226, 227, 228, 229, 230, 231, 232, 233, 234, 163, 235, 236, 237, 238, 333, 334, 335, 336, 54, 55, 337, 338, 339, 340, 341, 114, 342, 343, 344, 345, 346, 347, 348, 349, 350, 351, 352, 353, 354, 355, 356, 357, 358, 359, 360, 361, 362, 367, 368, 369, 370, 371, 372] (by decide +kernel) (by decide +kernel)) (goodIn_sub (fun _ h => List.mem_cons_of_mem _ (List.mem_append_left _ (List.mem_append_right _ h))) (by decide +kernel))
set_option maxRecDepth 20000 in
theorem gL_alike_L_tried : GoodIn wsL_alike (va_wsS RL 131 yL_tried wsL_tried) := goodIn_app (goodIn_of _ (by decide +kernel)) ggL_alike_L_tried
theorem dL_alike_0 : decode cL_alike 0 = .ok (.aload_n 0, 1) := by decide +kernel
theorem dL_alike_1 : decode cL_alike 1 = .ok (.invokevirtual 80, 3) := by decide +kernel
theorem dL_alike_4 : decode cL_alike 4 = .ok (.aload_n 1, 1) := by decide +kernel
theorem dL_alike_5 : decode cL_alike 5 = .ok (.invokevirtual 80, 3) := by decide +kernel
theorem dL_alike_8 : decode cL_alike 8 = .ok (.if_icmp .ne 51, 3) := by decide +kernel
theorem dL_alike_11 : decode cL_alike 11 = .ok (.aload_n 0, 1) := by decide +kernel
theorem dL_alike_12 : decode cL_alike 12 = .ok (.invokevirtual 84, 3) := by decide +kernel
theorem dL_alike_15 : decode cL_alike 15 = .ok (.aload_n 1, 1) := by decide +kernel
theorem dL_alike_16 : decode cL_alike 16 = .ok (.invokevirtual 84, 3) := by decide +kernel
theorem dL_alike_19 : decode cL_alike 19 = .ok (.if_icmp .ne 40, 3) := by decide +kernel
theorem dL_alike_22 : decode cL_alike 22 = .ok (.aload_n 0, 1) := by decide +kernel
theorem dL_alike_23 : decode cL_alike 23 = .ok (.invokevirtual 87, 3) := by decide +kernel
theorem dL_alike_26 : decode cL_alike 26 = .ok (.aload_n 1, 1) := by decide +kernel
theorem dL_alike_27 : decode cL_alike 27 = .ok (.invokevirtual 87, 3) := by decide +kernel
theorem dL_alike_30 : decode cL_alike 30 = .ok (.if_icmp .ne 29, 3) := by decide +kernel
theorem dL_alike_33 : decode cL_alike 33 = .ok (.aload_n 0, 1) := by decide +kernel
theorem dL_alike_34 : decode cL_alike 34 = .ok (.invokevirtual 146, 3) := by decide +kernel
theorem dL_alike_37 : decode cL_alike 37 = .ok (.aload_n 1, 1) := by decide +kernel
theorem dL_alike_38 : decode cL_alike 38 = .ok (.invokevirtual 146, 3) := by decide +kernel
theorem dL_alike_41 : decode cL_alike 41 = .ok (.if_icmp .ne 18, 3) := by decide +kernel
theorem dL_alike_44 : decode cL_alike 44 = .ok (.aload_n 0, 1) := by decide +kernel
theorem dL_alike_45 : decode cL_alike 45 = .ok (.invokevirtual 149, 3) := by decide +kernel
theorem dL_alike_48 : decode cL_alike 48 = .ok (.aload_n 1, 1) := by decide +kernel
theorem dL_alike_49 : decode cL_alike 49 = .ok (.invokevirtual 149, 3) := by decide +kernel
theorem dL_alike_52 : decode cL_alike 52 = .ok (.if_icmp .ne 7, 3) := by decide +kernel
theorem dL_alike_55 : decode cL_alike 55 = .ok (.iconst 1, 1) := by decide +kernel
theorem dL_alike_56 : decode cL_alike 56 = .ok (.goto 4, 3) := by decide +kernel
theorem dL_alike_59 : decode cL_alike 59 = .ok (.iconst 0, 1) := by decide +kernel
theorem dL_alike_60 : decode cL_alike 60 = .ok (.istore_n 3, 1) := by decide +kernel
theorem dL_alike_61 : decode cL_alike 61 = .ok (.iconst 0, 1) := by decide +kernel
theorem dL_alike_62 : decode cL_alike 62 = .ok (.istore 4, 2) := by decide +kernel
theorem dL_alike_64 : decode cL_alike 64 = .ok (.iload 4, 2) := by decide +kernel
theorem dL_alike_66 : decode cL_alike 66 = .ok (.aload_n 0, 1) := by decide +kernel
theorem dL_alike_67 : decode cL_alike 67 = .ok (.invokevirtual 80, 3) := by decide +kernel
theorem dL_alike_70 : decode cL_alike 70 = .ok (.if_icmp .ge 64, 3) := by decide +kernel
theorem dL_alike_73 : decode cL_alike 73 = .ok (.iload_n 3, 1) := by decide +kernel
theorem dL_alike_74 : decode cL_alike 74 = .ok (.ifCond .eq 60, 3) := by decide +kernel
theorem dL_alike_77 : decode cL_alike 77 = .ok (.aload_n 0, 1) := by decide +kernel
theorem dL_alike_78 : decode cL_alike 78 = .ok (.iload 4, 2) := by decide +kernel
theorem dL_alike_80 : decode cL_alike 80 = .ok (.invokestatic 108, 3) := by decide +kernel
theorem dL_alike_83 : decode cL_alike 83 = .ok (.aload_n 1, 1) := by decide +kernel
theorem dL_alike_84 : decode cL_alike 84 = .ok (.iload 4, 2) := by decide +kernel
theorem dL_alike_86 : decode cL_alike 86 = .ok (.invokestatic 108, 3) := by decide +kernel
theorem dL_alike_89 : decode cL_alike 89 = .ok (.if_icmp .ne 37, 3) := by decide +kernel
theorem dL_alike_92 : decode cL_alike 92 = .ok (.aload_n 0, 1) := by decide +kernel
theorem dL_alike_93 : decode cL_alike 93 = .ok (.iload 4, 2) := by decide +kernel
theorem dL_alike_95 : decode cL_alike 95 = .ok (.invokestatic 115, 3) := by decide +kernel
theorem dL_alike_98 : decode cL_alike 98 = .ok (.aload_n 1, 1) := by decide +kernel
theorem dL_alike_99 : decode cL_alike 99 = .ok (.iload 4, 2) := by decide +kernel
theorem dL_alike_101 : decode cL_alike 101 = .ok (.invokestatic 115, 3) := by decide +kernel
theorem dL_alike_104 : decode cL_alike 104 = .ok (.if_icmp .ne 22, 3) := by decide +kernel
theorem dL_alike_107 : decode cL_alike 107 = .ok (.aload_n 0, 1) := by decide +kernel
theorem dL_alike_108 : decode cL_alike 108 = .ok (.iload 4, 2) := by decide +kernel
theorem dL_alike_110 : decode cL_alike 110 = .ok (.invokestatic 134, 3) := by decide +kernel
theorem dL_alike_113 : decode cL_alike 113 = .ok (.aload_n 1, 1) := by decide +kernel
theorem dL_alike_114 : decode cL_alike 114 = .ok (.iload 4, 2) := by decide +kernel
theorem dL_alike_116 : decode cL_alike 116 = .ok (.invokestatic 134, 3) := by decide +kernel
theorem dL_alike_119 : decode cL_alike 119 = .ok (.if_icmp .ne 7, 3) := by decide +kernel
theorem dL_alike_122 : decode cL_alike 122 = .ok (.iconst 1, 1) := by decide +kernel
theorem dL_alike_123 : decode cL_alike 123 = .ok (.goto 4, 3) := by decide +kernel
theorem dL_alike_126 : decode cL_alike 126 = .ok (.iconst 0, 1) := by decide +kernel
theorem dL_alike_127 : decode cL_alike 127 = .ok (.istore_n 3, 1) := by decide +kernel
theorem dL_alike_128 : decode cL_alike 128 = .ok (.iinc 4 1, 3) := by decide +kernel
theorem dL_alike_131 : decode cL_alike 131 = .ok (.goto (-67), 3) := by decide +kernel
theorem dL_alike_134 : decode cL_alike 134 = .ok (.iconst 0, 1) := by decide +kernel
theorem dL_alike_135 : decode cL_alike 135 = .ok (.istore 4, 2) := by decide +kernel
theorem dL_alike_137 : decode cL_alike 137 = .ok (.iload 4, 2) := by decide +kernel
theorem dL_alike_139 : decode cL_alike 139 = .ok (.aload_n 0, 1) := by decide +kernel
theorem dL_alike_140 : decode cL_alike 140 = .ok (.invokevirtual 84, 3) := by decide +kernel
theorem dL_alike_143 : decode cL_alike 143 = .ok (.if_icmp .ge 131, 3) := by decide +kernel
theorem dL_alike_146 : decode cL_alike 146 = .ok (.iload_n 3, 1) := by decide +kernel
theorem dL_alike_147 : decode cL_alike 147 = .ok (.ifCond .eq 127, 3) := by decide +kernel
theorem dL_alike_150 : decode cL_alike 150 = .ok (.aload_n 0, 1) := by decide +kernel
theorem dL_alike_151 : decode cL_alike 151 = .ok (.iload 4, 2) := by decide +kernel
theorem dL_alike_153 : decode cL_alike 153 = .ok (.invokestatic 112, 3) := by decide +kernel
theorem dL_alike_156 : decode cL_alike 156 = .ok (.aload_n 1, 1) := by decide +kernel
theorem dL_alike_157 : decode cL_alike 157 = .ok (.iload 4, 2) := by decide +kernel
theorem dL_alike_159 : decode cL_alike 159 = .ok (.invokestatic 112, 3) := by decide +kernel
theorem dL_alike_162 : decode cL_alike 162 = .ok (.if_icmp .ne 52, 3) := by decide +kernel
theorem dL_alike_165 : decode cL_alike 165 = .ok (.aload_n 0, 1) := by decide +kernel
theorem dL_alike_166 : decode cL_alike 166 = .ok (.iload 4, 2) := by decide +kernel
theorem dL_alike_168 : decode cL_alike 168 = .ok (.invokestatic 118, 3) := by decide +kernel
theorem dL_alike_171 : decode cL_alike 171 = .ok (.aload_n 1, 1) := by decide +kernel
theorem dL_alike_172 : decode cL_alike 172 = .ok (.iload 4, 2) := by decide +kernel
theorem dL_alike_174 : decode cL_alike 174 = .ok (.invokestatic 118, 3) := by decide +kernel
theorem dL_alike_177 : decode cL_alike 177 = .ok (.if_icmp .ne 37, 3) := by decide +kernel
theorem dL_alike_180 : decode cL_alike 180 = .ok (.aload_n 0, 1) := by decide +kernel
theorem dL_alike_181 : decode cL_alike 181 = .ok (.iload 4, 2) := by decide +kernel
theorem dL_alike_183 : decode cL_alike 183 = .ok (.invokestatic 124, 3) := by decide +kernel
theorem dL_alike_186 : decode cL_alike 186 = .ok (.aload_n 1, 1) := by decide +kernel
theorem dL_alike_187 : decode cL_alike 187 = .ok (.iload 4, 2) := by decide +kernel
theorem dL_alike_189 : decode cL_alike 189 = .ok (.invokestatic 124, 3) := by decide +kernel
theorem dL_alike_192 : decode cL_alike 192 = .ok (.if_icmp .ne 22, 3) := by decide +kernel
theorem dL_alike_195 : decode cL_alike 195 = .ok (.aload_n 0, 1) := by decide +kernel
theorem dL_alike_196 : decode cL_alike 196 = .ok (.iload 4, 2) := by decide +kernel
theorem dL_alike_198 : decode cL_alike 198 = .ok (.invokestatic 126, 3) := by decide +kernel
theorem dL_alike_201 : decode cL_alike 201 = .ok (.aload_n 1, 1) := by decide +kernel
theorem dL_alike_202 : decode cL_alike 202 = .ok (.iload 4, 2) := by decide +kernel
theorem dL_alike_204 : decode cL_alike 204 = .ok (.invokestatic 126, 3) := by decide +kernel
theorem dL_alike_207 : decode cL_alike 207 = .ok (.if_icmp .ne 7, 3) := by decide +kernel
theorem dL_alike_210 : decode cL_alike 210 = .ok (.iconst 1, 1) := by decide +kernel
theorem dL_alike_211 : decode cL_alike 211 = .ok (.goto 4, 3) := by decide +kernel
theorem dL_alike_214 : decode cL_alike 214 = .ok (.iconst 0, 1) := by decide +kernel
theorem dL_alike_215 : decode cL_alike 215 = .ok (.istore_n 3, 1) := by decide +kernel
theorem dL_alike_216 : decode cL_alike 216 = .ok (.aload_n 0, 1) := by decide +kernel
theorem dL_alike_217 : decode cL_alike 217 = .ok (.iload 4, 2) := by decide +kernel
theorem dL_alike_219 : decode cL_alike 219 = .ok (.invokestatic 137, 3) := by decide +kernel
theorem dL_alike_222 : decode cL_alike 222 = .ok (.istore 5, 2) := by decide +kernel
theorem dL_alike_224 : decode cL_alike 224 = .ok (.aload_n 1, 1) := by decide +kernel
theorem dL_alike_225 : decode cL_alike 225 = .ok (.iload 4, 2) := by decide +kernel
theorem dL_alike_227 : decode cL_alike 227 = .ok (.invokestatic 137, 3) := by decide +kernel
theorem dL_alike_230 : decode cL_alike 230 = .ok (.istore 6, 2) := by decide +kernel
theorem dL_alike_232 : decode cL_alike 232 = .ok (.iload_n 3, 1) := by decide +kernel
theorem dL_alike_233 : decode cL_alike 233 = .ok (.ifCond .eq 33, 3) := by decide +kernel
theorem dL_alike_236 : decode cL_alike 236 = .ok (.iload 5, 2) := by decide +kernel
theorem dL_alike_238 : decode cL_alike 238 = .ok (.ifCond .ge 13, 3) := by decide +kernel
theorem dL_alike_241 : decode cL_alike 241 = .ok (.iload 6, 2) := by decide +kernel
theorem dL_alike_243 : decode cL_alike 243 = .ok (.iload 5, 2) := by decide +kernel
theorem dL_alike_245 : decode cL_alike 245 = .ok (.if_icmp .ne 21, 3) := by decide +kernel
theorem dL_alike_248 : decode cL_alike 248 = .ok (.goto 14, 3) := by decide +kernel
theorem dL_alike_251 : decode cL_alike 251 = .ok (.iload 5, 2) := by decide +kernel
theorem dL_alike_253 : decode cL_alike 253 = .ok (.iconst 2, 1) := by decide +kernel
theorem dL_alike_254 : decode cL_alike 254 = .ok (.idiv, 1) := by decide +kernel
theorem dL_alike_255 : decode cL_alike 255 = .ok (.iload 6, 2) := by decide +kernel
theorem dL_alike_257 : decode cL_alike 257 = .ok (.iconst 2, 1) := by decide +kernel
theorem dL_alike_258 : decode cL_alike 258 = .ok (.idiv, 1) := by decide +kernel
theorem dL_alike_259 : decode cL_alike 259 = .ok (.if_icmp .ne 7, 3) := by decide +kernel
theorem dL_alike_262 : decode cL_alike 262 = .ok (.iconst 1, 1) := by decide +kernel
theorem dL_alike_263 : decode cL_alike 263 = .ok (.goto 4, 3) := by decide +kernel
theorem dL_alike_266 : decode cL_alike 266 = .ok (.iconst 0, 1) := by decide +kernel
theorem dL_alike_267 : decode cL_alike 267 = .ok (.istore_n 3, 1) := by decide +kernel
theorem dL_alike_268 : decode cL_alike 268 = .ok (.iinc 4 1, 3) := by decide +kernel
theorem dL_alike_271 : decode cL_alike 271 = .ok (.goto (-134), 3) := by decide +kernel
theorem dL_alike_274 : decode cL_alike 274 = .ok (.iload_n 3, 1) := by decide +kernel
theorem dL_alike_275 : decode cL_alike 275 = .ok (.ifCond .eq 71, 3) := by decide +kernel
theorem dL_alike_278 : decode cL_alike 278 = .ok (.aload_n 0, 1) := by decide +kernel
theorem dL_alike_279 : decode cL_alike 279 = .ok (.invokevirtual 84, 3) := by decide +kernel
theorem dL_alike_282 : decode cL_alike 282 = .ok (.ifCond .le 64, 3) := by decide +kernel
theorem dL_alike_285 : decode cL_alike 285 = .ok (.aload_n 0, 1) := by decide +kernel
theorem dL_alike_286 : decode cL_alike 286 = .ok (.invokevirtual 87, 3) := by decide +kernel
theorem dL_alike_289 : decode cL_alike 289 = .ok (.bipush 8, 2) := by decide +kernel
theorem dL_alike_291 : decode cL_alike 291 = .ok (.if_icmp .ge 55, 3) := by decide +kernel
theorem dL_alike_294 : decode cL_alike 294 = .ok (.iload_n 2, 1) := by decide +kernel
theorem dL_alike_295 : decode cL_alike 295 = .ok (.iconst 5, 1) := by decide +kernel
theorem dL_alike_296 : decode cL_alike 296 = .ok (.irem, 1) := by decide +kernel
theorem dL_alike_297 : decode cL_alike 297 = .ok (.ifCond .ne 49, 3) := by decide +kernel
theorem dL_alike_300 : decode cL_alike 300 = .ok (.iload_n 2, 1) := by decide +kernel
theorem dL_alike_301 : decode cL_alike 301 = .ok (.iconst 5, 1) := by decide +kernel
theorem dL_alike_302 : decode cL_alike 302 = .ok (.idiv, 1) := by decide +kernel
theorem dL_alike_303 : decode cL_alike 303 = .ok (.aload_n 0, 1) := by decide +kernel
theorem dL_alike_304 : decode cL_alike 304 = .ok (.invokevirtual 84, 3) := by decide +kernel
theorem dL_alike_307 : decode cL_alike 307 = .ok (.irem, 1) := by decide +kernel
theorem dL_alike_308 : decode cL_alike 308 = .ok (.istore 4, 2) := by decide +kernel
theorem dL_alike_310 : decode cL_alike 310 = .ok (.aload_n 0, 1) := by decide +kernel
theorem dL_alike_311 : decode cL_alike 311 = .ok (.iload 4, 2) := by decide +kernel
theorem dL_alike_313 : decode cL_alike 313 = .ok (.invokestatic 129, 3) := by decide +kernel
theorem dL_alike_316 : decode cL_alike 316 = .ok (.aload_n 1, 1) := by decide +kernel
theorem dL_alike_317 : decode cL_alike 317 = .ok (.iload 4, 2) := by decide +kernel
theorem dL_alike_319 : decode cL_alike 319 = .ok (.invokestatic 129, 3) := by decide +kernel
theorem dL_alike_322 : decode cL_alike 322 = .ok (.if_icmp .ne 22, 3) := by decide +kernel
theorem dL_alike_325 : decode cL_alike 325 = .ok (.aload_n 0, 1) := by decide +kernel
theorem dL_alike_326 : decode cL_alike 326 = .ok (.iload 4, 2) := by decide +kernel
theorem dL_alike_328 : decode cL_alike 328 = .ok (.invokestatic 131, 3) := by decide +kernel
theorem dL_alike_331 : decode cL_alike 331 = .ok (.aload_n 1, 1) := by decide +kernel
theorem dL_alike_332 : decode cL_alike 332 = .ok (.iload 4, 2) := by decide +kernel
theorem dL_alike_334 : decode cL_alike 334 = .ok (.invokestatic 131, 3) := by decide +kernel
theorem dL_alike_337 : decode cL_alike 337 = .ok (.if_icmp .ne 7, 3) := by decide +kernel
theorem dL_alike_340 : decode cL_alike 340 = .ok (.iconst 1, 1) := by decide +kernel
theorem dL_alike_341 : decode cL_alike 341 = .ok (.goto 4, 3) := by decide +kernel
theorem dL_alike_344 : decode cL_alike 344 = .ok (.iconst 0, 1) := by decide +kernel
theorem dL_alike_345 : decode cL_alike 345 = .ok (.istore_n 3, 1) := by decide +kernel
theorem dL_alike_346 : decode cL_alike 346 = .ok (.iload_n 3, 1) := by decide +kernel
theorem dL_alike_347 : decode cL_alike 347 = .ok (.ireturn, 1) := by decide +kernel
theorem dL_bits_0 : decode cL_bits 0 = .ok (.iconst 0, 1) := by decide +kernel
theorem dL_bits_1 : decode cL_bits 1 = .ok (.istore_n 1, 1) := by decide +kernel
theorem dL_bits_2 : decode cL_bits 2 = .ok (.iload_n 0, 1) := by decide +kernel
theorem dL_bits_3 : decode cL_bits 3 = .ok (.istore_n 2, 1) := by decide +kernel
theorem dL_bits_4 : decode cL_bits 4 = .ok (.iload_n 2, 1) := by decide +kernel
theorem dL_bits_5 : decode cL_bits 5 = .ok (.ifCond .le 15, 3) := by decide +kernel
theorem dL_bits_8 : decode cL_bits 8 = .ok (.iinc 1 1, 3) := by decide +kernel
theorem dL_bits_11 : decode cL_bits 11 = .ok (.iload_n 2, 1) := by decide +kernel
theorem dL_bits_12 : decode cL_bits 12 = .ok (.iload_n 2, 1) := by decide +kernel
theorem dL_bits_13 : decode cL_bits 13 = .ok (.iconst 1, 1) := by decide +kernel
theorem dL_bits_14 : decode cL_bits 14 = .ok (.isub, 1) := by decide +kernel
theorem dL_bits_15 : decode cL_bits 15 = .ok (.iand, 1) := by decide +kernel
theorem dL_bits_16 : decode cL_bits 16 = .ok (.istore_n 2, 1) := by decide +kernel
theorem dL_bits_17 : decode cL_bits 17 = .ok (.goto (-13), 3) := by decide +kernel
theorem dL_bits_20 : decode cL_bits 20 = .ok (.iload_n 1, 1) := by decide +kernel
theorem dL_bits_21 : decode cL_bits 21 = .ok (.ireturn, 1) := by decide +kernel
set_option maxRecDepth 20000 in
theorem ggL_turnsAll_X5_valves : GoodIn wsL_turnsAll wsX5_valves := goodIn_r _ [5, 6, 7, 8, 9, 10, 11, 12, 47, 48, 49, 50, 51, 52, 53, 54, 55, 56, 57, 58, 59, 60, 61, 62, 63] (by decide +kernel) (by decide +kernel)
set_option maxRecDepth 20000 in
theorem gL_turnsAll_X5_valves : GoodIn wsL_turnsAll (wsV RL 87 RX5 yX5_valves wsX5_valves) := goodIn_app (goodIn_of _ (by decide +kernel)) ggL_turnsAll_X5_valves
set_option maxRecDepth 20000 in
theorem ggL_turnsAll_L_turns : GoodIn wsL_turnsAll wsL_turns := goodIn_ca (goodIn_ca (goodIn_r _ [16, 17, 18, 19, 20, 21, 22, 23, 4, 24, 25, 26, 6, 27, 28, 29, 30, 31, 32, 7, 8, 9, 10, 11, 12, 33, 34, 35, 36, 37, 38, 39, 40, 41, 42, 43, 44, 45, 46, 47, 48, 49, 50, 51, 52, 53, 54, 55, 56, 57, 58, 59, 60, 61, 62, 63] (by decide +kernel) (by decide +kernel)) (goodIn_sub (fun _ h => List.mem_cons_of_mem _ (List.mem_append_left _ (List.mem_append_right _ h))) (by decide +kernel))) (goodIn_sub (fun _ h => List.mem_cons_of_mem _ (List.mem_append_right _ h)) (by decide +kernel))
set_option maxRecDepth 20000 in
theorem gL_turnsAll_L_turns : GoodIn wsL_turnsAll (va_wsS RL 105 yL_turns wsL_turns) := goodIn_app (goodIn_of _ (by decide +kernel)) ggL_turnsAll_L_turns
theorem dL_turnsAll_0 : decode cL_turnsAll 0 = .ok (.iconst 1, 1) := by decide +kernel
theorem dL_turnsAll_1 : decode cL_turnsAll 1 = .ok (.istore_n 3, 1) := by decide +kernel
theorem dL_turnsAll_2 : decode cL_turnsAll 2 = .ok (.iconst 0, 1) := by decide +kernel
theorem dL_turnsAll_3 : decode cL_turnsAll 3 = .ok (.istore 4, 2) := by decide +kernel
theorem dL_turnsAll_5 : decode cL_turnsAll 5 = .ok (.iload 4, 2) := by decide +kernel
theorem dL_turnsAll_7 : decode cL_turnsAll 7 = .ok (.aload_n 0, 1) := by decide +kernel
theorem dL_turnsAll_8 : decode cL_turnsAll 8 = .ok (.invokevirtual 87, 3) := by decide +kernel
theorem dL_turnsAll_11 : decode cL_turnsAll 11 = .ok (.if_icmp .ge 47, 3) := by decide +kernel
theorem dL_turnsAll_14 : decode cL_turnsAll 14 = .ok (.iload_n 3, 1) := by decide +kernel
theorem dL_turnsAll_15 : decode cL_turnsAll 15 = .ok (.ifCond .eq 43, 3) := by decide +kernel
theorem dL_turnsAll_18 : decode cL_turnsAll 18 = .ok (.iload_n 1, 1) := by decide +kernel
theorem dL_turnsAll_19 : decode cL_turnsAll 19 = .ok (.iload 4, 2) := by decide +kernel
theorem dL_turnsAll_21 : decode cL_turnsAll 21 = .ok (.ishr, 1) := by decide +kernel
theorem dL_turnsAll_22 : decode cL_turnsAll 22 = .ok (.iconst 1, 1) := by decide +kernel
theorem dL_turnsAll_23 : decode cL_turnsAll 23 = .ok (.iand, 1) := by decide +kernel
theorem dL_turnsAll_24 : decode cL_turnsAll 24 = .ok (.ifCond .eq 22, 3) := by decide +kernel
theorem dL_turnsAll_27 : decode cL_turnsAll 27 = .ok (.aload_n 0, 1) := by decide +kernel
theorem dL_turnsAll_28 : decode cL_turnsAll 28 = .ok (.iload 4, 2) := by decide +kernel
theorem dL_turnsAll_30 : decode cL_turnsAll 30 = .ok (.iload_n 2, 1) := by decide +kernel
theorem dL_turnsAll_31 : decode cL_turnsAll 31 = .ok (.invokestatic 105, 3) := by decide +kernel
theorem dL_turnsAll_34 : decode cL_turnsAll 34 = .ok (.iload_n 2, 1) := by decide +kernel
theorem dL_turnsAll_35 : decode cL_turnsAll 35 = .ok (.ifCond .eq 7, 3) := by decide +kernel
theorem dL_turnsAll_38 : decode cL_turnsAll 38 = .ok (.iconst 0, 1) := by decide +kernel
theorem dL_turnsAll_39 : decode cL_turnsAll 39 = .ok (.goto 4, 3) := by decide +kernel
theorem dL_turnsAll_42 : decode cL_turnsAll 42 = .ok (.iconst 1, 1) := by decide +kernel
theorem dL_turnsAll_43 : decode cL_turnsAll 43 = .ok (.if_icmp .ne 7, 3) := by decide +kernel
theorem dL_turnsAll_46 : decode cL_turnsAll 46 = .ok (.iconst 1, 1) := by decide +kernel
theorem dL_turnsAll_47 : decode cL_turnsAll 47 = .ok (.goto 4, 3) := by decide +kernel
theorem dL_turnsAll_50 : decode cL_turnsAll 50 = .ok (.iconst 0, 1) := by decide +kernel
theorem dL_turnsAll_51 : decode cL_turnsAll 51 = .ok (.istore_n 3, 1) := by decide +kernel
theorem dL_turnsAll_52 : decode cL_turnsAll 52 = .ok (.iinc 4 1, 3) := by decide +kernel
theorem dL_turnsAll_55 : decode cL_turnsAll 55 = .ok (.goto (-50), 3) := by decide +kernel
theorem dL_turnsAll_58 : decode cL_turnsAll 58 = .ok (.iload_n 3, 1) := by decide +kernel
theorem dL_turnsAll_59 : decode cL_turnsAll 59 = .ok (.ireturn, 1) := by decide +kernel
set_option maxRecDepth 20000 in
theorem ggL_breaks_X5_supplied : GoodIn wsL_breaks wsX5_supplied := goodIn_r _ [6, 7, 8, 9, 10, 11, 12, 13, 14, 15, 16, 17, 18, 19, 20, 21, 22, 23, 24, 25, 26, 27, 5, 28, 29, 30, 224, 225, 226, 227, 228, 229, 230, 231, 232, 233, 234, 235, 236, 237, 238, 239, 240] (by decide +kernel) (by decide +kernel)
set_option maxRecDepth 20000 in
theorem gL_breaks_X5_supplied : GoodIn wsL_breaks (wsV RL 146 RX5 yX5_supplied wsX5_supplied) := goodIn_app (goodIn_of _ (by decide +kernel)) ggL_breaks_X5_supplied
set_option maxRecDepth 20000 in
theorem ggL_breaks_L_pipeDry : GoodIn wsL_breaks wsL_pipeDry := goodIn_ca (goodIn_r _ [34, 35, 36, 37, 38, 39, 5, 40, 41, 42, 43, 44, 45, 46, 7, 47, 48, 49, 11, 50, 19, 51, 27, 28, 52, 53, 54, 55, 8, 9, 10, 12, 13, 14, 15, 16, 17, 18, 20, 21, 56, 29, 30, 224, 225, 226, 227, 228, 229, 230, 231, 232, 233, 234, 235, 236, 237, 238, 239, 240] (by decide +kernel) (by decide +kernel)) (goodIn_sub (fun _ h => List.mem_cons_of_mem _ (List.mem_append_left _ (List.mem_append_right _ h))) (by decide +kernel))
set_option maxRecDepth 20000 in
theorem gL_breaks_L_pipeDry : GoodIn wsL_breaks (va_wsS RL 112 yL_pipeDry wsL_pipeDry) := goodIn_app (goodIn_of _ (by decide +kernel)) ggL_breaks_L_pipeDry
set_option maxRecDepth 20000 in
theorem ggL_breaks_L_ring : GoodIn wsL_breaks wsL_ring := goodIn_ca (goodIn_ca (goodIn_r _ [59, 35, 60, 36, 1, 61, 62, 63, 5, 64, 65, 41, 42, 43, 44, 45, 46, 7, 47, 48, 49, 11, 50, 19, 66, 67, 68, 69, 70, 71, 72, 73, 74, 75, 76, 27, 28, 77, 78, 79, 80, 81, 82, 83, 84, 85, 86, 14, 87, 16, 17, 18, 20, 21, 88, 89, 90, 91, 13, 92, 93, 94, 95, 96, 97, 98, 99, 100, 101, 102, 103, 104, 105, 29, 30, 106, 107, 108, 109, 110, 111, 112, 113, 114, 224, 225, 226, 227, 228, 229, 230, 231, 232, 233, 234, 235, 236, 237, 238, 239, 240, 241, 242, 243, 244, 245, 246] (by decide +kernel) (by decide +kernel)) (goodIn_sub (fun _ h => List.mem_cons_of_mem _ (List.mem_append_left _ (List.mem_append_right _ h))) (by decide +kernel))) (goodIn_sub (fun _ h => List.mem_cons_of_mem _ (List.mem_append_right _ h)) (by decide +kernel))
set_option maxRecDepth 20000 in
theorem gL_breaks_L_ring : GoodIn wsL_breaks (va_wsS RL 124 yL_ring wsL_ring) := goodIn_app (goodIn_of _ (by decide +kernel)) ggL_breaks_L_ring
set_option maxRecDepth 20000 in
theorem ggL_breaks_L_cut : GoodIn wsL_breaks wsL_cut := goodIn_ca (goodIn_ca (goodIn_r _ [117, 35, 60, 36, 1, 118, 119, 120, 5, 121, 65, 41, 42, 43, 44, 45, 46, 7, 47, 48, 49, 11, 50, 19, 66, 67, 68, 69, 70, 71, 72, 73, 74, 75, 76, 27, 28, 77, 78, 79, 80, 81, 82, 83, 84, 85, 86, 14, 87, 16, 17, 18, 20, 21, 88, 89, 90, 91, 13, 122, 123, 124, 125, 126, 9, 10, 12, 15, 127, 93, 94, 95, 96, 97, 98, 99, 100, 101, 102, 103, 104, 105, 29, 30, 106, 107, 108, 109, 110, 111, 112, 113, 114, 128, 23, 24, 25, 26, 224, 225, 226, 227, 228, 229, 230, 231, 232, 233, 234, 235, 236, 237, 238, 239, 240, 241, 242, 243, 244, 245, 246] (by decide +kernel) (by decide +kernel)) (goodIn_sub (fun _ h => List.mem_cons_of_mem _ (List.mem_append_left _ (List.mem_append_right _ h))) (by decide +kernel))) (goodIn_sub (fun _ h => List.mem_cons_of_mem _ (List.mem_append_right _ h)) (by decide +kernel))
set_option maxRecDepth 20000 in
theorem gL_breaks_L_cut : GoodIn wsL_breaks (va_wsS RL 126 yL_cut wsL_cut) := goodIn_app (goodIn_of _ (by decide +kernel)) ggL_breaks_L_cut
set_option maxRecDepth 20000 in
theorem ggL_breaks_L_turnsAll : GoodIn wsL_breaks wsL_turnsAll := goodIn_ca (goodIn_ca (goodIn_r _ [131, 132, 133, 134, 5, 135, 7, 136, 97, 98, 11, 99, 100, 137, 138, 33, 139, 35, 60, 36, 1, 140, 141, 142, 143, 70, 71, 144, 145, 146, 147, 45, 46, 148, 149, 150, 151, 86, 29, 30, 152, 153, 154, 155, 14, 156, 157, 224, 225, 226, 227, 228, 229, 230, 231, 232, 233, 234, 235, 236, 237, 238, 239, 240] (by decide +kernel) (by decide +kernel)) (goodIn_sub (fun _ h => List.mem_cons_of_mem _ (List.mem_append_right _ h)) (by decide +kernel))) (goodIn_sub (fun _ h => List.mem_cons_of_mem _ (List.mem_append_left _ (List.mem_append_right _ h))) (by decide +kernel))
set_option maxRecDepth 20000 in
theorem gL_breaks_L_turnsAll : GoodIn wsL_breaks (va_wsS RL 152 yL_turnsAll wsL_turnsAll) := goodIn_app (goodIn_of _ (by decide +kernel)) ggL_breaks_L_turnsAll
set_option maxRecDepth 20000 in
theorem ggL_breaks_L_fewest : GoodIn wsL_breaks wsL_fewest := goodIn_ca (goodIn_r _ [160, 35, 36, 161, 162, 163, 5, 164, 65, 41, 42, 43, 44, 45, 46, 7, 47, 48, 49, 11, 50, 19, 165, 166, 167, 75, 168, 169, 170, 73, 74, 76, 27, 28, 77, 78, 79, 80, 81, 82, 83, 84, 85, 86, 14, 87, 16, 17, 18, 20, 21, 171, 172, 173, 174, 175, 89, 90, 91, 13, 176, 177, 178, 179, 180, 181, 96, 97, 98, 99, 100, 101, 102, 103, 104, 105, 106, 107, 108, 109, 110, 182, 183, 184, 185, 186, 187, 188, 189, 190, 191, 111, 112, 113, 114, 29, 30, 192, 193, 194, 195, 224, 225, 226, 227, 228, 229, 230, 231, 232, 233, 234, 235, 236, 237, 238, 239, 240, 241, 242, 243, 244, 245, 246] (by decide +kernel) (by decide +kernel)) (goodIn_sub (fun _ h => List.mem_cons_of_mem _ (List.mem_append_left _ (List.mem_append_right _ h))) (by decide +kernel))
set_option maxRecDepth 20000 in
theorem gL_breaks_L_fewest : GoodIn wsL_breaks (va_wsS RL 129 yL_fewest wsL_fewest) := goodIn_app (goodIn_of _ (by decide +kernel)) ggL_breaks_L_fewest
set_option maxRecDepth 20000 in
theorem ggL_breaks_L_tried : GoodIn wsL_breaks wsL_tried := goodIn_ca (goodIn_r _ [198, 35, 36, 199, 200, 201, 5, 202, 65, 41, 42, 43, 44, 45, 46, 7, 47, 48, 49, 11, 50, 19, 203, 204, 205, 75, 206, 81, 170, 73, 74, 76, 27, 28, 77, 78, 79, 80, 82, 83, 84, 85, 86, 14, 87, 16, 17, 18, 20, 21, 171, 172, 173, 174, 175, 89, 90, 91, 13, 176, 177, 178, 179, 180, 181, 96, 97, 98, 99, 100, 101, 102, 103, 104, 105, 106, 107, 108, 109, 110, 111, 112, 113, 114, 207, 208, 209, 210, 29, 30, 211, 212, 213, 214, 215, 216, 217, 218, 219, 220, 224, 225, 226, 227, 228, 229, 230, 231, 232, 233, 234, 235, 236, 237, 238, 239, 240, 241, 242, 243, 244, 245, 246] (by decide +kernel) (by decide +kernel)) (goodIn_sub (fun _ h => List.mem_cons_of_mem _ (List.mem_append_left _ (List.mem_append_right _ h))) (by decide +kernel))
set_option maxRecDepth 20000 in
theorem gL_breaks_L_tried : GoodIn wsL_breaks (va_wsS RL 131 yL_tried wsL_tried) := goodIn_app (goodIn_of _ (by decide +kernel)) ggL_breaks_L_tried
set_option maxRecDepth 20000 in
theorem ggL_breaks_L_bits : GoodIn wsL_breaks wsL_bits := goodIn_r _ [223] (by decide +kernel) (by decide +kernel)
set_option maxRecDepth 20000 in
theorem gL_breaks_L_bits : GoodIn wsL_breaks (va_wsS RL 156 yL_bits wsL_bits) := goodIn_app (goodIn_of _ (by decide +kernel)) ggL_breaks_L_bits
set_option maxRecDepth 20000 in
theorem ggL_breaks_X5_valves : GoodIn wsL_breaks wsX5_valves := goodIn_r _ [135, 7, 136, 97, 98, 11, 99, 100, 224, 225, 226, 227, 228, 229, 230, 231, 232, 233, 234, 235, 236, 237, 238, 239, 240] (by decide +kernel) (by decide +kernel)
set_option maxRecDepth 20000 in
theorem gL_breaks_X5_valves : GoodIn wsL_breaks (wsV RL 87 RX5 yX5_valves wsX5_valves) := goodIn_app (goodIn_of _ (by decide +kernel)) ggL_breaks_X5_valves
set_option maxRecDepth 20000 in
theorem ggL_breaks_L_turns : GoodIn wsL_breaks wsL_turns := goodIn_ca (goodIn_ca (goodIn_r _ [139, 35, 60, 36, 1, 140, 141, 142, 5, 143, 70, 71, 7, 144, 145, 146, 147, 45, 46, 136, 97, 98, 11, 99, 100, 148, 149, 150, 151, 86, 29, 30, 152, 153, 154, 155, 14, 156, 157, 224, 225, 226, 227, 228, 229, 230, 231, 232, 233, 234, 235, 236, 237, 238, 239, 240] (by decide +kernel) (by decide +kernel)) (goodIn_sub (fun _ h => List.mem_cons_of_mem _ (List.mem_append_right _ h)) (by decide +kernel))) (goodIn_sub (fun _ h => List.mem_cons_of_mem _ (List.mem_append_left _ (List.mem_append_right _ h))) (by decide +kernel))
set_option maxRecDepth 20000 in
theorem gL_breaks_L_turns : GoodIn wsL_breaks (va_wsS RL 105 yL_turns wsL_turns) := goodIn_app (goodIn_of _ (by decide +kernel)) ggL_breaks_L_turns
theorem dL_breaks_0 : decode cL_breaks 0 = .ok (.aload_n 0, 1) := by decide +kernel
theorem dL_breaks_1 : decode cL_breaks 1 = .ok (.invokevirtual 146, 3) := by decide +kernel
theorem dL_breaks_4 : decode cL_breaks 4 = .ok (.istore_n 2, 1) := by decide +kernel
theorem dL_breaks_5 : decode cL_breaks 5 = .ok (.iconst 1, 1) := by decide +kernel
theorem dL_breaks_6 : decode cL_breaks 6 = .ok (.aload_n 0, 1) := by decide +kernel
theorem dL_breaks_7 : decode cL_breaks 7 = .ok (.iload_n 1, 1) := by decide +kernel
theorem dL_breaks_8 : decode cL_breaks 8 = .ok (.invokestatic 112, 3) := by decide +kernel
theorem dL_breaks_11 : decode cL_breaks 11 = .ok (.isub, 1) := by decide +kernel
theorem dL_breaks_12 : decode cL_breaks 12 = .ok (.istore_n 3, 1) := by decide +kernel
theorem dL_breaks_13 : decode cL_breaks 13 = .ok (.aload_n 0, 1) := by decide +kernel
theorem dL_breaks_14 : decode cL_breaks 14 = .ok (.iload_n 1, 1) := by decide +kernel
theorem dL_breaks_15 : decode cL_breaks 15 = .ok (.invokestatic 124, 3) := by decide +kernel
theorem dL_breaks_18 : decode cL_breaks 18 = .ok (.istore 4, 2) := by decide +kernel
theorem dL_breaks_20 : decode cL_breaks 20 = .ok (.iconst 1, 1) := by decide +kernel
theorem dL_breaks_21 : decode cL_breaks 21 = .ok (.istore 5, 2) := by decide +kernel
theorem dL_breaks_23 : decode cL_breaks 23 = .ok (.iload 4, 2) := by decide +kernel
theorem dL_breaks_25 : decode cL_breaks 25 = .ok (.ifCond .lt 81, 3) := by decide +kernel
theorem dL_breaks_28 : decode cL_breaks 28 = .ok (.aload_n 0, 1) := by decide +kernel
theorem dL_breaks_29 : decode cL_breaks 29 = .ok (.iload_n 1, 1) := by decide +kernel
theorem dL_breaks_30 : decode cL_breaks 30 = .ok (.invokestatic 126, 3) := by decide +kernel
theorem dL_breaks_33 : decode cL_breaks 33 = .ok (.istore 6, 2) := by decide +kernel
theorem dL_breaks_35 : decode cL_breaks 35 = .ok (.iload 6, 2) := by decide +kernel
theorem dL_breaks_37 : decode cL_breaks 37 = .ok (.ifCond .lt 63, 3) := by decide +kernel
theorem dL_breaks_40 : decode cL_breaks 40 = .ok (.aload_n 0, 1) := by decide +kernel
theorem dL_breaks_41 : decode cL_breaks 41 = .ok (.iload 4, 2) := by decide +kernel
theorem dL_breaks_43 : decode cL_breaks 43 = .ok (.iconst 1, 1) := by decide +kernel
theorem dL_breaks_44 : decode cL_breaks 44 = .ok (.invokestatic 152, 3) := by decide +kernel
theorem dL_breaks_47 : decode cL_breaks 47 = .ok (.ifCond .eq 53, 3) := by decide +kernel
theorem dL_breaks_50 : decode cL_breaks 50 = .ok (.aload_n 0, 1) := by decide +kernel
theorem dL_breaks_51 : decode cL_breaks 51 = .ok (.iload_n 1, 1) := by decide +kernel
theorem dL_breaks_52 : decode cL_breaks 52 = .ok (.invokestatic 112, 3) := by decide +kernel
theorem dL_breaks_55 : decode cL_breaks 55 = .ok (.iconst 1, 1) := by decide +kernel
theorem dL_breaks_56 : decode cL_breaks 56 = .ok (.if_icmp .ne 44, 3) := by decide +kernel
theorem dL_breaks_59 : decode cL_breaks 59 = .ok (.aload_n 0, 1) := by decide +kernel
theorem dL_breaks_60 : decode cL_breaks 60 = .ok (.invokevirtual 146, 3) := by decide +kernel
theorem dL_breaks_63 : decode cL_breaks 63 = .ok (.iload_n 2, 1) := by decide +kernel
theorem dL_breaks_64 : decode cL_breaks 64 = .ok (.iload 6, 2) := by decide +kernel
theorem dL_breaks_66 : decode cL_breaks 66 = .ok (.isub, 1) := by decide +kernel
theorem dL_breaks_67 : decode cL_breaks 67 = .ok (.if_icmp .ne 33, 3) := by decide +kernel
theorem dL_breaks_70 : decode cL_breaks 70 = .ok (.aload_n 0, 1) := by decide +kernel
theorem dL_breaks_71 : decode cL_breaks 71 = .ok (.iload_n 1, 1) := by decide +kernel
theorem dL_breaks_72 : decode cL_breaks 72 = .ok (.invokestatic 129, 3) := by decide +kernel
theorem dL_breaks_75 : decode cL_breaks 75 = .ok (.ifCond .ne 25, 3) := by decide +kernel
theorem dL_breaks_78 : decode cL_breaks 78 = .ok (.aload_n 0, 1) := by decide +kernel
theorem dL_breaks_79 : decode cL_breaks 79 = .ok (.iload 4, 2) := by decide +kernel
theorem dL_breaks_81 : decode cL_breaks 81 = .ok (.iconst 0, 1) := by decide +kernel
theorem dL_breaks_82 : decode cL_breaks 82 = .ok (.invokestatic 152, 3) := by decide +kernel
theorem dL_breaks_85 : decode cL_breaks 85 = .ok (.ifCond .eq 15, 3) := by decide +kernel
theorem dL_breaks_88 : decode cL_breaks 88 = .ok (.aload_n 0, 1) := by decide +kernel
theorem dL_breaks_89 : decode cL_breaks 89 = .ok (.invokevirtual 146, 3) := by decide +kernel
theorem dL_breaks_92 : decode cL_breaks 92 = .ok (.iload_n 2, 1) := by decide +kernel
theorem dL_breaks_93 : decode cL_breaks 93 = .ok (.if_icmp .ne 7, 3) := by decide +kernel
theorem dL_breaks_96 : decode cL_breaks 96 = .ok (.iconst 1, 1) := by decide +kernel
theorem dL_breaks_97 : decode cL_breaks 97 = .ok (.goto 4, 3) := by decide +kernel
theorem dL_breaks_100 : decode cL_breaks 100 = .ok (.iconst 0, 1) := by decide +kernel
theorem dL_breaks_101 : decode cL_breaks 101 = .ok (.istore 5, 2) := by decide +kernel
theorem dL_breaks_103 : decode cL_breaks 103 = .ok (.goto 27, 3) := by decide +kernel
theorem dL_breaks_106 : decode cL_breaks 106 = .ok (.iload 4, 2) := by decide +kernel
theorem dL_breaks_108 : decode cL_breaks 108 = .ok (.ldc 15, 2) := by decide +kernel
theorem dL_breaks_110 : decode cL_breaks 110 = .ok (.if_icmp .ne 17, 3) := by decide +kernel
theorem dL_breaks_113 : decode cL_breaks 113 = .ok (.aload_n 0, 1) := by decide +kernel
theorem dL_breaks_114 : decode cL_breaks 114 = .ok (.iload_n 1, 1) := by decide +kernel
theorem dL_breaks_115 : decode cL_breaks 115 = .ok (.invokestatic 126, 3) := by decide +kernel
theorem dL_breaks_118 : decode cL_breaks 118 = .ok (.ldc 15, 2) := by decide +kernel
theorem dL_breaks_120 : decode cL_breaks 120 = .ok (.if_icmp .ne 7, 3) := by decide +kernel
theorem dL_breaks_123 : decode cL_breaks 123 = .ok (.iconst 1, 1) := by decide +kernel
theorem dL_breaks_124 : decode cL_breaks 124 = .ok (.goto 4, 3) := by decide +kernel
theorem dL_breaks_127 : decode cL_breaks 127 = .ok (.iconst 0, 1) := by decide +kernel
theorem dL_breaks_128 : decode cL_breaks 128 = .ok (.istore 5, 2) := by decide +kernel
theorem dL_breaks_130 : decode cL_breaks 130 = .ok (.aload_n 0, 1) := by decide +kernel
theorem dL_breaks_131 : decode cL_breaks 131 = .ok (.iload_n 1, 1) := by decide +kernel
theorem dL_breaks_132 : decode cL_breaks 132 = .ok (.invokestatic 129, 3) := by decide +kernel
theorem dL_breaks_135 : decode cL_breaks 135 = .ok (.istore 6, 2) := by decide +kernel
theorem dL_breaks_137 : decode cL_breaks 137 = .ok (.aload_n 0, 1) := by decide +kernel
theorem dL_breaks_138 : decode cL_breaks 138 = .ok (.iload_n 1, 1) := by decide +kernel
theorem dL_breaks_139 : decode cL_breaks 139 = .ok (.invokestatic 131, 3) := by decide +kernel
theorem dL_breaks_142 : decode cL_breaks 142 = .ok (.istore 7, 2) := by decide +kernel
theorem dL_breaks_144 : decode cL_breaks 144 = .ok (.iload 5, 2) := by decide +kernel
theorem dL_breaks_146 : decode cL_breaks 146 = .ok (.ifCond .eq 89, 3) := by decide +kernel
theorem dL_breaks_149 : decode cL_breaks 149 = .ok (.iload 6, 2) := by decide +kernel
theorem dL_breaks_151 : decode cL_breaks 151 = .ok (.iconst (-1), 1) := by decide +kernel
theorem dL_breaks_152 : decode cL_breaks 152 = .ok (.if_icmp .ne 7, 3) := by decide +kernel
theorem dL_breaks_155 : decode cL_breaks 155 = .ok (.iconst 1, 1) := by decide +kernel
theorem dL_breaks_156 : decode cL_breaks 156 = .ok (.goto 4, 3) := by decide +kernel
theorem dL_breaks_159 : decode cL_breaks 159 = .ok (.iconst 0, 1) := by decide +kernel
theorem dL_breaks_160 : decode cL_breaks 160 = .ok (.iload 7, 2) := by decide +kernel
theorem dL_breaks_162 : decode cL_breaks 162 = .ok (.iconst (-1), 1) := by decide +kernel
theorem dL_breaks_163 : decode cL_breaks 163 = .ok (.if_icmp .ne 7, 3) := by decide +kernel
theorem dL_breaks_166 : decode cL_breaks 166 = .ok (.iconst 1, 1) := by decide +kernel
theorem dL_breaks_167 : decode cL_breaks 167 = .ok (.goto 4, 3) := by decide +kernel
theorem dL_breaks_170 : decode cL_breaks 170 = .ok (.iconst 0, 1) := by decide +kernel
theorem dL_breaks_171 : decode cL_breaks 171 = .ok (.if_icmp .ne 64, 3) := by decide +kernel
theorem dL_breaks_174 : decode cL_breaks 174 = .ok (.iload 6, 2) := by decide +kernel
theorem dL_breaks_176 : decode cL_breaks 176 = .ok (.ifCond .ne 7, 3) := by decide +kernel
theorem dL_breaks_179 : decode cL_breaks 179 = .ok (.iconst 1, 1) := by decide +kernel
theorem dL_breaks_180 : decode cL_breaks 180 = .ok (.goto 4, 3) := by decide +kernel
theorem dL_breaks_183 : decode cL_breaks 183 = .ok (.iconst 0, 1) := by decide +kernel
theorem dL_breaks_184 : decode cL_breaks 184 = .ok (.iload_n 3, 1) := by decide +kernel
theorem dL_breaks_185 : decode cL_breaks 185 = .ok (.ifCond .ne 7, 3) := by decide +kernel
theorem dL_breaks_188 : decode cL_breaks 188 = .ok (.iconst 1, 1) := by decide +kernel
theorem dL_breaks_189 : decode cL_breaks 189 = .ok (.goto 4, 3) := by decide +kernel
theorem dL_breaks_192 : decode cL_breaks 192 = .ok (.iconst 0, 1) := by decide +kernel
theorem dL_breaks_193 : decode cL_breaks 193 = .ok (.if_icmp .ne 42, 3) := by decide +kernel
theorem dL_breaks_196 : decode cL_breaks 196 = .ok (.iload 4, 2) := by decide +kernel
theorem dL_breaks_198 : decode cL_breaks 198 = .ok (.ifCond .lt 18, 3) := by decide +kernel
theorem dL_breaks_201 : decode cL_breaks 201 = .ok (.iload 6, 2) := by decide +kernel
theorem dL_breaks_203 : decode cL_breaks 203 = .ok (.ifCond .lt 32, 3) := by decide +kernel
theorem dL_breaks_206 : decode cL_breaks 206 = .ok (.iload 6, 2) := by decide +kernel
theorem dL_breaks_208 : decode cL_breaks 208 = .ok (.iload 4, 2) := by decide +kernel
theorem dL_breaks_210 : decode cL_breaks 210 = .ok (.invokestatic 156, 3) := by decide +kernel
theorem dL_breaks_213 : decode cL_breaks 213 = .ok (.if_icmp .gt 22, 3) := by decide +kernel
theorem dL_breaks_216 : decode cL_breaks 216 = .ok (.iload 7, 2) := by decide +kernel
theorem dL_breaks_218 : decode cL_breaks 218 = .ok (.ifCond .lt 13, 3) := by decide +kernel
theorem dL_breaks_221 : decode cL_breaks 221 = .ok (.iload 7, 2) := by decide +kernel
theorem dL_breaks_223 : decode cL_breaks 223 = .ok (.invokestatic 156, 3) := by decide +kernel
theorem dL_breaks_226 : decode cL_breaks 226 = .ok (.iload 6, 2) := by decide +kernel
theorem dL_breaks_228 : decode cL_breaks 228 = .ok (.if_icmp .ne 7, 3) := by decide +kernel
theorem dL_breaks_231 : decode cL_breaks 231 = .ok (.iconst 1, 1) := by decide +kernel
theorem dL_breaks_232 : decode cL_breaks 232 = .ok (.goto 4, 3) := by decide +kernel
theorem dL_breaks_235 : decode cL_breaks 235 = .ok (.iconst 0, 1) := by decide +kernel
theorem dL_breaks_236 : decode cL_breaks 236 = .ok (.istore 5, 2) := by decide +kernel
theorem dL_breaks_238 : decode cL_breaks 238 = .ok (.iload 5, 2) := by decide +kernel
theorem dL_breaks_240 : decode cL_breaks 240 = .ok (.ifCond .eq 141, 3) := by decide +kernel
theorem dL_breaks_243 : decode cL_breaks 243 = .ok (.iload 7, 2) := by decide +kernel
theorem dL_breaks_245 : decode cL_breaks 245 = .ok (.ifCond .le 136, 3) := by decide +kernel
theorem dL_breaks_248 : decode cL_breaks 248 = .ok (.aload_n 0, 1) := by decide +kernel
theorem dL_breaks_249 : decode cL_breaks 249 = .ok (.iload 7, 2) := by decide +kernel
theorem dL_breaks_251 : decode cL_breaks 251 = .ok (.iconst 1, 1) := by decide +kernel
theorem dL_breaks_252 : decode cL_breaks 252 = .ok (.invokestatic 152, 3) := by decide +kernel
theorem dL_breaks_255 : decode cL_breaks 255 = .ok (.ifCond .eq 24, 3) := by decide +kernel
theorem dL_breaks_258 : decode cL_breaks 258 = .ok (.aload_n 0, 1) := by decide +kernel
theorem dL_breaks_259 : decode cL_breaks 259 = .ok (.iload_n 1, 1) := by decide +kernel
theorem dL_breaks_260 : decode cL_breaks 260 = .ok (.invokestatic 112, 3) := by decide +kernel
theorem dL_breaks_263 : decode cL_breaks 263 = .ok (.iconst 1, 1) := by decide +kernel
theorem dL_breaks_264 : decode cL_breaks 264 = .ok (.if_icmp .ne 15, 3) := by decide +kernel
theorem dL_breaks_267 : decode cL_breaks 267 = .ok (.aload_n 0, 1) := by decide +kernel
theorem dL_breaks_268 : decode cL_breaks 268 = .ok (.iload_n 1, 1) := by decide +kernel
theorem dL_breaks_269 : decode cL_breaks 269 = .ok (.invokestatic 129, 3) := by decide +kernel
theorem dL_breaks_272 : decode cL_breaks 272 = .ok (.ifCond .ne 7, 3) := by decide +kernel
theorem dL_breaks_275 : decode cL_breaks 275 = .ok (.iconst 1, 1) := by decide +kernel
theorem dL_breaks_276 : decode cL_breaks 276 = .ok (.goto 4, 3) := by decide +kernel
theorem dL_breaks_279 : decode cL_breaks 279 = .ok (.iconst 0, 1) := by decide +kernel
theorem dL_breaks_280 : decode cL_breaks 280 = .ok (.istore 5, 2) := by decide +kernel
theorem dL_breaks_282 : decode cL_breaks 282 = .ok (.iconst 0, 1) := by decide +kernel
theorem dL_breaks_283 : decode cL_breaks 283 = .ok (.istore 8, 2) := by decide +kernel
theorem dL_breaks_285 : decode cL_breaks 285 = .ok (.iload 8, 2) := by decide +kernel
theorem dL_breaks_287 : decode cL_breaks 287 = .ok (.aload_n 0, 1) := by decide +kernel
theorem dL_breaks_288 : decode cL_breaks 288 = .ok (.invokevirtual 87, 3) := by decide +kernel
theorem dL_breaks_291 : decode cL_breaks 291 = .ok (.if_icmp .ge 60, 3) := by decide +kernel
theorem dL_breaks_294 : decode cL_breaks 294 = .ok (.iload 5, 2) := by decide +kernel
theorem dL_breaks_296 : decode cL_breaks 296 = .ok (.ifCond .eq 55, 3) := by decide +kernel
theorem dL_breaks_299 : decode cL_breaks 299 = .ok (.iload 7, 2) := by decide +kernel
theorem dL_breaks_301 : decode cL_breaks 301 = .ok (.iload 8, 2) := by decide +kernel
theorem dL_breaks_303 : decode cL_breaks 303 = .ok (.ishr, 1) := by decide +kernel
theorem dL_breaks_304 : decode cL_breaks 304 = .ok (.iconst 1, 1) := by decide +kernel
theorem dL_breaks_305 : decode cL_breaks 305 = .ok (.iand, 1) := by decide +kernel
theorem dL_breaks_306 : decode cL_breaks 306 = .ok (.ifCond .eq 32, 3) := by decide +kernel
theorem dL_breaks_309 : decode cL_breaks 309 = .ok (.aload_n 0, 1) := by decide +kernel
theorem dL_breaks_310 : decode cL_breaks 310 = .ok (.iload 8, 2) := by decide +kernel
theorem dL_breaks_312 : decode cL_breaks 312 = .ok (.iconst 0, 1) := by decide +kernel
theorem dL_breaks_313 : decode cL_breaks 313 = .ok (.invokestatic 105, 3) := by decide +kernel
theorem dL_breaks_316 : decode cL_breaks 316 = .ok (.iconst 1, 1) := by decide +kernel
theorem dL_breaks_317 : decode cL_breaks 317 = .ok (.if_icmp .ne 25, 3) := by decide +kernel
theorem dL_breaks_320 : decode cL_breaks 320 = .ok (.aload_n 0, 1) := by decide +kernel
theorem dL_breaks_321 : decode cL_breaks 321 = .ok (.iload_n 1, 1) := by decide +kernel
theorem dL_breaks_322 : decode cL_breaks 322 = .ok (.invokestatic 112, 3) := by decide +kernel
theorem dL_breaks_325 : decode cL_breaks 325 = .ok (.ifCond .ne 17, 3) := by decide +kernel
theorem dL_breaks_328 : decode cL_breaks 328 = .ok (.aload_n 0, 1) := by decide +kernel
theorem dL_breaks_329 : decode cL_breaks 329 = .ok (.iload 8, 2) := by decide +kernel
theorem dL_breaks_331 : decode cL_breaks 331 = .ok (.iconst 1, 1) := by decide +kernel
theorem dL_breaks_332 : decode cL_breaks 332 = .ok (.invokestatic 105, 3) := by decide +kernel
theorem dL_breaks_335 : decode cL_breaks 335 = .ok (.ifCond .ne 7, 3) := by decide +kernel
theorem dL_breaks_338 : decode cL_breaks 338 = .ok (.iconst 1, 1) := by decide +kernel
theorem dL_breaks_339 : decode cL_breaks 339 = .ok (.goto 4, 3) := by decide +kernel
theorem dL_breaks_342 : decode cL_breaks 342 = .ok (.iconst 0, 1) := by decide +kernel
theorem dL_breaks_343 : decode cL_breaks 343 = .ok (.istore 5, 2) := by decide +kernel
theorem dL_breaks_345 : decode cL_breaks 345 = .ok (.iinc 8 1, 3) := by decide +kernel
theorem dL_breaks_348 : decode cL_breaks 348 = .ok (.goto (-63), 3) := by decide +kernel
theorem dL_breaks_351 : decode cL_breaks 351 = .ok (.iload 5, 2) := by decide +kernel
theorem dL_breaks_353 : decode cL_breaks 353 = .ok (.ifCond .eq 25, 3) := by decide +kernel
theorem dL_breaks_356 : decode cL_breaks 356 = .ok (.aload_n 0, 1) := by decide +kernel
theorem dL_breaks_357 : decode cL_breaks 357 = .ok (.iload 7, 2) := by decide +kernel
theorem dL_breaks_359 : decode cL_breaks 359 = .ok (.iconst 0, 1) := by decide +kernel
theorem dL_breaks_360 : decode cL_breaks 360 = .ok (.invokestatic 152, 3) := by decide +kernel
theorem dL_breaks_363 : decode cL_breaks 363 = .ok (.ifCond .eq 15, 3) := by decide +kernel
theorem dL_breaks_366 : decode cL_breaks 366 = .ok (.aload_n 0, 1) := by decide +kernel
theorem dL_breaks_367 : decode cL_breaks 367 = .ok (.invokevirtual 146, 3) := by decide +kernel
theorem dL_breaks_370 : decode cL_breaks 370 = .ok (.iload_n 2, 1) := by decide +kernel
theorem dL_breaks_371 : decode cL_breaks 371 = .ok (.if_icmp .ne 7, 3) := by decide +kernel
theorem dL_breaks_374 : decode cL_breaks 374 = .ok (.iconst 1, 1) := by decide +kernel
theorem dL_breaks_375 : decode cL_breaks 375 = .ok (.goto 4, 3) := by decide +kernel
theorem dL_breaks_378 : decode cL_breaks 378 = .ok (.iconst 0, 1) := by decide +kernel
theorem dL_breaks_379 : decode cL_breaks 379 = .ok (.istore 5, 2) := by decide +kernel
theorem dL_breaks_381 : decode cL_breaks 381 = .ok (.iload 5, 2) := by decide +kernel
theorem dL_breaks_383 : decode cL_breaks 383 = .ok (.ireturn, 1) := by decide +kernel
set_option maxRecDepth 20000 in
theorem ggL_holds_X5_segments : GoodIn wsL_holds wsX5_segments := goodIn_r _ [5, 6, 7, 8, 9, 10, 11, 12, 13, 14, 15, 16, 17, 18, 19, 20, 21, 22, 23, 24, 4, 25, 26, 27, 28, 29, 30, 31, 32, 33, 34, 35, 36, 37, 300, 301, 302, 303, 304, 305, 306, 307, 308, 309, 310, 311, 312, 313, 314, 315, 316, 317, 318] (by decide +kernel) (by decide +kernel)
set_option maxRecDepth 20000 in
theorem gL_holds_X5_segments : GoodIn wsL_holds (wsV RL 149 RX5 yX5_segments wsX5_segments) := goodIn_app (goodIn_of _ (by decide +kernel)) ggL_holds_X5_segments
set_option maxRecDepth 20000 in
theorem ggL_holds_X5_nodes : GoodIn wsL_holds wsX5_nodes := goodIn_r _ [41, 42, 43, 44, 45, 20, 46, 22, 300, 301, 302, 303, 304, 307, 308, 309, 310, 311, 312, 313, 314, 315, 316, 317, 318] (by decide +kernel) (by decide +kernel)
set_option maxRecDepth 20000 in
theorem gL_holds_X5_nodes : GoodIn wsL_holds (wsV RL 80 RX5 yX5_nodes wsX5_nodes) := goodIn_app (goodIn_of _ (by decide +kernel)) ggL_holds_X5_nodes
set_option maxRecDepth 20000 in
theorem ggL_holds_X5_pipes : GoodIn wsL_holds wsX5_pipes := goodIn_r _ [50, 42, 51, 52, 53, 20, 54, 23, 300, 301, 302, 303, 304, 307, 308, 309, 310, 311, 312, 313, 314, 315, 316, 317, 318] (by decide +kernel) (by decide +kernel)
set_option maxRecDepth 20000 in
theorem gL_holds_X5_pipes : GoodIn wsL_holds (wsV RL 84 RX5 yX5_pipes wsX5_pipes) := goodIn_app (goodIn_of _ (by decide +kernel)) ggL_holds_X5_pipes
set_option maxRecDepth 20000 in
theorem ggL_holds_L_flush : GoodIn wsL_holds wsL_flush := goodIn_ca (goodIn_r _ [58, 59, 60, 61, 62, 63, 4, 64, 65, 66, 67, 68, 69, 70, 71, 72, 73, 74, 75, 76, 77, 78, 79, 80, 81, 82, 20, 83, 84, 26, 27, 85, 44, 45, 46, 22, 86, 52, 53, 54, 23, 87, 88, 89, 90, 91, 92, 93, 94, 95, 36, 96, 97, 98, 99, 100, 101, 102, 103, 104, 105, 106, 107, 108, 109, 110, 111, 112, 113, 114, 115, 116, 117, 118, 119, 120, 121, 122, 123, 124, 125, 126, 127, 128, 129, 130, 131, 132, 133, 300, 301, 302, 303, 304, 319, 320, 307, 308, 309, 310, 311, 312, 313, 314, 315, 316, 317, 318] (by decide +kernel) (by decide +kernel)) (goodIn_sub (fun _ h => List.mem_cons_of_mem _ (List.mem_append_left _ (List.mem_append_right _ h))) (by decide +kernel))
set_option maxRecDepth 20000 in
theorem gL_holds_L_flush : GoodIn wsL_holds (va_wsS RL 137 yL_flush wsL_flush) := goodIn_app (goodIn_of _ (by decide +kernel)) ggL_holds_L_flush
set_option maxRecDepth 20000 in
theorem ggL_holds_L_pipeDry : GoodIn wsL_holds wsL_pipeDry := goodIn_ca (goodIn_r _ [136, 59, 60, 137, 138, 139, 4, 140, 141, 142, 143, 144, 65, 66, 42, 51, 52, 53, 20, 54, 23, 145, 24, 25, 146, 147, 148, 149, 150, 151, 152, 153, 84, 91, 154, 33, 34, 35, 36, 37, 155, 26, 27, 300, 301, 302, 303, 304, 307, 308, 309, 310, 311, 312, 313, 314, 315, 316, 317, 318] (by decide +kernel) (by decide +kernel)) (goodIn_sub (fun _ h => List.mem_cons_of_mem _ (List.mem_append_left _ (List.mem_append_right _ h))) (by decide +kernel))
set_option maxRecDepth 20000 in
theorem gL_holds_L_pipeDry : GoodIn wsL_holds (va_wsS RL 112 yL_pipeDry wsL_pipeDry) := goodIn_app (goodIn_of _ (by decide +kernel)) ggL_holds_L_pipeDry
set_option maxRecDepth 20000 in
theorem ggL_holds_L_far : GoodIn wsL_holds wsL_far := goodIn_ca (goodIn_r _ [158, 59, 60, 159, 160, 161, 4, 162, 67, 163, 164, 165, 166, 65, 66, 42, 43, 44, 45, 20, 46, 22, 167, 168, 169, 71, 170, 78, 79, 74, 75, 76, 77, 73, 80, 81, 82, 83, 84, 26, 27, 85, 86, 52, 53, 54, 23, 87, 88, 89, 90, 91, 92, 93, 94, 95, 36, 96, 97, 98, 99, 100, 101, 102, 103, 104, 105, 106, 107, 108, 109, 110, 111, 112, 113, 300, 301, 302, 303, 304, 307, 308, 309, 310, 311, 312, 313, 314, 315, 316, 317, 318, 319, 320] (by decide +kernel) (by decide +kernel)) (goodIn_sub (fun _ h => List.mem_cons_of_mem _ (List.mem_append_left _ (List.mem_append_right _ h))) (by decide +kernel))
set_option maxRecDepth 20000 in
theorem gL_holds_L_far : GoodIn wsL_holds (va_wsS RL 134 yL_far wsL_far) := goodIn_app (goodIn_of _ (by decide +kernel)) ggL_holds_L_far
set_option maxRecDepth 20000 in
theorem ggL_holds_L_ofPipe : GoodIn wsL_holds wsL_ofPipe := goodIn_ca (goodIn_r _ [173, 59, 60, 174, 175, 176, 4, 177, 6, 141, 142, 143, 144, 65, 66, 42, 51, 52, 53, 20, 54, 23, 145, 24, 25, 178, 179, 180, 10, 181, 28, 29, 30, 31, 16, 32, 33, 34, 35, 36, 37, 182, 183, 184, 185, 186, 12, 13, 14, 15, 17, 18, 19, 21, 22, 26, 27, 300, 301, 302, 303, 304, 307, 308, 309, 310, 311, 312, 313, 314, 315, 316, 317, 318, 305, 306] (by decide +kernel) (by decide +kernel)) (goodIn_sub (fun _ h => List.mem_cons_of_mem _ (List.mem_append_left _ (List.mem_append_right _ h))) (by decide +kernel))
set_option maxRecDepth 20000 in
theorem gL_holds_L_ofPipe : GoodIn wsL_holds (va_wsS RL 118 yL_ofPipe wsL_ofPipe) := goodIn_app (goodIn_of _ (by decide +kernel)) ggL_holds_L_ofPipe
set_option maxRecDepth 20000 in
theorem ggL_holds_L_merged : GoodIn wsL_holds wsL_merged := goodIn_ca (goodIn_r _ [189, 59, 60, 190, 191, 192, 4, 193, 6, 141, 142, 143, 144, 65, 66, 42, 51, 52, 53, 20, 54, 23, 145, 24, 25, 194, 195, 196, 10, 197, 16, 198, 199, 200, 201, 202, 203, 204, 93, 94, 95, 36, 205, 105, 106, 107, 108, 206, 207, 208, 209, 210, 211, 102, 212, 213, 101, 103, 214, 215, 216, 217, 17, 18, 19, 21, 22, 300, 301, 302, 303, 304, 307, 308, 309, 310, 311, 312, 313, 314, 315, 316, 317, 318, 305, 306] (by decide +kernel) (by decide +kernel)) (goodIn_sub (fun _ h => List.mem_cons_of_mem _ (List.mem_append_left _ (List.mem_append_right _ h))) (by decide +kernel))
set_option maxRecDepth 20000 in
theorem gL_holds_L_merged : GoodIn wsL_holds (va_wsS RL 121 yL_merged wsL_merged) := goodIn_app (goodIn_of _ (by decide +kernel)) ggL_holds_L_merged
set_option maxRecDepth 20000 in
theorem ggL_holds_L_nodeDry : GoodIn wsL_holds wsL_nodeDry := goodIn_ca (goodIn_r _ [220, 59, 60, 221, 222, 223, 4, 224, 163, 164, 165, 166, 65, 66, 42, 43, 44, 45, 20, 46, 22, 146, 147, 148, 149, 150, 151, 152, 153, 84, 91, 154, 33, 34, 35, 23, 36, 37, 155, 26, 27, 300, 301, 302, 303, 304, 307, 308, 309, 310, 311, 312, 313, 314, 315, 316, 317, 318] (by decide +kernel) (by decide +kernel)) (goodIn_sub (fun _ h => List.mem_cons_of_mem _ (List.mem_append_left _ (List.mem_append_right _ h))) (by decide +kernel))
set_option maxRecDepth 20000 in
theorem gL_holds_L_nodeDry : GoodIn wsL_holds (va_wsS RL 108 yL_nodeDry wsL_nodeDry) := goodIn_app (goodIn_of _ (by decide +kernel)) ggL_holds_L_nodeDry
set_option maxRecDepth 20000 in
theorem ggL_holds_L_ofNode : GoodIn wsL_holds wsL_ofNode := goodIn_ca (goodIn_r _ [227, 59, 60, 228, 229, 230, 4, 231, 6, 163, 164, 165, 166, 65, 66, 42, 43, 44, 45, 20, 46, 22, 178, 179, 180, 10, 181, 28, 29, 30, 31, 16, 32, 33, 34, 35, 23, 36, 37, 182, 183, 184, 185, 186, 12, 13, 14, 15, 17, 18, 19, 21, 24, 25, 26, 27, 300, 301, 302, 303, 304, 307, 308, 309, 310, 311, 312, 313, 314, 315, 316, 317, 318, 305, 306] (by decide +kernel) (by decide +kernel)) (goodIn_sub (fun _ h => List.mem_cons_of_mem _ (List.mem_append_left _ (List.mem_append_right _ h))) (by decide +kernel))
set_option maxRecDepth 20000 in
theorem gL_holds_L_ofNode : GoodIn wsL_holds (va_wsS RL 115 yL_ofNode wsL_ofNode) := goodIn_app (goodIn_of _ (by decide +kernel)) ggL_holds_L_ofNode
set_option maxRecDepth 20000 in
theorem ggL_holds_L_walks : GoodIn wsL_holds wsL_walks := goodIn_ca (goodIn_ca (goodIn_r _ [234, 59, 235, 60, 236, 237, 238, 239, 4, 240, 241, 242, 42, 243, 163, 164, 165, 166, 65, 66, 43, 44, 45, 20, 46, 22, 244, 245, 246, 247, 248, 249, 250, 184, 251, 252, 253, 254, 255, 256, 257, 258, 259, 260, 261, 262, 101, 102, 103, 263, 264, 265, 266, 267, 268, 269, 26, 27, 270, 271, 272, 273, 108, 274, 275, 276, 277, 278, 279, 280, 52, 53, 54, 23, 281, 105, 106, 107, 282, 110, 111, 112, 113, 283, 284, 285, 286, 287, 288, 289, 290, 291, 292, 293, 294, 295, 296, 297, 298, 299, 300, 301, 302, 303, 304, 307, 308, 309, 310, 311, 312, 313, 314, 315, 316, 317, 318, 321, 322, 323, 324] (by decide +kernel) (by decide +kernel)) (goodIn_sub (fun _ h => List.mem_cons_of_mem _ (List.mem_append_right _ h)) (by decide +kernel))) (goodIn_sub (fun _ h => List.mem_cons_of_mem _ (List.mem_append_left _ (List.mem_append_right _ h))) (by decide +kernel))
set_option maxRecDepth 20000 in
theorem gL_holds_L_walks : GoodIn wsL_holds (va_wsS RL 140 yL_walks wsL_walks) := goodIn_app (goodIn_of _ (by decide +kernel)) ggL_holds_L_walks
theorem dL_holds_0 : decode cL_holds 0 = .ok (.iconst 0, 1) := by decide +kernel
theorem dL_holds_1 : decode cL_holds 1 = .ok (.istore_n 2, 1) := by decide +kernel
theorem dL_holds_2 : decode cL_holds 2 = .ok (.iconst (-1), 1) := by decide +kernel
theorem dL_holds_3 : decode cL_holds 3 = .ok (.istore_n 3, 1) := by decide +kernel
theorem dL_holds_4 : decode cL_holds 4 = .ok (.aload_n 0, 1) := by decide +kernel
theorem dL_holds_5 : decode cL_holds 5 = .ok (.invokevirtual 149, 3) := by decide +kernel
theorem dL_holds_8 : decode cL_holds 8 = .ok (.aload_n 0, 1) := by decide +kernel
theorem dL_holds_9 : decode cL_holds 9 = .ok (.invokevirtual 80, 3) := by decide +kernel
theorem dL_holds_12 : decode cL_holds 12 = .ok (.aload_n 0, 1) := by decide +kernel
theorem dL_holds_13 : decode cL_holds 13 = .ok (.invokevirtual 84, 3) := by decide +kernel
theorem dL_holds_16 : decode cL_holds 16 = .ok (.iadd, 1) := by decide +kernel
theorem dL_holds_17 : decode cL_holds 17 = .ok (.if_icmp .gt 7, 3) := by decide +kernel
theorem dL_holds_20 : decode cL_holds 20 = .ok (.iconst 1, 1) := by decide +kernel
theorem dL_holds_21 : decode cL_holds 21 = .ok (.goto 4, 3) := by decide +kernel
theorem dL_holds_24 : decode cL_holds 24 = .ok (.iconst 0, 1) := by decide +kernel
theorem dL_holds_25 : decode cL_holds 25 = .ok (.istore 4, 2) := by decide +kernel
theorem dL_holds_27 : decode cL_holds 27 = .ok (.aload_n 0, 1) := by decide +kernel
theorem dL_holds_28 : decode cL_holds 28 = .ok (.iload_n 2, 1) := by decide +kernel
theorem dL_holds_29 : decode cL_holds 29 = .ok (.invokestatic 137, 3) := by decide +kernel
theorem dL_holds_32 : decode cL_holds 32 = .ok (.ifCond .lt 15, 3) := by decide +kernel
theorem dL_holds_35 : decode cL_holds 35 = .ok (.iload_n 2, 1) := by decide +kernel
theorem dL_holds_36 : decode cL_holds 36 = .ok (.bipush 20, 2) := by decide +kernel
theorem dL_holds_38 : decode cL_holds 38 = .ok (.if_icmp .ge 9, 3) := by decide +kernel
theorem dL_holds_41 : decode cL_holds 41 = .ok (.iinc 2 1, 3) := by decide +kernel
theorem dL_holds_44 : decode cL_holds 44 = .ok (.goto (-17), 3) := by decide +kernel
theorem dL_holds_47 : decode cL_holds 47 = .ok (.iconst 0, 1) := by decide +kernel
theorem dL_holds_48 : decode cL_holds 48 = .ok (.istore 5, 2) := by decide +kernel
theorem dL_holds_50 : decode cL_holds 50 = .ok (.iconst 0, 1) := by decide +kernel
theorem dL_holds_51 : decode cL_holds 51 = .ok (.istore 6, 2) := by decide +kernel
theorem dL_holds_53 : decode cL_holds 53 = .ok (.iload 6, 2) := by decide +kernel
theorem dL_holds_55 : decode cL_holds 55 = .ok (.aload_n 0, 1) := by decide +kernel
theorem dL_holds_56 : decode cL_holds 56 = .ok (.invokevirtual 84, 3) := by decide +kernel
theorem dL_holds_59 : decode cL_holds 59 = .ok (.if_icmp .ge 121, 3) := by decide +kernel
theorem dL_holds_62 : decode cL_holds 62 = .ok (.iload 4, 2) := by decide +kernel
theorem dL_holds_64 : decode cL_holds 64 = .ok (.ifCond .eq 116, 3) := by decide +kernel
theorem dL_holds_67 : decode cL_holds 67 = .ok (.iload 5, 2) := by decide +kernel
theorem dL_holds_69 : decode cL_holds 69 = .ok (.iconst 1, 1) := by decide +kernel
theorem dL_holds_70 : decode cL_holds 70 = .ok (.aload_n 0, 1) := by decide +kernel
theorem dL_holds_71 : decode cL_holds 71 = .ok (.iload 6, 2) := by decide +kernel
theorem dL_holds_73 : decode cL_holds 73 = .ok (.invokestatic 112, 3) := by decide +kernel
theorem dL_holds_76 : decode cL_holds 76 = .ok (.isub, 1) := by decide +kernel
theorem dL_holds_77 : decode cL_holds 77 = .ok (.iadd, 1) := by decide +kernel
theorem dL_holds_78 : decode cL_holds 78 = .ok (.istore 5, 2) := by decide +kernel
theorem dL_holds_80 : decode cL_holds 80 = .ok (.aload_n 0, 1) := by decide +kernel
theorem dL_holds_81 : decode cL_holds 81 = .ok (.aload_n 1, 1) := by decide +kernel
theorem dL_holds_82 : decode cL_holds 82 = .ok (.iload 6, 2) := by decide +kernel
theorem dL_holds_84 : decode cL_holds 84 = .ok (.iaload, 1) := by decide +kernel
theorem dL_holds_85 : decode cL_holds 85 = .ok (.sipush 10000, 3) := by decide +kernel
theorem dL_holds_88 : decode cL_holds 88 = .ok (.idiv, 1) := by decide +kernel
theorem dL_holds_89 : decode cL_holds 89 = .ok (.invokestatic 134, 3) := by decide +kernel
theorem dL_holds_92 : decode cL_holds 92 = .ok (.istore 7, 2) := by decide +kernel
theorem dL_holds_94 : decode cL_holds 94 = .ok (.aload_n 0, 1) := by decide +kernel
theorem dL_holds_95 : decode cL_holds 95 = .ok (.aload_n 1, 1) := by decide +kernel
theorem dL_holds_96 : decode cL_holds 96 = .ok (.iload 6, 2) := by decide +kernel
theorem dL_holds_98 : decode cL_holds 98 = .ok (.iaload, 1) := by decide +kernel
theorem dL_holds_99 : decode cL_holds 99 = .ok (.bipush 100, 2) := by decide +kernel
theorem dL_holds_101 : decode cL_holds 101 = .ok (.idiv, 1) := by decide +kernel
theorem dL_holds_102 : decode cL_holds 102 = .ok (.bipush 100, 2) := by decide +kernel
theorem dL_holds_104 : decode cL_holds 104 = .ok (.irem, 1) := by decide +kernel
theorem dL_holds_105 : decode cL_holds 105 = .ok (.invokestatic 134, 3) := by decide +kernel
theorem dL_holds_108 : decode cL_holds 108 = .ok (.istore 8, 2) := by decide +kernel
theorem dL_holds_110 : decode cL_holds 110 = .ok (.aload_n 0, 1) := by decide +kernel
theorem dL_holds_111 : decode cL_holds 111 = .ok (.iload 6, 2) := by decide +kernel
theorem dL_holds_113 : decode cL_holds 113 = .ok (.invokestatic 118, 3) := by decide +kernel
theorem dL_holds_116 : decode cL_holds 116 = .ok (.aload_n 0, 1) := by decide +kernel
theorem dL_holds_117 : decode cL_holds 117 = .ok (.iload 6, 2) := by decide +kernel
theorem dL_holds_119 : decode cL_holds 119 = .ok (.invokestatic 121, 3) := by decide +kernel
theorem dL_holds_122 : decode cL_holds 122 = .ok (.if_icmp .ne 49, 3) := by decide +kernel
theorem dL_holds_125 : decode cL_holds 125 = .ok (.aload_n 0, 1) := by decide +kernel
theorem dL_holds_126 : decode cL_holds 126 = .ok (.iload 6, 2) := by decide +kernel
theorem dL_holds_128 : decode cL_holds 128 = .ok (.invokestatic 118, 3) := by decide +kernel
theorem dL_holds_131 : decode cL_holds 131 = .ok (.ifCond .lt 40, 3) := by decide +kernel
theorem dL_holds_134 : decode cL_holds 134 = .ok (.aload_n 0, 1) := by decide +kernel
theorem dL_holds_135 : decode cL_holds 135 = .ok (.iload 6, 2) := by decide +kernel
theorem dL_holds_137 : decode cL_holds 137 = .ok (.invokestatic 118, 3) := by decide +kernel
theorem dL_holds_140 : decode cL_holds 140 = .ok (.aload_n 0, 1) := by decide +kernel
theorem dL_holds_141 : decode cL_holds 141 = .ok (.invokevirtual 149, 3) := by decide +kernel
theorem dL_holds_144 : decode cL_holds 144 = .ok (.if_icmp .ge 27, 3) := by decide +kernel
theorem dL_holds_147 : decode cL_holds 147 = .ok (.aload_n 0, 1) := by decide +kernel
theorem dL_holds_148 : decode cL_holds 148 = .ok (.iload 6, 2) := by decide +kernel
theorem dL_holds_150 : decode cL_holds 150 = .ok (.invokestatic 112, 3) := by decide +kernel
theorem dL_holds_153 : decode cL_holds 153 = .ok (.iconst 1, 1) := by decide +kernel
theorem dL_holds_154 : decode cL_holds 154 = .ok (.if_icmp .eq 13, 3) := by decide +kernel
theorem dL_holds_157 : decode cL_holds 157 = .ok (.iload 7, 2) := by decide +kernel
theorem dL_holds_159 : decode cL_holds 159 = .ok (.ifCond .ge 8, 3) := by decide +kernel
theorem dL_holds_162 : decode cL_holds 162 = .ok (.iload 8, 2) := by decide +kernel
theorem dL_holds_164 : decode cL_holds 164 = .ok (.ifCond .lt 7, 3) := by decide +kernel
theorem dL_holds_167 : decode cL_holds 167 = .ok (.iconst 1, 1) := by decide +kernel
theorem dL_holds_168 : decode cL_holds 168 = .ok (.goto 4, 3) := by decide +kernel
theorem dL_holds_171 : decode cL_holds 171 = .ok (.iconst 0, 1) := by decide +kernel
theorem dL_holds_172 : decode cL_holds 172 = .ok (.istore 4, 2) := by decide +kernel
theorem dL_holds_174 : decode cL_holds 174 = .ok (.iinc 6 1, 3) := by decide +kernel
theorem dL_holds_177 : decode cL_holds 177 = .ok (.goto (-124), 3) := by decide +kernel
theorem dL_holds_180 : decode cL_holds 180 = .ok (.iconst 0, 1) := by decide +kernel
theorem dL_holds_181 : decode cL_holds 181 = .ok (.istore 6, 2) := by decide +kernel
theorem dL_holds_183 : decode cL_holds 183 = .ok (.iload 6, 2) := by decide +kernel
theorem dL_holds_185 : decode cL_holds 185 = .ok (.iload_n 2, 1) := by decide +kernel
theorem dL_holds_186 : decode cL_holds 186 = .ok (.if_icmp .ge 100, 3) := by decide +kernel
theorem dL_holds_189 : decode cL_holds 189 = .ok (.iload 4, 2) := by decide +kernel
theorem dL_holds_191 : decode cL_holds 191 = .ok (.ifCond .eq 95, 3) := by decide +kernel
theorem dL_holds_194 : decode cL_holds 194 = .ok (.aload_n 0, 1) := by decide +kernel
theorem dL_holds_195 : decode cL_holds 195 = .ok (.iload 6, 2) := by decide +kernel
theorem dL_holds_197 : decode cL_holds 197 = .ok (.invokestatic 137, 3) := by decide +kernel
theorem dL_holds_200 : decode cL_holds 200 = .ok (.istore 7, 2) := by decide +kernel
theorem dL_holds_202 : decode cL_holds 202 = .ok (.iload 7, 2) := by decide +kernel
theorem dL_holds_204 : decode cL_holds 204 = .ok (.iconst 2, 1) := by decide +kernel
theorem dL_holds_205 : decode cL_holds 205 = .ok (.irem, 1) := by decide +kernel
theorem dL_holds_206 : decode cL_holds 206 = .ok (.ifCond .ne 16, 3) := by decide +kernel
theorem dL_holds_209 : decode cL_holds 209 = .ok (.aload_n 1, 1) := by decide +kernel
theorem dL_holds_210 : decode cL_holds 210 = .ok (.iload 7, 2) := by decide +kernel
theorem dL_holds_212 : decode cL_holds 212 = .ok (.iconst 2, 1) := by decide +kernel
theorem dL_holds_213 : decode cL_holds 213 = .ok (.idiv, 1) := by decide +kernel
theorem dL_holds_214 : decode cL_holds 214 = .ok (.iaload, 1) := by decide +kernel
theorem dL_holds_215 : decode cL_holds 215 = .ok (.sipush 10000, 3) := by decide +kernel
theorem dL_holds_218 : decode cL_holds 218 = .ok (.idiv, 1) := by decide +kernel
theorem dL_holds_219 : decode cL_holds 219 = .ok (.goto 15, 3) := by decide +kernel
theorem dL_holds_222 : decode cL_holds 222 = .ok (.aload_n 1, 1) := by decide +kernel
theorem dL_holds_223 : decode cL_holds 223 = .ok (.iload 7, 2) := by decide +kernel
theorem dL_holds_225 : decode cL_holds 225 = .ok (.iconst 2, 1) := by decide +kernel
theorem dL_holds_226 : decode cL_holds 226 = .ok (.idiv, 1) := by decide +kernel
theorem dL_holds_227 : decode cL_holds 227 = .ok (.iaload, 1) := by decide +kernel
theorem dL_holds_228 : decode cL_holds 228 = .ok (.bipush 100, 2) := by decide +kernel
theorem dL_holds_230 : decode cL_holds 230 = .ok (.idiv, 1) := by decide +kernel
theorem dL_holds_231 : decode cL_holds 231 = .ok (.bipush 100, 2) := by decide +kernel
theorem dL_holds_233 : decode cL_holds 233 = .ok (.irem, 1) := by decide +kernel
theorem dL_holds_234 : decode cL_holds 234 = .ok (.istore 8, 2) := by decide +kernel
theorem dL_holds_236 : decode cL_holds 236 = .ok (.aload_n 0, 1) := by decide +kernel
theorem dL_holds_237 : decode cL_holds 237 = .ok (.iload 8, 2) := by decide +kernel
theorem dL_holds_239 : decode cL_holds 239 = .ok (.invokestatic 134, 3) := by decide +kernel
theorem dL_holds_242 : decode cL_holds 242 = .ok (.istore 9, 2) := by decide +kernel
theorem dL_holds_244 : decode cL_holds 244 = .ok (.aload_n 0, 1) := by decide +kernel
theorem dL_holds_245 : decode cL_holds 245 = .ok (.iload 7, 2) := by decide +kernel
theorem dL_holds_247 : decode cL_holds 247 = .ok (.iconst 2, 1) := by decide +kernel
theorem dL_holds_248 : decode cL_holds 248 = .ok (.idiv, 1) := by decide +kernel
theorem dL_holds_249 : decode cL_holds 249 = .ok (.invokestatic 112, 3) := by decide +kernel
theorem dL_holds_252 : decode cL_holds 252 = .ok (.ifCond .ne 22, 3) := by decide +kernel
theorem dL_holds_255 : decode cL_holds 255 = .ok (.aload_n 0, 1) := by decide +kernel
theorem dL_holds_256 : decode cL_holds 256 = .ok (.iload 8, 2) := by decide +kernel
theorem dL_holds_258 : decode cL_holds 258 = .ok (.invokestatic 108, 3) := by decide +kernel
theorem dL_holds_261 : decode cL_holds 261 = .ok (.ifCond .ne 13, 3) := by decide +kernel
theorem dL_holds_264 : decode cL_holds 264 = .ok (.iload 9, 2) := by decide +kernel
theorem dL_holds_266 : decode cL_holds 266 = .ok (.iload_n 3, 1) := by decide +kernel
theorem dL_holds_267 : decode cL_holds 267 = .ok (.if_icmp .lt 7, 3) := by decide +kernel
theorem dL_holds_270 : decode cL_holds 270 = .ok (.iconst 1, 1) := by decide +kernel
theorem dL_holds_271 : decode cL_holds 271 = .ok (.goto 4, 3) := by decide +kernel
theorem dL_holds_274 : decode cL_holds 274 = .ok (.iconst 0, 1) := by decide +kernel
theorem dL_holds_275 : decode cL_holds 275 = .ok (.istore 4, 2) := by decide +kernel
theorem dL_holds_277 : decode cL_holds 277 = .ok (.iload 9, 2) := by decide +kernel
theorem dL_holds_279 : decode cL_holds 279 = .ok (.istore_n 3, 1) := by decide +kernel
theorem dL_holds_280 : decode cL_holds 280 = .ok (.iinc 6 1, 3) := by decide +kernel
theorem dL_holds_283 : decode cL_holds 283 = .ok (.goto (-100), 3) := by decide +kernel
theorem dL_holds_286 : decode cL_holds 286 = .ok (.iconst 0, 1) := by decide +kernel
theorem dL_holds_287 : decode cL_holds 287 = .ok (.istore 6, 2) := by decide +kernel
theorem dL_holds_289 : decode cL_holds 289 = .ok (.iload 6, 2) := by decide +kernel
theorem dL_holds_291 : decode cL_holds 291 = .ok (.aload_n 0, 1) := by decide +kernel
theorem dL_holds_292 : decode cL_holds 292 = .ok (.invokevirtual 80, 3) := by decide +kernel
theorem dL_holds_295 : decode cL_holds 295 = .ok (.if_icmp .ge 76, 3) := by decide +kernel
theorem dL_holds_298 : decode cL_holds 298 = .ok (.iload 4, 2) := by decide +kernel
theorem dL_holds_300 : decode cL_holds 300 = .ok (.ifCond .eq 71, 3) := by decide +kernel
theorem dL_holds_303 : decode cL_holds 303 = .ok (.aload_n 0, 1) := by decide +kernel
theorem dL_holds_304 : decode cL_holds 304 = .ok (.iload 6, 2) := by decide +kernel
theorem dL_holds_306 : decode cL_holds 306 = .ok (.invokestatic 134, 3) := by decide +kernel
theorem dL_holds_309 : decode cL_holds 309 = .ok (.ifCond .ge 7, 3) := by decide +kernel
theorem dL_holds_312 : decode cL_holds 312 = .ok (.iconst 1, 1) := by decide +kernel
theorem dL_holds_313 : decode cL_holds 313 = .ok (.goto 4, 3) := by decide +kernel
theorem dL_holds_316 : decode cL_holds 316 = .ok (.iconst 0, 1) := by decide +kernel
theorem dL_holds_317 : decode cL_holds 317 = .ok (.aload_n 0, 1) := by decide +kernel
theorem dL_holds_318 : decode cL_holds 318 = .ok (.iload 6, 2) := by decide +kernel
theorem dL_holds_320 : decode cL_holds 320 = .ok (.invokestatic 108, 3) := by decide +kernel
theorem dL_holds_323 : decode cL_holds 323 = .ok (.iconst 1, 1) := by decide +kernel
theorem dL_holds_324 : decode cL_holds 324 = .ok (.if_icmp .ne 7, 3) := by decide +kernel
theorem dL_holds_327 : decode cL_holds 327 = .ok (.iconst 1, 1) := by decide +kernel
theorem dL_holds_328 : decode cL_holds 328 = .ok (.goto 4, 3) := by decide +kernel
theorem dL_holds_331 : decode cL_holds 331 = .ok (.iconst 0, 1) := by decide +kernel
theorem dL_holds_332 : decode cL_holds 332 = .ok (.if_icmp .ne 30, 3) := by decide +kernel
theorem dL_holds_335 : decode cL_holds 335 = .ok (.aload_n 0, 1) := by decide +kernel
theorem dL_holds_336 : decode cL_holds 336 = .ok (.iload 6, 2) := by decide +kernel
theorem dL_holds_338 : decode cL_holds 338 = .ok (.invokestatic 115, 3) := by decide +kernel
theorem dL_holds_341 : decode cL_holds 341 = .ok (.aload_n 0, 1) := by decide +kernel
theorem dL_holds_342 : decode cL_holds 342 = .ok (.invokevirtual 149, 3) := by decide +kernel
theorem dL_holds_345 : decode cL_holds 345 = .ok (.if_icmp .ge 17, 3) := by decide +kernel
theorem dL_holds_348 : decode cL_holds 348 = .ok (.aload_n 0, 1) := by decide +kernel
theorem dL_holds_349 : decode cL_holds 349 = .ok (.iload 6, 2) := by decide +kernel
theorem dL_holds_351 : decode cL_holds 351 = .ok (.iconst 0, 1) := by decide +kernel
theorem dL_holds_352 : decode cL_holds 352 = .ok (.invokestatic 140, 3) := by decide +kernel
theorem dL_holds_355 : decode cL_holds 355 = .ok (.ifCond .ne 7, 3) := by decide +kernel
theorem dL_holds_358 : decode cL_holds 358 = .ok (.iconst 1, 1) := by decide +kernel
theorem dL_holds_359 : decode cL_holds 359 = .ok (.goto 4, 3) := by decide +kernel
theorem dL_holds_362 : decode cL_holds 362 = .ok (.iconst 0, 1) := by decide +kernel
theorem dL_holds_363 : decode cL_holds 363 = .ok (.istore 4, 2) := by decide +kernel
theorem dL_holds_365 : decode cL_holds 365 = .ok (.iinc 6 1, 3) := by decide +kernel
theorem dL_holds_368 : decode cL_holds 368 = .ok (.goto (-79), 3) := by decide +kernel
theorem dL_holds_371 : decode cL_holds 371 = .ok (.iload 4, 2) := by decide +kernel
theorem dL_holds_373 : decode cL_holds 373 = .ok (.ifCond .eq 13, 3) := by decide +kernel
theorem dL_holds_376 : decode cL_holds 376 = .ok (.iload_n 2, 1) := by decide +kernel
theorem dL_holds_377 : decode cL_holds 377 = .ok (.iload 5, 2) := by decide +kernel
theorem dL_holds_379 : decode cL_holds 379 = .ok (.if_icmp .ne 7, 3) := by decide +kernel
theorem dL_holds_382 : decode cL_holds 382 = .ok (.iconst 1, 1) := by decide +kernel
theorem dL_holds_383 : decode cL_holds 383 = .ok (.goto 4, 3) := by decide +kernel
theorem dL_holds_386 : decode cL_holds 386 = .ok (.iconst 0, 1) := by decide +kernel
theorem dL_holds_387 : decode cL_holds 387 = .ok (.ireturn, 1) := by decide +kernel
