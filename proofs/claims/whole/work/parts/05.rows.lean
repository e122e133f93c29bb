set_option maxRecDepth 20000 in
theorem ggL_plant_X7_plant : GoodIn wsL_plant wsX7_plant := goodIn_ca (goodIn_r _ [6, 7, 8, 9, 10, 11, 12, 13, 14, 15, 16, 17, 18, 19, 20, 21, 22, 23, 24, 25, 26, 27, 28, 29, 30, 31, 32, 33, 34, 35, 36, 37, 38, 39, 40, 41, 42, 43, 44, 45, 46, 47, 48, 49, 50, 51, 52, 53, 54, 55, 56, 57, 58, 59, 60, 61, 62, 63, 64] (by decide +kernel) (by decide +kernel)) (goodIn_sub (fun _ h => List.mem_cons_of_mem _ (List.mem_append_right _ h)) (by decide +kernel))
set_option maxRecDepth 20000 in
theorem gL_plant_X7_plant : GoodIn wsL_plant (wsV RL 7 RX7 yX7_plant wsX7_plant) := goodIn_app (goodIn_of _ (by decide +kernel)) ggL_plant_X7_plant
theorem dL_plant_0 : decode cL_plant 0 = .ok (.aload_n 1, 1) := by decide +kernel
theorem dL_plant_1 : decode cL_plant 1 = .ok (.iconst 0, 1) := by decide +kernel
theorem dL_plant_2 : decode cL_plant 2 = .ok (.aload_n 0, 1) := by decide +kernel
theorem dL_plant_3 : decode cL_plant 3 = .ok (.invokevirtual 7, 3) := by decide +kernel
theorem dL_plant_6 : decode cL_plant 6 = .ok (.i2l, 1) := by decide +kernel
theorem dL_plant_7 : decode cL_plant 7 = .ok (.lastore, 1) := by decide +kernel
theorem dL_plant_8 : decode cL_plant 8 = .ok (.goto 6, 3) := by decide +kernel
theorem dL_plant_11 : decode cL_plant 11 = .ok (.astore_n 2, 1) := by decide +kernel
theorem dL_plant_12 : decode cL_plant 12 = .ok (.iconst 1, 1) := by decide +kernel
theorem dL_plant_13 : decode cL_plant 13 = .ok (.ireturn, 1) := by decide +kernel
theorem dL_plant_14 : decode cL_plant 14 = .ok (.iconst 0, 1) := by decide +kernel
theorem dL_plant_15 : decode cL_plant 15 = .ok (.ireturn, 1) := by decide +kernel
set_option maxRecDepth 20000 in
theorem ggL_uproot_X7_uproot : GoodIn wsL_uproot wsX7_uproot := goodIn_ca (goodIn_r _ [6, 7, 8, 9, 10, 11, 5, 12, 13, 14, 15, 16, 17, 18, 19, 20, 21, 22, 23, 24, 25, 26, 27, 28, 29, 30, 31, 32, 33, 34, 35, 36, 37, 38, 39, 40, 41, 42, 43, 44, 45, 46, 47, 48, 49, 50, 51, 52, 53, 54, 55, 56, 57, 58, 59, 60, 61, 62, 63, 64, 65, 66, 67, 68, 69, 70, 71, 72, 73, 74, 75, 76, 77, 78, 79, 80, 81, 82, 83, 84, 85, 86] (by decide +kernel) (by decide +kernel)) (goodIn_sub (fun _ h => List.mem_cons_of_mem _ (List.mem_append_right _ h)) (by decide +kernel))
set_option maxRecDepth 20000 in
theorem gL_uproot_X7_uproot : GoodIn wsL_uproot (wsV RL 15 RX7 yX7_uproot wsX7_uproot) := goodIn_app (goodIn_of _ (by decide +kernel)) ggL_uproot_X7_uproot
theorem dL_uproot_0 : decode cL_uproot 0 = .ok (.aload_n 2, 1) := by decide +kernel
theorem dL_uproot_1 : decode cL_uproot 1 = .ok (.iconst 0, 1) := by decide +kernel
theorem dL_uproot_2 : decode cL_uproot 2 = .ok (.aload_n 0, 1) := by decide +kernel
theorem dL_uproot_3 : decode cL_uproot 3 = .ok (.iload_n 1, 1) := by decide +kernel
theorem dL_uproot_4 : decode cL_uproot 4 = .ok (.invokevirtual 15, 3) := by decide +kernel
theorem dL_uproot_7 : decode cL_uproot 7 = .ok (.i2l, 1) := by decide +kernel
theorem dL_uproot_8 : decode cL_uproot 8 = .ok (.lastore, 1) := by decide +kernel
theorem dL_uproot_9 : decode cL_uproot 9 = .ok (.goto 6, 3) := by decide +kernel
theorem dL_uproot_12 : decode cL_uproot 12 = .ok (.astore_n 3, 1) := by decide +kernel
theorem dL_uproot_13 : decode cL_uproot 13 = .ok (.iconst 1, 1) := by decide +kernel
theorem dL_uproot_14 : decode cL_uproot 14 = .ok (.ireturn, 1) := by decide +kernel
theorem dL_uproot_15 : decode cL_uproot 15 = .ok (.iconst 0, 1) := by decide +kernel
theorem dL_uproot_16 : decode cL_uproot 16 = .ok (.ireturn, 1) := by decide +kernel
set_option maxRecDepth 20000 in
theorem ggL_bind_X7_bind : GoodIn wsL_bind wsX7_bind := goodIn_ca (goodIn_ca (goodIn_ca (goodIn_r _ [8, 9, 10, 11, 12, 13, 14, 15, 7, 16, 17, 18, 19, 20, 21, 22, 23, 24, 25, 26, 27, 28, 29, 30, 31, 32, 33, 34, 35, 36, 37, 38, 39, 40, 41, 42, 43, 44, 45, 46, 47, 48, 49, 50, 51, 52, 53, 54, 55, 56, 57, 58, 59, 60, 61, 62, 63, 64, 65, 66, 67, 68, 69, 70, 71, 72, 73, 74, 75, 76, 77, 78, 79, 80, 81, 82, 83, 84, 85, 86, 87, 88, 89, 90, 91, 92, 93, 94, 95, 96, 97, 98, 99, 100] (by decide +kernel) (by decide +kernel)) (goodIn_sub (fun _ h => List.mem_cons_of_mem _ (List.mem_append_left _ (List.mem_append_left _ (List.mem_append_right _ h)))) (by decide +kernel))) (goodIn_sub (fun _ h => List.mem_cons_of_mem _ (List.mem_append_left _ (List.mem_append_right _ h))) (by decide +kernel))) (goodIn_sub (fun _ h => List.mem_cons_of_mem _ (List.mem_append_right _ h)) (by decide +kernel))
set_option maxRecDepth 20000 in
theorem gL_bind_X7_bind : GoodIn wsL_bind (wsV RL 21 RX7 yX7_bind wsX7_bind) := goodIn_app (goodIn_of _ (by decide +kernel)) ggL_bind_X7_bind
theorem dL_bind_0 : decode cL_bind 0 = .ok (.aload_n 3, 1) := by decide +kernel
theorem dL_bind_1 : decode cL_bind 1 = .ok (.iconst 0, 1) := by decide +kernel
theorem dL_bind_2 : decode cL_bind 2 = .ok (.aload_n 0, 1) := by decide +kernel
theorem dL_bind_3 : decode cL_bind 3 = .ok (.iload_n 1, 1) := by decide +kernel
theorem dL_bind_4 : decode cL_bind 4 = .ok (.iload_n 2, 1) := by decide +kernel
theorem dL_bind_5 : decode cL_bind 5 = .ok (.invokevirtual 21, 3) := by decide +kernel
theorem dL_bind_8 : decode cL_bind 8 = .ok (.i2l, 1) := by decide +kernel
theorem dL_bind_9 : decode cL_bind 9 = .ok (.lastore, 1) := by decide +kernel
theorem dL_bind_10 : decode cL_bind 10 = .ok (.goto 15, 3) := by decide +kernel
theorem dL_bind_13 : decode cL_bind 13 = .ok (.astore 4, 2) := by decide +kernel
theorem dL_bind_15 : decode cL_bind 15 = .ok (.iconst 1, 1) := by decide +kernel
theorem dL_bind_16 : decode cL_bind 16 = .ok (.ireturn, 1) := by decide +kernel
theorem dL_bind_17 : decode cL_bind 17 = .ok (.astore 4, 2) := by decide +kernel
theorem dL_bind_19 : decode cL_bind 19 = .ok (.iconst 2, 1) := by decide +kernel
theorem dL_bind_20 : decode cL_bind 20 = .ok (.ireturn, 1) := by decide +kernel
theorem dL_bind_21 : decode cL_bind 21 = .ok (.astore 4, 2) := by decide +kernel
theorem dL_bind_23 : decode cL_bind 23 = .ok (.iconst 3, 1) := by decide +kernel
theorem dL_bind_24 : decode cL_bind 24 = .ok (.ireturn, 1) := by decide +kernel
theorem dL_bind_25 : decode cL_bind 25 = .ok (.iconst 0, 1) := by decide +kernel
theorem dL_bind_26 : decode cL_bind 26 = .ok (.ireturn, 1) := by decide +kernel
set_option maxRecDepth 20000 in
theorem ggL_cut_X7_cut : GoodIn wsL_cut wsX7_cut := goodIn_ca (goodIn_ca (goodIn_ca (goodIn_r _ [8, 9, 10, 11, 12, 13, 14, 15, 7, 16, 17, 18, 19, 20, 21, 22, 23, 24, 25, 26, 27, 28, 29, 30, 31, 32, 33, 34, 35, 36, 37, 38, 39, 40, 41, 42, 43, 44, 45, 46, 47, 48, 49, 50, 51, 52, 53, 54, 55, 56, 57, 58, 59, 60, 61, 62, 63, 64, 65, 66, 67, 68, 69, 70, 71, 72, 73, 74, 75, 76, 77, 78, 79, 80, 81, 82, 83, 84, 85, 86, 87, 88, 89, 90, 91, 92, 93, 94, 95, 96, 97, 98, 99, 100] (by decide +kernel) (by decide +kernel)) (goodIn_sub (fun _ h => List.mem_cons_of_mem _ (List.mem_append_left _ (List.mem_append_left _ (List.mem_append_right _ h)))) (by decide +kernel))) (goodIn_sub (fun _ h => List.mem_cons_of_mem _ (List.mem_append_left _ (List.mem_append_right _ h))) (by decide +kernel))) (goodIn_sub (fun _ h => List.mem_cons_of_mem _ (List.mem_append_right _ h)) (by decide +kernel))
set_option maxRecDepth 20000 in
theorem gL_cut_X7_cut : GoodIn wsL_cut (wsV RL 27 RX7 yX7_cut wsX7_cut) := goodIn_app (goodIn_of _ (by decide +kernel)) ggL_cut_X7_cut
theorem dL_cut_0 : decode cL_cut 0 = .ok (.aload_n 3, 1) := by decide +kernel
theorem dL_cut_1 : decode cL_cut 1 = .ok (.iconst 0, 1) := by decide +kernel
theorem dL_cut_2 : decode cL_cut 2 = .ok (.aload_n 0, 1) := by decide +kernel
theorem dL_cut_3 : decode cL_cut 3 = .ok (.iload_n 1, 1) := by decide +kernel
theorem dL_cut_4 : decode cL_cut 4 = .ok (.iload_n 2, 1) := by decide +kernel
theorem dL_cut_5 : decode cL_cut 5 = .ok (.invokevirtual 27, 3) := by decide +kernel
theorem dL_cut_8 : decode cL_cut 8 = .ok (.i2l, 1) := by decide +kernel
theorem dL_cut_9 : decode cL_cut 9 = .ok (.lastore, 1) := by decide +kernel
theorem dL_cut_10 : decode cL_cut 10 = .ok (.goto 15, 3) := by decide +kernel
theorem dL_cut_13 : decode cL_cut 13 = .ok (.astore 4, 2) := by decide +kernel
theorem dL_cut_15 : decode cL_cut 15 = .ok (.iconst 1, 1) := by decide +kernel
theorem dL_cut_16 : decode cL_cut 16 = .ok (.ireturn, 1) := by decide +kernel
theorem dL_cut_17 : decode cL_cut 17 = .ok (.astore 4, 2) := by decide +kernel
theorem dL_cut_19 : decode cL_cut 19 = .ok (.iconst 2, 1) := by decide +kernel
theorem dL_cut_20 : decode cL_cut 20 = .ok (.ireturn, 1) := by decide +kernel
theorem dL_cut_21 : decode cL_cut 21 = .ok (.astore 4, 2) := by decide +kernel
theorem dL_cut_23 : decode cL_cut 23 = .ok (.iconst 3, 1) := by decide +kernel
theorem dL_cut_24 : decode cL_cut 24 = .ok (.ireturn, 1) := by decide +kernel
theorem dL_cut_25 : decode cL_cut 25 = .ok (.iconst 0, 1) := by decide +kernel
theorem dL_cut_26 : decode cL_cut 26 = .ok (.ireturn, 1) := by decide +kernel
set_option maxRecDepth 20000 in
theorem ggL_switchProp_X7_switchProp : GoodIn wsL_switchProp wsX7_switchProp := goodIn_ca (goodIn_r _ [6, 7, 8, 9, 10, 11, 5, 12, 13, 14, 15, 16, 17, 18, 19, 20, 21, 22, 23, 24, 25, 26, 27, 28, 29, 30, 31, 32, 33, 34, 35, 36, 37, 38, 39, 40, 41, 42, 43, 44, 45, 46, 47, 48, 49, 50, 51, 52, 53, 54, 55, 56, 57, 58, 59, 60, 61, 62, 63, 64, 65, 66, 67, 68, 69, 70, 71, 72, 73, 74, 75, 76] (by decide +kernel) (by decide +kernel)) (goodIn_sub (fun _ h => List.mem_cons_of_mem _ (List.mem_append_right _ h)) (by decide +kernel))
set_option maxRecDepth 20000 in
theorem gL_switchProp_X7_switchProp : GoodIn wsL_switchProp (wsV RL 30 RX7 yX7_switchProp wsX7_switchProp) := goodIn_app (goodIn_of _ (by decide +kernel)) ggL_switchProp_X7_switchProp
theorem dL_switchProp_0 : decode cL_switchProp 0 = .ok (.aload_n 2, 1) := by decide +kernel
theorem dL_switchProp_1 : decode cL_switchProp 1 = .ok (.iconst 0, 1) := by decide +kernel
theorem dL_switchProp_2 : decode cL_switchProp 2 = .ok (.aload_n 0, 1) := by decide +kernel
theorem dL_switchProp_3 : decode cL_switchProp 3 = .ok (.iload_n 1, 1) := by decide +kernel
theorem dL_switchProp_4 : decode cL_switchProp 4 = .ok (.invokevirtual 30, 3) := by decide +kernel
theorem dL_switchProp_7 : decode cL_switchProp 7 = .ok (.ifCond .eq 7, 3) := by decide +kernel
theorem dL_switchProp_10 : decode cL_switchProp 10 = .ok (.lconst 1, 1) := by decide +kernel
theorem dL_switchProp_11 : decode cL_switchProp 11 = .ok (.goto 4, 3) := by decide +kernel
theorem dL_switchProp_14 : decode cL_switchProp 14 = .ok (.lconst 0, 1) := by decide +kernel
theorem dL_switchProp_15 : decode cL_switchProp 15 = .ok (.lastore, 1) := by decide +kernel
theorem dL_switchProp_16 : decode cL_switchProp 16 = .ok (.goto 6, 3) := by decide +kernel
theorem dL_switchProp_19 : decode cL_switchProp 19 = .ok (.astore_n 3, 1) := by decide +kernel
theorem dL_switchProp_20 : decode cL_switchProp 20 = .ok (.iconst 1, 1) := by decide +kernel
theorem dL_switchProp_21 : decode cL_switchProp 21 = .ok (.ireturn, 1) := by decide +kernel
theorem dL_switchProp_22 : decode cL_switchProp 22 = .ok (.iconst 0, 1) := by decide +kernel
theorem dL_switchProp_23 : decode cL_switchProp 23 = .ok (.ireturn, 1) := by decide +kernel
set_option maxRecDepth 20000 in
theorem ggL_change_X7_change : GoodIn wsL_change wsX7_change := goodIn_ca (goodIn_r _ [6, 7, 8, 9, 10, 11, 12, 13, 14, 15, 16, 17, 18, 19, 20, 21, 22, 23, 24, 25, 26, 27, 28, 29, 30, 31, 32, 33, 34, 35, 36, 37, 38, 39, 40, 41, 42, 43, 44, 45, 46, 47, 48, 49, 50, 51, 52, 53, 54, 55, 56, 57, 58, 59, 60, 61, 62, 63, 64, 65, 66, 67, 68, 69, 70, 71, 72, 73, 74, 75, 76, 77, 78, 79, 80, 81, 82, 83, 84, 85, 86, 87, 88, 89, 90, 91, 92, 5, 93, 94, 95, 96, 97, 98, 99, 100, 101, 102, 103, 104, 105, 106, 107, 108, 109, 110, 111, 112, 113, 114, 115, 116, 117, 118, 119, 120, 121, 122, 123, 124] (by decide +kernel) (by decide +kernel)) (goodIn_sub (fun _ h => List.mem_cons_of_mem _ (List.mem_append_right _ h)) (by decide +kernel))
set_option maxRecDepth 20000 in
theorem gL_change_X7_change : GoodIn wsL_change (wsV RL 34 RX7 yX7_change wsX7_change) := goodIn_app (goodIn_of _ (by decide +kernel)) ggL_change_X7_change
theorem dL_change_0 : decode cL_change 0 = .ok (.aload_n 1, 1) := by decide +kernel
theorem dL_change_1 : decode cL_change 1 = .ok (.iconst 0, 1) := by decide +kernel
theorem dL_change_2 : decode cL_change 2 = .ok (.aload_n 0, 1) := by decide +kernel
theorem dL_change_3 : decode cL_change 3 = .ok (.invokevirtual 34, 3) := by decide +kernel
theorem dL_change_6 : decode cL_change 6 = .ok (.i2l, 1) := by decide +kernel
theorem dL_change_7 : decode cL_change 7 = .ok (.lastore, 1) := by decide +kernel
theorem dL_change_8 : decode cL_change 8 = .ok (.goto 6, 3) := by decide +kernel
theorem dL_change_11 : decode cL_change 11 = .ok (.astore_n 2, 1) := by decide +kernel
theorem dL_change_12 : decode cL_change 12 = .ok (.iconst 1, 1) := by decide +kernel
theorem dL_change_13 : decode cL_change 13 = .ok (.ireturn, 1) := by decide +kernel
theorem dL_change_14 : decode cL_change 14 = .ok (.iconst 0, 1) := by decide +kernel
theorem dL_change_15 : decode cL_change 15 = .ok (.ireturn, 1) := by decide +kernel
set_option maxRecDepth 20000 in
theorem ggL_append_X7_append : GoodIn wsL_append wsX7_append := goodIn_ca (goodIn_r _ [6, 7, 8, 9, 10, 11, 12, 13, 14, 15, 16, 17, 18, 19, 20, 21, 22, 23, 24, 25, 26, 27, 28, 29, 30, 31, 32, 33, 34, 35, 36, 37, 38] (by decide +kernel) (by decide +kernel)) (goodIn_sub (fun _ h => List.mem_cons_of_mem _ (List.mem_append_right _ h)) (by decide +kernel))
set_option maxRecDepth 20000 in
theorem gL_append_X7_append : GoodIn wsL_append (wsV RL 37 RX7 yX7_append wsX7_append) := goodIn_app (goodIn_of _ (by decide +kernel)) ggL_append_X7_append
theorem dL_append_0 : decode cL_append 0 = .ok (.aload_n 2, 1) := by decide +kernel
theorem dL_append_1 : decode cL_append 1 = .ok (.iconst 0, 1) := by decide +kernel
theorem dL_append_2 : decode cL_append 2 = .ok (.aload_n 0, 1) := by decide +kernel
theorem dL_append_3 : decode cL_append 3 = .ok (.iload_n 1, 1) := by decide +kernel
theorem dL_append_4 : decode cL_append 4 = .ok (.invokevirtual 37, 3) := by decide +kernel
theorem dL_append_7 : decode cL_append 7 = .ok (.i2l, 1) := by decide +kernel
theorem dL_append_8 : decode cL_append 8 = .ok (.lastore, 1) := by decide +kernel
theorem dL_append_9 : decode cL_append 9 = .ok (.goto 6, 3) := by decide +kernel
theorem dL_append_12 : decode cL_append 12 = .ok (.astore_n 3, 1) := by decide +kernel
theorem dL_append_13 : decode cL_append 13 = .ok (.iconst 1, 1) := by decide +kernel
theorem dL_append_14 : decode cL_append 14 = .ok (.ireturn, 1) := by decide +kernel
theorem dL_append_15 : decode cL_append 15 = .ok (.iconst 0, 1) := by decide +kernel
theorem dL_append_16 : decode cL_append 16 = .ok (.ireturn, 1) := by decide +kernel
set_option maxRecDepth 20000 in
theorem ggL_firstError_X7_firstError : GoodIn wsL_firstError wsX7_firstError := goodIn_ca (goodIn_r _ [6, 7, 8, 9, 10, 11, 12, 13, 14, 15, 16, 17, 18, 19, 20, 21, 22, 23, 24, 25, 26, 27, 28, 29, 30, 31, 32, 33, 34, 35, 36, 37, 38, 39, 40, 41, 42, 43, 44, 45, 46, 47] (by decide +kernel) (by decide +kernel)) (goodIn_sub (fun _ h => List.mem_cons_of_mem _ (List.mem_append_right _ h)) (by decide +kernel))
set_option maxRecDepth 20000 in
theorem gL_firstError_X7_firstError : GoodIn wsL_firstError (wsV RL 41 RX7 yX7_firstError wsX7_firstError) := goodIn_app (goodIn_of _ (by decide +kernel)) ggL_firstError_X7_firstError
theorem dL_firstError_0 : decode cL_firstError 0 = .ok (.aload_n 1, 1) := by decide +kernel
theorem dL_firstError_1 : decode cL_firstError 1 = .ok (.iconst 0, 1) := by decide +kernel
theorem dL_firstError_2 : decode cL_firstError 2 = .ok (.aload_n 0, 1) := by decide +kernel
theorem dL_firstError_3 : decode cL_firstError 3 = .ok (.invokevirtual 41, 3) := by decide +kernel
theorem dL_firstError_6 : decode cL_firstError 6 = .ok (.i2l, 1) := by decide +kernel
theorem dL_firstError_7 : decode cL_firstError 7 = .ok (.lastore, 1) := by decide +kernel
theorem dL_firstError_8 : decode cL_firstError 8 = .ok (.goto 6, 3) := by decide +kernel
theorem dL_firstError_11 : decode cL_firstError 11 = .ok (.astore_n 2, 1) := by decide +kernel
theorem dL_firstError_12 : decode cL_firstError 12 = .ok (.iconst 1, 1) := by decide +kernel
theorem dL_firstError_13 : decode cL_firstError 13 = .ok (.ireturn, 1) := by decide +kernel
theorem dL_firstError_14 : decode cL_firstError 14 = .ok (.iconst 0, 1) := by decide +kernel
theorem dL_firstError_15 : decode cL_firstError 15 = .ok (.ireturn, 1) := by decide +kernel
set_option maxRecDepth 20000 in
theorem ggL_undo_X7_undo : GoodIn wsL_undo wsX7_undo := goodIn_ca (goodIn_r _ [6, 7, 8, 9, 10, 11, 12, 13, 14, 15, 16, 17, 18, 19, 20, 21, 22, 23, 24, 25, 26, 27, 28, 29, 30, 31, 32, 33, 34, 35, 36, 37, 38, 39, 40, 41, 42, 43, 44, 45, 46, 47, 48, 49, 50, 51, 52, 53, 54, 55] (by decide +kernel) (by decide +kernel)) (goodIn_sub (fun _ h => List.mem_cons_of_mem _ (List.mem_append_right _ h)) (by decide +kernel))
set_option maxRecDepth 20000 in
theorem gL_undo_X7_undo : GoodIn wsL_undo (wsV RL 44 RX7 yX7_undo wsX7_undo) := goodIn_app (goodIn_of _ (by decide +kernel)) ggL_undo_X7_undo
theorem dL_undo_0 : decode cL_undo 0 = .ok (.aload_n 1, 1) := by decide +kernel
theorem dL_undo_1 : decode cL_undo 1 = .ok (.iconst 0, 1) := by decide +kernel
theorem dL_undo_2 : decode cL_undo 2 = .ok (.aload_n 0, 1) := by decide +kernel
theorem dL_undo_3 : decode cL_undo 3 = .ok (.invokevirtual 44, 3) := by decide +kernel
theorem dL_undo_6 : decode cL_undo 6 = .ok (.i2l, 1) := by decide +kernel
theorem dL_undo_7 : decode cL_undo 7 = .ok (.lastore, 1) := by decide +kernel
theorem dL_undo_8 : decode cL_undo 8 = .ok (.goto 6, 3) := by decide +kernel
theorem dL_undo_11 : decode cL_undo 11 = .ok (.astore_n 2, 1) := by decide +kernel
theorem dL_undo_12 : decode cL_undo 12 = .ok (.iconst 1, 1) := by decide +kernel
theorem dL_undo_13 : decode cL_undo 13 = .ok (.ireturn, 1) := by decide +kernel
theorem dL_undo_14 : decode cL_undo 14 = .ok (.iconst 0, 1) := by decide +kernel
theorem dL_undo_15 : decode cL_undo 15 = .ok (.ireturn, 1) := by decide +kernel
set_option maxRecDepth 20000 in
theorem ggL_restoreSnapshot_X7_restoreSnapshot : GoodIn wsL_restoreSnapshot wsX7_restoreSnapshot := goodIn_ca (goodIn_r _ [6, 7, 8, 9, 10, 11, 12, 13, 14, 15, 16, 17, 18, 19, 20, 21, 22, 23, 24, 25, 26, 27, 28, 29, 30, 31, 32, 33, 34, 35, 36, 37, 38, 39, 40, 41, 42, 43, 44, 45, 46, 47, 48, 49, 50, 51, 52, 53, 54, 55, 56, 57, 58, 59, 60, 61] (by decide +kernel) (by decide +kernel)) (goodIn_sub (fun _ h => List.mem_cons_of_mem _ (List.mem_append_right _ h)) (by decide +kernel))
set_option maxRecDepth 20000 in
theorem gL_restoreSnapshot_X7_restoreSnapshot : GoodIn wsL_restoreSnapshot (wsV RL 47 RX7 yX7_restoreSnapshot wsX7_restoreSnapshot) := goodIn_app (goodIn_of _ (by decide +kernel)) ggL_restoreSnapshot_X7_restoreSnapshot
theorem dL_restoreSnapshot_0 : decode cL_restoreSnapshot 0 = .ok (.aload_n 1, 1) := by decide +kernel
theorem dL_restoreSnapshot_1 : decode cL_restoreSnapshot 1 = .ok (.iconst 0, 1) := by decide +kernel
theorem dL_restoreSnapshot_2 : decode cL_restoreSnapshot 2 = .ok (.aload_n 0, 1) := by decide +kernel
theorem dL_restoreSnapshot_3 : decode cL_restoreSnapshot 3 = .ok (.invokevirtual 47, 3) := by decide +kernel
theorem dL_restoreSnapshot_6 : decode cL_restoreSnapshot 6 = .ok (.i2l, 1) := by decide +kernel
theorem dL_restoreSnapshot_7 : decode cL_restoreSnapshot 7 = .ok (.lastore, 1) := by decide +kernel
theorem dL_restoreSnapshot_8 : decode cL_restoreSnapshot 8 = .ok (.goto 6, 3) := by decide +kernel
theorem dL_restoreSnapshot_11 : decode cL_restoreSnapshot 11 = .ok (.astore_n 2, 1) := by decide +kernel
theorem dL_restoreSnapshot_12 : decode cL_restoreSnapshot 12 = .ok (.iconst 1, 1) := by decide +kernel
theorem dL_restoreSnapshot_13 : decode cL_restoreSnapshot 13 = .ok (.ireturn, 1) := by decide +kernel
theorem dL_restoreSnapshot_14 : decode cL_restoreSnapshot 14 = .ok (.iconst 0, 1) := by decide +kernel
theorem dL_restoreSnapshot_15 : decode cL_restoreSnapshot 15 = .ok (.ireturn, 1) := by decide +kernel
set_option maxRecDepth 20000 in
theorem ggL_neighbors_X7_neighbors : GoodIn wsL_neighbors wsX7_neighbors := goodIn_ca (goodIn_r _ [6, 7, 8, 9, 10, 5, 11, 12, 13, 14, 15, 16, 17, 18, 19, 20, 21, 22, 23, 24, 25, 26, 27, 28, 29, 30, 31, 32, 33, 34, 35, 36, 37, 38, 39, 40, 41, 42] (by decide +kernel) (by decide +kernel)) (goodIn_sub (fun _ h => List.mem_cons_of_mem _ (List.mem_append_right _ h)) (by decide +kernel))
set_option maxRecDepth 20000 in
theorem gL_neighbors_X7_neighbors : GoodIn wsL_neighbors (wsV RL 50 RX7 yX7_neighbors wsX7_neighbors) := goodIn_app (goodIn_of _ (by decide +kernel)) ggL_neighbors_X7_neighbors
theorem dL_neighbors_0 : decode cL_neighbors 0 = .ok (.aload_n 2, 1) := by decide +kernel
theorem dL_neighbors_1 : decode cL_neighbors 1 = .ok (.iconst 0, 1) := by decide +kernel
theorem dL_neighbors_2 : decode cL_neighbors 2 = .ok (.aload_n 0, 1) := by decide +kernel
theorem dL_neighbors_3 : decode cL_neighbors 3 = .ok (.iload_n 1, 1) := by decide +kernel
theorem dL_neighbors_4 : decode cL_neighbors 4 = .ok (.invokevirtual 50, 3) := by decide +kernel
theorem dL_neighbors_7 : decode cL_neighbors 7 = .ok (.i2l, 1) := by decide +kernel
theorem dL_neighbors_8 : decode cL_neighbors 8 = .ok (.lastore, 1) := by decide +kernel
theorem dL_neighbors_9 : decode cL_neighbors 9 = .ok (.goto 6, 3) := by decide +kernel
theorem dL_neighbors_12 : decode cL_neighbors 12 = .ok (.astore_n 3, 1) := by decide +kernel
theorem dL_neighbors_13 : decode cL_neighbors 13 = .ok (.iconst 1, 1) := by decide +kernel
theorem dL_neighbors_14 : decode cL_neighbors 14 = .ok (.ireturn, 1) := by decide +kernel
theorem dL_neighbors_15 : decode cL_neighbors 15 = .ok (.iconst 0, 1) := by decide +kernel
theorem dL_neighbors_16 : decode cL_neighbors 16 = .ok (.ireturn, 1) := by decide +kernel
set_option maxRecDepth 20000 in
theorem ggL_isPropped_X7_isPropped : GoodIn wsL_isPropped wsX7_isPropped := goodIn_ca (goodIn_r _ [6, 7, 8, 9, 10, 5, 11, 12, 13, 14, 15, 16, 17, 18, 19, 20, 21, 22, 23, 24, 25, 26, 27, 28, 29, 30, 31, 32, 33, 34, 35, 36, 37, 38] (by decide +kernel) (by decide +kernel)) (goodIn_sub (fun _ h => List.mem_cons_of_mem _ (List.mem_append_right _ h)) (by decide +kernel))
set_option maxRecDepth 20000 in
theorem gL_isPropped_X7_isPropped : GoodIn wsL_isPropped (wsV RL 53 RX7 yX7_isPropped wsX7_isPropped) := goodIn_app (goodIn_of _ (by decide +kernel)) ggL_isPropped_X7_isPropped
theorem dL_isPropped_0 : decode cL_isPropped 0 = .ok (.aload_n 2, 1) := by decide +kernel
theorem dL_isPropped_1 : decode cL_isPropped 1 = .ok (.iconst 0, 1) := by decide +kernel
theorem dL_isPropped_2 : decode cL_isPropped 2 = .ok (.aload_n 0, 1) := by decide +kernel
theorem dL_isPropped_3 : decode cL_isPropped 3 = .ok (.iload_n 1, 1) := by decide +kernel
theorem dL_isPropped_4 : decode cL_isPropped 4 = .ok (.invokevirtual 53, 3) := by decide +kernel
theorem dL_isPropped_7 : decode cL_isPropped 7 = .ok (.ifCond .eq 7, 3) := by decide +kernel
theorem dL_isPropped_10 : decode cL_isPropped 10 = .ok (.lconst 1, 1) := by decide +kernel
theorem dL_isPropped_11 : decode cL_isPropped 11 = .ok (.goto 4, 3) := by decide +kernel
theorem dL_isPropped_14 : decode cL_isPropped 14 = .ok (.lconst 0, 1) := by decide +kernel
theorem dL_isPropped_15 : decode cL_isPropped 15 = .ok (.lastore, 1) := by decide +kernel
theorem dL_isPropped_16 : decode cL_isPropped 16 = .ok (.goto 6, 3) := by decide +kernel
theorem dL_isPropped_19 : decode cL_isPropped 19 = .ok (.astore_n 3, 1) := by decide +kernel
theorem dL_isPropped_20 : decode cL_isPropped 20 = .ok (.iconst 1, 1) := by decide +kernel
theorem dL_isPropped_21 : decode cL_isPropped 21 = .ok (.ireturn, 1) := by decide +kernel
theorem dL_isPropped_22 : decode cL_isPropped 22 = .ok (.iconst 0, 1) := by decide +kernel
theorem dL_isPropped_23 : decode cL_isPropped 23 = .ok (.ireturn, 1) := by decide +kernel
set_option maxRecDepth 20000 in
theorem ggL_core_X7_core : GoodIn wsL_core wsX7_core := goodIn_ca (goodIn_r _ [6, 7, 8, 9, 10, 11, 5, 12, 13, 14, 15, 16, 17, 18, 19, 20, 21, 22, 23, 24, 25, 26, 27, 28, 29, 30, 31, 32, 33, 34, 35, 36, 37, 38, 39, 40, 41, 42, 43, 44, 45, 46, 47, 48, 49, 50, 51, 52, 53, 54, 55, 56, 57, 58, 59, 60, 61, 62, 63, 64, 65, 66, 67, 68] (by decide +kernel) (by decide +kernel)) (goodIn_sub (fun _ h => List.mem_cons_of_mem _ (List.mem_append_right _ h)) (by decide +kernel))
set_option maxRecDepth 20000 in
theorem gL_core_X7_core : GoodIn wsL_core (wsV RL 56 RX7 yX7_core wsX7_core) := goodIn_app (goodIn_of _ (by decide +kernel)) ggL_core_X7_core
theorem dL_core_0 : decode cL_core 0 = .ok (.aload_n 2, 1) := by decide +kernel
theorem dL_core_1 : decode cL_core 1 = .ok (.iconst 0, 1) := by decide +kernel
theorem dL_core_2 : decode cL_core 2 = .ok (.aload_n 0, 1) := by decide +kernel
theorem dL_core_3 : decode cL_core 3 = .ok (.iload_n 1, 1) := by decide +kernel
theorem dL_core_4 : decode cL_core 4 = .ok (.invokevirtual 56, 3) := by decide +kernel
theorem dL_core_7 : decode cL_core 7 = .ok (.i2l, 1) := by decide +kernel
theorem dL_core_8 : decode cL_core 8 = .ok (.lastore, 1) := by decide +kernel
theorem dL_core_9 : decode cL_core 9 = .ok (.goto 6, 3) := by decide +kernel
theorem dL_core_12 : decode cL_core 12 = .ok (.astore_n 3, 1) := by decide +kernel
theorem dL_core_13 : decode cL_core 13 = .ok (.iconst 1, 1) := by decide +kernel
theorem dL_core_14 : decode cL_core 14 = .ok (.ireturn, 1) := by decide +kernel
theorem dL_core_15 : decode cL_core 15 = .ok (.iconst 0, 1) := by decide +kernel
theorem dL_core_16 : decode cL_core 16 = .ok (.ireturn, 1) := by decide +kernel
set_option maxRecDepth 20000 in
theorem ggL_coreOf_X7_coreOf : GoodIn wsL_coreOf wsX7_coreOf := goodIn_ca (goodIn_r _ [6, 7, 8, 9, 10, 5, 11, 12, 13, 14, 15, 16, 17, 18, 19, 20, 21, 22, 23, 24, 25, 26, 27, 28, 29, 30, 31, 32, 33, 34, 35, 36, 37, 38, 39, 40, 41, 42, 43, 44, 45, 46, 47, 48, 49, 50, 51, 52, 53, 54, 55, 56, 57, 58, 59, 60, 61, 62, 63, 64, 65, 66, 67, 68, 69, 70, 71, 72, 73, 74, 75, 76] (by decide +kernel) (by decide +kernel)) (goodIn_sub (fun _ h => List.mem_cons_of_mem _ (List.mem_append_right _ h)) (by decide +kernel))
set_option maxRecDepth 20000 in
theorem gL_coreOf_X7_coreOf : GoodIn wsL_coreOf (wsV RL 59 RX7 yX7_coreOf wsX7_coreOf) := goodIn_app (goodIn_of _ (by decide +kernel)) ggL_coreOf_X7_coreOf
theorem dL_coreOf_0 : decode cL_coreOf 0 = .ok (.aload_n 2, 1) := by decide +kernel
theorem dL_coreOf_1 : decode cL_coreOf 1 = .ok (.iconst 0, 1) := by decide +kernel
theorem dL_coreOf_2 : decode cL_coreOf 2 = .ok (.aload_n 0, 1) := by decide +kernel
theorem dL_coreOf_3 : decode cL_coreOf 3 = .ok (.iload_n 1, 1) := by decide +kernel
theorem dL_coreOf_4 : decode cL_coreOf 4 = .ok (.invokevirtual 59, 3) := by decide +kernel
theorem dL_coreOf_7 : decode cL_coreOf 7 = .ok (.i2l, 1) := by decide +kernel
theorem dL_coreOf_8 : decode cL_coreOf 8 = .ok (.lastore, 1) := by decide +kernel
theorem dL_coreOf_9 : decode cL_coreOf 9 = .ok (.goto 6, 3) := by decide +kernel
theorem dL_coreOf_12 : decode cL_coreOf 12 = .ok (.astore_n 3, 1) := by decide +kernel
theorem dL_coreOf_13 : decode cL_coreOf 13 = .ok (.iconst 1, 1) := by decide +kernel
theorem dL_coreOf_14 : decode cL_coreOf 14 = .ok (.ireturn, 1) := by decide +kernel
theorem dL_coreOf_15 : decode cL_coreOf 15 = .ok (.iconst 0, 1) := by decide +kernel
theorem dL_coreOf_16 : decode cL_coreOf 16 = .ok (.ireturn, 1) := by decide +kernel
set_option maxRecDepth 20000 in
theorem ggL_coreByRounds_X7_coreByRounds : GoodIn wsL_coreByRounds wsX7_coreByRounds := goodIn_ca (goodIn_r _ [6, 7, 8, 9, 10, 5, 11, 12, 13, 14, 15, 16, 17, 18, 19, 20, 21, 22, 23, 24, 25, 26, 27, 28, 29, 30, 31, 32, 33, 34, 35, 36, 37, 38, 39, 40, 41, 42, 43, 44, 45, 46, 47, 48, 49, 50, 51, 52, 53, 54, 55, 56, 57, 58, 59, 60, 61, 62, 63, 64, 65, 66, 67, 68, 69, 70, 71, 72, 73, 74, 75, 76, 77, 78, 79, 80, 81, 82, 83, 84, 85, 86, 87, 88, 89, 90] (by decide +kernel) (by decide +kernel)) (goodIn_sub (fun _ h => List.mem_cons_of_mem _ (List.mem_append_right _ h)) (by decide +kernel))
set_option maxRecDepth 20000 in
theorem gL_coreByRounds_X7_coreByRounds : GoodIn wsL_coreByRounds (wsV RL 62 RX7 yX7_coreByRounds wsX7_coreByRounds) := goodIn_app (goodIn_of _ (by decide +kernel)) ggL_coreByRounds_X7_coreByRounds
theorem dL_coreByRounds_0 : decode cL_coreByRounds 0 = .ok (.aload_n 2, 1) := by decide +kernel
theorem dL_coreByRounds_1 : decode cL_coreByRounds 1 = .ok (.iconst 0, 1) := by decide +kernel
theorem dL_coreByRounds_2 : decode cL_coreByRounds 2 = .ok (.aload_n 0, 1) := by decide +kernel
theorem dL_coreByRounds_3 : decode cL_coreByRounds 3 = .ok (.iload_n 1, 1) := by decide +kernel
theorem dL_coreByRounds_4 : decode cL_coreByRounds 4 = .ok (.invokevirtual 62, 3) := by decide +kernel
theorem dL_coreByRounds_7 : decode cL_coreByRounds 7 = .ok (.i2l, 1) := by decide +kernel
theorem dL_coreByRounds_8 : decode cL_coreByRounds 8 = .ok (.lastore, 1) := by decide +kernel
theorem dL_coreByRounds_9 : decode cL_coreByRounds 9 = .ok (.goto 6, 3) := by decide +kernel
theorem dL_coreByRounds_12 : decode cL_coreByRounds 12 = .ok (.astore_n 3, 1) := by decide +kernel
theorem dL_coreByRounds_13 : decode cL_coreByRounds 13 = .ok (.iconst 1, 1) := by decide +kernel
theorem dL_coreByRounds_14 : decode cL_coreByRounds 14 = .ok (.ireturn, 1) := by decide +kernel
theorem dL_coreByRounds_15 : decode cL_coreByRounds 15 = .ok (.iconst 0, 1) := by decide +kernel
theorem dL_coreByRounds_16 : decode cL_coreByRounds 16 = .ok (.ireturn, 1) := by decide +kernel
set_option maxRecDepth 20000 in
theorem ggL_placeOf_X7_placeOf : GoodIn wsL_placeOf wsX7_placeOf := goodIn_ca (goodIn_r _ [6, 7, 8, 9, 10, 5, 11, 12, 13, 14, 15, 16, 17, 18, 19, 20, 21, 22, 23, 24, 25, 26, 27, 28, 29, 30, 31, 32, 33, 34, 35, 36, 37, 38, 39, 40, 41, 42, 43, 44, 45, 46, 47, 48, 49, 50, 51, 52, 53, 54, 55, 56, 57, 58, 59, 60, 61, 62, 63, 64, 65, 66, 67, 68, 69, 70, 71, 72, 73, 74, 75, 76, 77, 78, 79, 80, 81, 82, 83] (by decide +kernel) (by decide +kernel)) (goodIn_sub (fun _ h => List.mem_cons_of_mem _ (List.mem_append_right _ h)) (by decide +kernel))
set_option maxRecDepth 20000 in
theorem gL_placeOf_X7_placeOf : GoodIn wsL_placeOf (wsV RL 65 RX7 yX7_placeOf wsX7_placeOf) := goodIn_app (goodIn_of _ (by decide +kernel)) ggL_placeOf_X7_placeOf
theorem dL_placeOf_0 : decode cL_placeOf 0 = .ok (.aload_n 2, 1) := by decide +kernel
theorem dL_placeOf_1 : decode cL_placeOf 1 = .ok (.iconst 0, 1) := by decide +kernel
theorem dL_placeOf_2 : decode cL_placeOf 2 = .ok (.aload_n 0, 1) := by decide +kernel
theorem dL_placeOf_3 : decode cL_placeOf 3 = .ok (.iload_n 1, 1) := by decide +kernel
theorem dL_placeOf_4 : decode cL_placeOf 4 = .ok (.invokevirtual 65, 3) := by decide +kernel
theorem dL_placeOf_7 : decode cL_placeOf 7 = .ok (.i2l, 1) := by decide +kernel
theorem dL_placeOf_8 : decode cL_placeOf 8 = .ok (.lastore, 1) := by decide +kernel
theorem dL_placeOf_9 : decode cL_placeOf 9 = .ok (.goto 6, 3) := by decide +kernel
theorem dL_placeOf_12 : decode cL_placeOf 12 = .ok (.astore_n 3, 1) := by decide +kernel
theorem dL_placeOf_13 : decode cL_placeOf 13 = .ok (.iconst 1, 1) := by decide +kernel
theorem dL_placeOf_14 : decode cL_placeOf 14 = .ok (.ireturn, 1) := by decide +kernel
theorem dL_placeOf_15 : decode cL_placeOf 15 = .ok (.iconst 0, 1) := by decide +kernel
theorem dL_placeOf_16 : decode cL_placeOf 16 = .ok (.ireturn, 1) := by decide +kernel
set_option maxRecDepth 20000 in
theorem ggL_corePieces_X7_corePieces : GoodIn wsL_corePieces wsX7_corePieces := goodIn_ca (goodIn_r _ [6, 7, 8, 9, 10, 11, 5, 12, 13, 14, 15, 16, 17, 18, 19, 20, 21, 22, 23, 24, 25, 26, 27, 28, 29, 30, 31, 32, 33, 34, 35, 36, 37, 38, 39, 40, 41, 42, 43, 44, 45, 46, 47, 48, 49, 50, 51, 52, 53, 54, 55, 56, 57, 58, 59, 60, 61, 62, 63, 64, 65, 66, 67, 68, 69, 70, 71, 72, 73, 74, 75, 76] (by decide +kernel) (by decide +kernel)) (goodIn_sub (fun _ h => List.mem_cons_of_mem _ (List.mem_append_right _ h)) (by decide +kernel))
set_option maxRecDepth 20000 in
theorem gL_corePieces_X7_corePieces : GoodIn wsL_corePieces (wsV RL 68 RX7 yX7_corePieces wsX7_corePieces) := goodIn_app (goodIn_of _ (by decide +kernel)) ggL_corePieces_X7_corePieces
theorem dL_corePieces_0 : decode cL_corePieces 0 = .ok (.aload_n 2, 1) := by decide +kernel
theorem dL_corePieces_1 : decode cL_corePieces 1 = .ok (.iconst 0, 1) := by decide +kernel
theorem dL_corePieces_2 : decode cL_corePieces 2 = .ok (.aload_n 0, 1) := by decide +kernel
theorem dL_corePieces_3 : decode cL_corePieces 3 = .ok (.iload_n 1, 1) := by decide +kernel
theorem dL_corePieces_4 : decode cL_corePieces 4 = .ok (.invokevirtual 68, 3) := by decide +kernel
theorem dL_corePieces_7 : decode cL_corePieces 7 = .ok (.i2l, 1) := by decide +kernel
theorem dL_corePieces_8 : decode cL_corePieces 8 = .ok (.lastore, 1) := by decide +kernel
theorem dL_corePieces_9 : decode cL_corePieces 9 = .ok (.goto 6, 3) := by decide +kernel
theorem dL_corePieces_12 : decode cL_corePieces 12 = .ok (.astore_n 3, 1) := by decide +kernel
theorem dL_corePieces_13 : decode cL_corePieces 13 = .ok (.iconst 1, 1) := by decide +kernel
theorem dL_corePieces_14 : decode cL_corePieces 14 = .ok (.ireturn, 1) := by decide +kernel
theorem dL_corePieces_15 : decode cL_corePieces 15 = .ok (.iconst 0, 1) := by decide +kernel
theorem dL_corePieces_16 : decode cL_corePieces 16 = .ok (.ireturn, 1) := by decide +kernel
set_option maxRecDepth 20000 in
theorem ggL_wouldFall_X7_wouldFall : GoodIn wsL_wouldFall wsX7_wouldFall := goodIn_ca (goodIn_ca (goodIn_r _ [7, 8, 9, 10, 11, 12, 6, 13, 14, 15, 16, 17, 18, 19, 20, 21, 22, 23, 24, 25, 26, 27, 28, 29, 30, 31, 32, 33, 34, 35, 36, 37, 38, 39, 40, 41, 42, 43, 44, 45, 46, 47, 48, 49, 50, 51, 52, 53, 54, 55, 56, 57, 58, 59, 60, 61, 62, 63, 64, 65, 66, 67, 68, 69, 70, 71, 72, 73, 74, 75, 76, 77, 78, 79, 80, 81] (by decide +kernel) (by decide +kernel)) (goodIn_sub (fun _ h => List.mem_cons_of_mem _ (List.mem_append_left _ (List.mem_append_right _ h))) (by decide +kernel))) (goodIn_sub (fun _ h => List.mem_cons_of_mem _ (List.mem_append_right _ h)) (by decide +kernel))
set_option maxRecDepth 20000 in
theorem gL_wouldFall_X7_wouldFall : GoodIn wsL_wouldFall (wsV RL 71 RX7 yX7_wouldFall wsX7_wouldFall) := goodIn_app (goodIn_of _ (by decide +kernel)) ggL_wouldFall_X7_wouldFall
theorem dL_wouldFall_0 : decode cL_wouldFall 0 = .ok (.aload_n 3, 1) := by decide +kernel
theorem dL_wouldFall_1 : decode cL_wouldFall 1 = .ok (.iconst 0, 1) := by decide +kernel
theorem dL_wouldFall_2 : decode cL_wouldFall 2 = .ok (.aload_n 0, 1) := by decide +kernel
theorem dL_wouldFall_3 : decode cL_wouldFall 3 = .ok (.iload_n 1, 1) := by decide +kernel
theorem dL_wouldFall_4 : decode cL_wouldFall 4 = .ok (.iload_n 2, 1) := by decide +kernel
theorem dL_wouldFall_5 : decode cL_wouldFall 5 = .ok (.invokevirtual 71, 3) := by decide +kernel
theorem dL_wouldFall_8 : decode cL_wouldFall 8 = .ok (.i2l, 1) := by decide +kernel
theorem dL_wouldFall_9 : decode cL_wouldFall 9 = .ok (.lastore, 1) := by decide +kernel
theorem dL_wouldFall_10 : decode cL_wouldFall 10 = .ok (.goto 11, 3) := by decide +kernel
theorem dL_wouldFall_13 : decode cL_wouldFall 13 = .ok (.astore 4, 2) := by decide +kernel
theorem dL_wouldFall_15 : decode cL_wouldFall 15 = .ok (.iconst 1, 1) := by decide +kernel
theorem dL_wouldFall_16 : decode cL_wouldFall 16 = .ok (.ireturn, 1) := by decide +kernel
theorem dL_wouldFall_17 : decode cL_wouldFall 17 = .ok (.astore 4, 2) := by decide +kernel
theorem dL_wouldFall_19 : decode cL_wouldFall 19 = .ok (.iconst 2, 1) := by decide +kernel
theorem dL_wouldFall_20 : decode cL_wouldFall 20 = .ok (.ireturn, 1) := by decide +kernel
theorem dL_wouldFall_21 : decode cL_wouldFall 21 = .ok (.iconst 0, 1) := by decide +kernel
theorem dL_wouldFall_22 : decode cL_wouldFall 22 = .ok (.ireturn, 1) := by decide +kernel
set_option maxRecDepth 20000 in
theorem ggL_bestProp_X7_bestProp : GoodIn wsL_bestProp wsX7_bestProp := goodIn_ca (goodIn_ca (goodIn_r _ [7, 8, 9, 10, 11, 12, 13, 14, 6, 15, 16, 17, 18, 19, 20, 21, 22, 23, 24, 25, 26, 27, 28, 29, 30, 31, 32, 33, 34, 35, 36, 37, 38, 39, 40, 41, 42, 43, 44, 45, 46, 47, 48, 49, 50, 51, 52, 53, 54, 55, 56, 57, 58, 59, 60, 61, 62, 63, 64, 65, 66, 67, 68, 69, 70, 71, 72, 73, 74, 75, 76, 77, 78, 79, 80, 81, 82, 83, 84, 85] (by decide +kernel) (by decide +kernel)) (goodIn_sub (fun _ h => List.mem_cons_of_mem _ (List.mem_append_left _ (List.mem_append_right _ h))) (by decide +kernel))) (goodIn_sub (fun _ h => List.mem_cons_of_mem _ (List.mem_append_right _ h)) (by decide +kernel))
set_option maxRecDepth 20000 in
theorem gL_bestProp_X7_bestProp : GoodIn wsL_bestProp (wsV RL 74 RX7 yX7_bestProp wsX7_bestProp) := goodIn_app (goodIn_of _ (by decide +kernel)) ggL_bestProp_X7_bestProp
theorem dL_bestProp_0 : decode cL_bestProp 0 = .ok (.aload_n 2, 1) := by decide +kernel
theorem dL_bestProp_1 : decode cL_bestProp 1 = .ok (.iconst 0, 1) := by decide +kernel
theorem dL_bestProp_2 : decode cL_bestProp 2 = .ok (.aload_n 0, 1) := by decide +kernel
theorem dL_bestProp_3 : decode cL_bestProp 3 = .ok (.iload_n 1, 1) := by decide +kernel
theorem dL_bestProp_4 : decode cL_bestProp 4 = .ok (.invokevirtual 74, 3) := by decide +kernel
theorem dL_bestProp_7 : decode cL_bestProp 7 = .ok (.i2l, 1) := by decide +kernel
theorem dL_bestProp_8 : decode cL_bestProp 8 = .ok (.lastore, 1) := by decide +kernel
theorem dL_bestProp_9 : decode cL_bestProp 9 = .ok (.goto 9, 3) := by decide +kernel
theorem dL_bestProp_12 : decode cL_bestProp 12 = .ok (.astore_n 3, 1) := by decide +kernel
theorem dL_bestProp_13 : decode cL_bestProp 13 = .ok (.iconst 1, 1) := by decide +kernel
theorem dL_bestProp_14 : decode cL_bestProp 14 = .ok (.ireturn, 1) := by decide +kernel
theorem dL_bestProp_15 : decode cL_bestProp 15 = .ok (.astore_n 3, 1) := by decide +kernel
theorem dL_bestProp_16 : decode cL_bestProp 16 = .ok (.iconst 2, 1) := by decide +kernel
theorem dL_bestProp_17 : decode cL_bestProp 17 = .ok (.ireturn, 1) := by decide +kernel
theorem dL_bestProp_18 : decode cL_bestProp 18 = .ok (.iconst 0, 1) := by decide +kernel
theorem dL_bestProp_19 : decode cL_bestProp 19 = .ok (.ireturn, 1) := by decide +kernel
set_option maxRecDepth 20000 in
theorem ggL_support_X7_support : GoodIn wsL_support wsX7_support := goodIn_ca (goodIn_ca (goodIn_r _ [7, 8, 9, 10, 11, 6, 12, 13, 14, 15, 16, 17, 18, 19, 20, 21, 22, 23, 24, 25, 26, 27, 28, 29, 30, 31, 32, 33, 34, 35, 36, 37, 38, 39, 40, 41, 42, 43, 44, 45, 46, 47, 48, 49, 50, 51, 52, 53, 54, 55, 56, 57, 58, 59, 60, 61, 62, 63, 64, 65, 66] (by decide +kernel) (by decide +kernel)) (goodIn_sub (fun _ h => List.mem_cons_of_mem _ (List.mem_append_left _ (List.mem_append_right _ h))) (by decide +kernel))) (goodIn_sub (fun _ h => List.mem_cons_of_mem _ (List.mem_append_right _ h)) (by decide +kernel))
set_option maxRecDepth 20000 in
theorem gL_support_X7_support : GoodIn wsL_support (wsV RL 79 RX7 yX7_support wsX7_support) := goodIn_app (goodIn_of _ (by decide +kernel)) ggL_support_X7_support
theorem dL_support_0 : decode cL_support 0 = .ok (.aload_n 3, 1) := by decide +kernel
theorem dL_support_1 : decode cL_support 1 = .ok (.iconst 0, 1) := by decide +kernel
theorem dL_support_2 : decode cL_support 2 = .ok (.aload_n 0, 1) := by decide +kernel
theorem dL_support_3 : decode cL_support 3 = .ok (.iload_n 1, 1) := by decide +kernel
theorem dL_support_4 : decode cL_support 4 = .ok (.iload_n 2, 1) := by decide +kernel
theorem dL_support_5 : decode cL_support 5 = .ok (.invokevirtual 79, 3) := by decide +kernel
theorem dL_support_8 : decode cL_support 8 = .ok (.i2l, 1) := by decide +kernel
theorem dL_support_9 : decode cL_support 9 = .ok (.lastore, 1) := by decide +kernel
theorem dL_support_10 : decode cL_support 10 = .ok (.goto 11, 3) := by decide +kernel
theorem dL_support_13 : decode cL_support 13 = .ok (.astore 4, 2) := by decide +kernel
theorem dL_support_15 : decode cL_support 15 = .ok (.iconst 1, 1) := by decide +kernel
theorem dL_support_16 : decode cL_support 16 = .ok (.ireturn, 1) := by decide +kernel
theorem dL_support_17 : decode cL_support 17 = .ok (.astore 4, 2) := by decide +kernel
theorem dL_support_19 : decode cL_support 19 = .ok (.iconst 2, 1) := by decide +kernel
theorem dL_support_20 : decode cL_support 20 = .ok (.ireturn, 1) := by decide +kernel
theorem dL_support_21 : decode cL_support 21 = .ok (.iconst 0, 1) := by decide +kernel
theorem dL_support_22 : decode cL_support 22 = .ok (.ireturn, 1) := by decide +kernel
set_option maxRecDepth 20000 in
theorem ggL_trussOf_X7_trussOf : GoodIn wsL_trussOf wsX7_trussOf := goodIn_ca (goodIn_ca (goodIn_r _ [7, 8, 9, 10, 11, 6, 12, 13, 14, 15, 16, 17, 18, 19, 20, 21, 22, 23, 24, 25, 26, 27, 28, 29, 30, 31, 32, 33, 34, 35, 36, 37, 38, 39, 40, 41, 42, 43, 44, 45, 46, 47, 48, 49, 50, 51, 52, 53, 54, 55, 56, 57, 58, 59, 60, 61, 62, 63, 64, 65, 66, 67, 68, 69, 70, 71, 72, 73, 74, 75, 76, 77, 78, 79, 80, 81, 82, 83, 84, 85, 86, 87, 88, 89, 90, 91, 92, 93, 94, 95] (by decide +kernel) (by decide +kernel)) (goodIn_sub (fun _ h => List.mem_cons_of_mem _ (List.mem_append_left _ (List.mem_append_right _ h))) (by decide +kernel))) (goodIn_sub (fun _ h => List.mem_cons_of_mem _ (List.mem_append_right _ h)) (by decide +kernel))
set_option maxRecDepth 20000 in
theorem gL_trussOf_X7_trussOf : GoodIn wsL_trussOf (wsV RL 82 RX7 yX7_trussOf wsX7_trussOf) := goodIn_app (goodIn_of _ (by decide +kernel)) ggL_trussOf_X7_trussOf
theorem dL_trussOf_0 : decode cL_trussOf 0 = .ok (.aload_n 3, 1) := by decide +kernel
theorem dL_trussOf_1 : decode cL_trussOf 1 = .ok (.iconst 0, 1) := by decide +kernel
theorem dL_trussOf_2 : decode cL_trussOf 2 = .ok (.aload_n 0, 1) := by decide +kernel
theorem dL_trussOf_3 : decode cL_trussOf 3 = .ok (.iload_n 1, 1) := by decide +kernel
theorem dL_trussOf_4 : decode cL_trussOf 4 = .ok (.iload_n 2, 1) := by decide +kernel
theorem dL_trussOf_5 : decode cL_trussOf 5 = .ok (.invokevirtual 82, 3) := by decide +kernel
theorem dL_trussOf_8 : decode cL_trussOf 8 = .ok (.i2l, 1) := by decide +kernel
theorem dL_trussOf_9 : decode cL_trussOf 9 = .ok (.lastore, 1) := by decide +kernel
theorem dL_trussOf_10 : decode cL_trussOf 10 = .ok (.goto 11, 3) := by decide +kernel
theorem dL_trussOf_13 : decode cL_trussOf 13 = .ok (.astore 4, 2) := by decide +kernel
theorem dL_trussOf_15 : decode cL_trussOf 15 = .ok (.iconst 1, 1) := by decide +kernel
theorem dL_trussOf_16 : decode cL_trussOf 16 = .ok (.ireturn, 1) := by decide +kernel
theorem dL_trussOf_17 : decode cL_trussOf 17 = .ok (.astore 4, 2) := by decide +kernel
theorem dL_trussOf_19 : decode cL_trussOf 19 = .ok (.iconst 2, 1) := by decide +kernel
theorem dL_trussOf_20 : decode cL_trussOf 20 = .ok (.ireturn, 1) := by decide +kernel
theorem dL_trussOf_21 : decode cL_trussOf 21 = .ok (.iconst 0, 1) := by decide +kernel
theorem dL_trussOf_22 : decode cL_trussOf 22 = .ok (.ireturn, 1) := by decide +kernel
set_option maxRecDepth 20000 in
theorem ggL_trussByRounds_X7_trussByRounds : GoodIn wsL_trussByRounds wsX7_trussByRounds := goodIn_ca (goodIn_ca (goodIn_r _ [7, 8, 9, 10, 11, 6, 12, 13, 14, 15, 16, 17, 18, 19, 20, 21, 22, 23, 24, 25, 26, 27, 28, 29, 30, 31, 32, 33, 34, 35, 36, 37, 38, 39, 40, 41, 42, 43, 44, 45, 46, 47, 48, 49, 50, 51, 52, 53, 54, 55, 56, 57, 58, 59, 60, 61, 62, 63, 64, 65, 66, 67, 68, 69, 70, 71, 72, 73, 74, 75, 76, 77, 78, 79, 80, 81, 82, 83, 84, 85, 86, 87, 88, 89, 90, 91, 92, 93, 94, 95, 96, 97, 98, 99, 100, 101, 102, 103, 104, 105, 106] (by decide +kernel) (by decide +kernel)) (goodIn_sub (fun _ h => List.mem_cons_of_mem _ (List.mem_append_left _ (List.mem_append_right _ h))) (by decide +kernel))) (goodIn_sub (fun _ h => List.mem_cons_of_mem _ (List.mem_append_right _ h)) (by decide +kernel))
set_option maxRecDepth 20000 in
theorem gL_trussByRounds_X7_trussByRounds : GoodIn wsL_trussByRounds (wsV RL 85 RX7 yX7_trussByRounds wsX7_trussByRounds) := goodIn_app (goodIn_of _ (by decide +kernel)) ggL_trussByRounds_X7_trussByRounds
theorem dL_trussByRounds_0 : decode cL_trussByRounds 0 = .ok (.aload_n 3, 1) := by decide +kernel
theorem dL_trussByRounds_1 : decode cL_trussByRounds 1 = .ok (.iconst 0, 1) := by decide +kernel
theorem dL_trussByRounds_2 : decode cL_trussByRounds 2 = .ok (.aload_n 0, 1) := by decide +kernel
theorem dL_trussByRounds_3 : decode cL_trussByRounds 3 = .ok (.iload_n 1, 1) := by decide +kernel
theorem dL_trussByRounds_4 : decode cL_trussByRounds 4 = .ok (.iload_n 2, 1) := by decide +kernel
theorem dL_trussByRounds_5 : decode cL_trussByRounds 5 = .ok (.invokevirtual 85, 3) := by decide +kernel
theorem dL_trussByRounds_8 : decode cL_trussByRounds 8 = .ok (.i2l, 1) := by decide +kernel
theorem dL_trussByRounds_9 : decode cL_trussByRounds 9 = .ok (.lastore, 1) := by decide +kernel
theorem dL_trussByRounds_10 : decode cL_trussByRounds 10 = .ok (.goto 11, 3) := by decide +kernel
theorem dL_trussByRounds_13 : decode cL_trussByRounds 13 = .ok (.astore 4, 2) := by decide +kernel
theorem dL_trussByRounds_15 : decode cL_trussByRounds 15 = .ok (.iconst 1, 1) := by decide +kernel
theorem dL_trussByRounds_16 : decode cL_trussByRounds 16 = .ok (.ireturn, 1) := by decide +kernel
theorem dL_trussByRounds_17 : decode cL_trussByRounds 17 = .ok (.astore 4, 2) := by decide +kernel
theorem dL_trussByRounds_19 : decode cL_trussByRounds 19 = .ok (.iconst 2, 1) := by decide +kernel
theorem dL_trussByRounds_20 : decode cL_trussByRounds 20 = .ok (.ireturn, 1) := by decide +kernel
theorem dL_trussByRounds_21 : decode cL_trussByRounds 21 = .ok (.iconst 0, 1) := by decide +kernel
theorem dL_trussByRounds_22 : decode cL_trussByRounds 22 = .ok (.ireturn, 1) := by decide +kernel
set_option maxRecDepth 20000 in
theorem ggL_trussSize_X7_trussSize : GoodIn wsL_trussSize wsX7_trussSize := goodIn_ca (goodIn_r _ [6, 7, 8, 9, 10, 5, 11, 12, 13, 14, 15, 16, 17, 18, 19, 20, 21, 22, 23, 24, 25, 26, 27, 28, 29, 30, 31, 32, 33, 34, 35, 36, 37, 38, 39, 40, 41, 42, 43, 44, 45, 46, 47, 48, 49, 50, 51, 52, 53, 54, 55, 56, 57, 58, 59, 60, 61, 62, 63, 64, 65, 66, 67, 68, 69, 70, 71, 72, 73, 74, 75, 76, 77] (by decide +kernel) (by decide +kernel)) (goodIn_sub (fun _ h => List.mem_cons_of_mem _ (List.mem_append_right _ h)) (by decide +kernel))
set_option maxRecDepth 20000 in
theorem gL_trussSize_X7_trussSize : GoodIn wsL_trussSize (wsV RL 88 RX7 yX7_trussSize wsX7_trussSize) := goodIn_app (goodIn_of _ (by decide +kernel)) ggL_trussSize_X7_trussSize
theorem dL_trussSize_0 : decode cL_trussSize 0 = .ok (.aload_n 2, 1) := by decide +kernel
theorem dL_trussSize_1 : decode cL_trussSize 1 = .ok (.iconst 0, 1) := by decide +kernel
theorem dL_trussSize_2 : decode cL_trussSize 2 = .ok (.aload_n 0, 1) := by decide +kernel
theorem dL_trussSize_3 : decode cL_trussSize 3 = .ok (.iload_n 1, 1) := by decide +kernel
theorem dL_trussSize_4 : decode cL_trussSize 4 = .ok (.invokevirtual 88, 3) := by decide +kernel
theorem dL_trussSize_7 : decode cL_trussSize 7 = .ok (.i2l, 1) := by decide +kernel
theorem dL_trussSize_8 : decode cL_trussSize 8 = .ok (.lastore, 1) := by decide +kernel
theorem dL_trussSize_9 : decode cL_trussSize 9 = .ok (.goto 6, 3) := by decide +kernel
theorem dL_trussSize_12 : decode cL_trussSize 12 = .ok (.astore_n 3, 1) := by decide +kernel
theorem dL_trussSize_13 : decode cL_trussSize 13 = .ok (.iconst 1, 1) := by decide +kernel
theorem dL_trussSize_14 : decode cL_trussSize 14 = .ok (.ireturn, 1) := by decide +kernel
theorem dL_trussSize_15 : decode cL_trussSize 15 = .ok (.iconst 0, 1) := by decide +kernel
theorem dL_trussSize_16 : decode cL_trussSize 16 = .ok (.ireturn, 1) := by decide +kernel
set_option maxRecDepth 20000 in
theorem ggL_colorOf_X7_colorOf : GoodIn wsL_colorOf wsX7_colorOf := goodIn_ca (goodIn_r _ [6, 7, 8, 9, 10, 5, 11, 12, 13, 14, 15, 16, 17, 18, 19, 20, 21, 22, 23, 24, 25, 26, 27, 28, 29, 30, 31, 32, 33, 34, 35, 36, 37, 38, 39, 40, 41, 42, 43, 44, 45, 46, 47, 48, 49, 50, 51, 52, 53, 54, 55, 56, 57, 58, 59, 60, 61, 62, 63, 64, 65, 66, 67, 68, 69, 70, 71, 72, 73, 74, 75, 76, 77, 78, 79, 80, 81, 82, 83, 84, 85, 86, 87, 88, 89, 90, 91, 92] (by decide +kernel) (by decide +kernel)) (goodIn_sub (fun _ h => List.mem_cons_of_mem _ (List.mem_append_right _ h)) (by decide +kernel))
set_option maxRecDepth 20000 in
theorem gL_colorOf_X7_colorOf : GoodIn wsL_colorOf (wsV RL 91 RX7 yX7_colorOf wsX7_colorOf) := goodIn_app (goodIn_of _ (by decide +kernel)) ggL_colorOf_X7_colorOf
theorem dL_colorOf_0 : decode cL_colorOf 0 = .ok (.aload_n 2, 1) := by decide +kernel
theorem dL_colorOf_1 : decode cL_colorOf 1 = .ok (.iconst 0, 1) := by decide +kernel
theorem dL_colorOf_2 : decode cL_colorOf 2 = .ok (.aload_n 0, 1) := by decide +kernel
theorem dL_colorOf_3 : decode cL_colorOf 3 = .ok (.iload_n 1, 1) := by decide +kernel
theorem dL_colorOf_4 : decode cL_colorOf 4 = .ok (.invokevirtual 91, 3) := by decide +kernel
theorem dL_colorOf_7 : decode cL_colorOf 7 = .ok (.i2l, 1) := by decide +kernel
theorem dL_colorOf_8 : decode cL_colorOf 8 = .ok (.lastore, 1) := by decide +kernel
theorem dL_colorOf_9 : decode cL_colorOf 9 = .ok (.goto 6, 3) := by decide +kernel
theorem dL_colorOf_12 : decode cL_colorOf 12 = .ok (.astore_n 3, 1) := by decide +kernel
theorem dL_colorOf_13 : decode cL_colorOf 13 = .ok (.iconst 1, 1) := by decide +kernel
theorem dL_colorOf_14 : decode cL_colorOf 14 = .ok (.ireturn, 1) := by decide +kernel
theorem dL_colorOf_15 : decode cL_colorOf 15 = .ok (.iconst 0, 1) := by decide +kernel
theorem dL_colorOf_16 : decode cL_colorOf 16 = .ok (.ireturn, 1) := by decide +kernel
