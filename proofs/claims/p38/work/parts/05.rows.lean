theorem dX7_colorOf_1 : decode cX7_colorOf 1 = .ok (.iload_n 1, 1) := by decide +kernel
theorem dX7_colorOf_2 : decode cX7_colorOf 2 = .ok (.invokevirtual 87, 3) := by decide +kernel
theorem dX7_colorOf_5 : decode cX7_colorOf 5 = .ok (.aload_n 0, 1) := by decide +kernel
theorem dX7_colorOf_6 : decode cX7_colorOf 6 = .ok (.getfield 62, 3) := by decide +kernel
theorem dX7_colorOf_9 : decode cX7_colorOf 9 = .ok (.iload_n 1, 1) := by decide +kernel
theorem dX7_colorOf_10 : decode cX7_colorOf 10 = .ok (.invokevirtual 232, 3) := by decide +kernel
theorem dX7_colorOf_13 : decode cX7_colorOf 13 = .ok (.ireturn, 1) := by decide +kernel
set_option maxRecDepth 20000 in
theorem ggX7_colors_X1_colorCount : GoodIn wsX7_colors wsX1_colorCount := goodIn_r _ [6, 7, 8, 9, 10, 11, 12, 13, 14, 15, 5, 16, 17, 18, 19, 20, 21, 22, 23, 24, 25, 26, 27, 28, 29, 30, 31, 32, 33, 34, 35, 36, 37, 38, 39, 40, 41, 42, 43, 44, 45, 46, 47, 48, 49, 50, 51, 52, 53, 54, 55, 56, 57, 58, 59, 60, 61, 62, 63, 64, 65, 74, 75, 76, 77, 78, 79, 80] (by decide +kernel) (by decide +kernel)
set_option maxRecDepth 20000 in
theorem gX7_colors_X1_colorCount : GoodIn wsX7_colors (wsV RX7 235 RX1 yX1_colorCount wsX1_colorCount) := goodIn_app (goodIn_of _ (by decide +kernel)) ggX7_colors_X1_colorCount
theorem dX7_colors_0 : decode cX7_colors 0 = .ok (.aload_n 0, 1) := by decide +kernel
theorem dX7_colors_1 : decode cX7_colors 1 = .ok (.getfield 62, 3) := by decide +kernel
theorem dX7_colors_4 : decode cX7_colors 4 = .ok (.invokevirtual 235, 3) := by decide +kernel
theorem dX7_colors_7 : decode cX7_colors 7 = .ok (.ireturn, 1) := by decide +kernel
set_option maxRecDepth 20000 in
theorem ggX7_greatestCore_X0_greatestUnpropped : GoodIn wsX7_greatestCore wsX0_greatestUnpropped := goodIn_r _ [6, 7, 8, 9, 10, 11, 12, 13, 14, 15, 16, 17, 18, 19, 5, 20, 21, 22, 23, 24, 25, 26, 27, 28, 29, 30, 31, 32, 33, 34, 35, 36, 37, 38, 39, 40, 41, 42, 43, 44, 45, 46, 55, 56, 57, 58, 59, 60] (by decide +kernel) (by decide +kernel)
set_option maxRecDepth 20000 in
theorem gX7_greatestCore_X0_greatestUnpropped : GoodIn wsX7_greatestCore (wsV RX7 238 RX0 yX0_greatestUnpropped wsX0_greatestUnpropped) := goodIn_app (goodIn_of _ (by decide +kernel)) ggX7_greatestCore_X0_greatestUnpropped
theorem dX7_greatestCore_0 : decode cX7_greatestCore 0 = .ok (.aload_n 0, 1) := by decide +kernel
theorem dX7_greatestCore_1 : decode cX7_greatestCore 1 = .ok (.getfield 48, 3) := by decide +kernel
theorem dX7_greatestCore_4 : decode cX7_greatestCore 4 = .ok (.invokevirtual 238, 3) := by decide +kernel
theorem dX7_greatestCore_7 : decode cX7_greatestCore 7 = .ok (.ireturn, 1) := by decide +kernel
set_option maxRecDepth 20000 in
theorem ggX7_averageNeighbors_X5_allThorns : GoodIn wsX7_averageNeighbors wsX5_allThorns := goodIn_r _ [6, 7, 8, 9, 10, 5, 11, 12, 13, 14, 15, 16, 17, 18, 19, 20, 21, 22, 23, 24, 25, 26, 27, 28, 37, 38, 39, 40] (by decide +kernel) (by decide +kernel)
set_option maxRecDepth 20000 in
theorem gX7_averageNeighbors_X5_allThorns : GoodIn wsX7_averageNeighbors (wsV RX7 170 RX5 yX5_allThorns wsX5_allThorns) := goodIn_app (goodIn_of _ (by decide +kernel)) ggX7_averageNeighbors_X5_allThorns
theorem dX7_averageNeighbors_0 : decode cX7_averageNeighbors 0 = .ok (.aload_n 0, 1) := by decide +kernel
theorem dX7_averageNeighbors_1 : decode cX7_averageNeighbors 1 = .ok (.getfield 10, 3) := by decide +kernel
theorem dX7_averageNeighbors_4 : decode cX7_averageNeighbors 4 = .ok (.getfield 83, 3) := by decide +kernel
theorem dX7_averageNeighbors_7 : decode cX7_averageNeighbors 7 = .ok (.ifCond .ne 5, 3) := by decide +kernel
theorem dX7_averageNeighbors_10 : decode cX7_averageNeighbors 10 = .ok (.fconst 0, 1) := by decide +kernel
theorem dX7_averageNeighbors_11 : decode cX7_averageNeighbors 11 = .ok (.freturn, 1) := by decide +kernel
theorem dX7_averageNeighbors_12 : decode cX7_averageNeighbors 12 = .ok (.iconst 2, 1) := by decide +kernel
theorem dX7_averageNeighbors_13 : decode cX7_averageNeighbors 13 = .ok (.aload_n 0, 1) := by decide +kernel
theorem dX7_averageNeighbors_14 : decode cX7_averageNeighbors 14 = .ok (.getfield 10, 3) := by decide +kernel
theorem dX7_averageNeighbors_17 : decode cX7_averageNeighbors 17 = .ok (.invokevirtual 170, 3) := by decide +kernel
theorem dX7_averageNeighbors_20 : decode cX7_averageNeighbors 20 = .ok (.imul, 1) := by decide +kernel
theorem dX7_averageNeighbors_21 : decode cX7_averageNeighbors 21 = .ok (.i2f, 1) := by decide +kernel
theorem dX7_averageNeighbors_22 : decode cX7_averageNeighbors 22 = .ok (.aload_n 0, 1) := by decide +kernel
theorem dX7_averageNeighbors_23 : decode cX7_averageNeighbors 23 = .ok (.getfield 10, 3) := by decide +kernel
theorem dX7_averageNeighbors_26 : decode cX7_averageNeighbors 26 = .ok (.getfield 83, 3) := by decide +kernel
theorem dX7_averageNeighbors_29 : decode cX7_averageNeighbors 29 = .ok (.i2f, 1) := by decide +kernel
theorem dX7_averageNeighbors_30 : decode cX7_averageNeighbors 30 = .ok (.fdiv, 1) := by decide +kernel
theorem dX7_averageNeighbors_31 : decode cX7_averageNeighbors 31 = .ok (.freturn, 1) := by decide +kernel
set_option maxRecDepth 20000 in
theorem ggX7_demandPlant_X5_has : GoodIn wsX7_demandPlant wsX5_has := goodIn_r _ [8, 9, 18, 19, 20] (by decide +kernel) (by decide +kernel)
set_option maxRecDepth 20000 in
theorem gX7_demandPlant_X5_has : GoodIn wsX7_demandPlant (wsV RX7 241 RX5 yX5_has wsX5_has) := goodIn_app (goodIn_of _ (by decide +kernel)) ggX7_demandPlant_X5_has
theorem dX7_demandPlant_0 : decode cX7_demandPlant 0 = .ok (.aload_n 0, 1) := by decide +kernel
theorem dX7_demandPlant_1 : decode cX7_demandPlant 1 = .ok (.getfield 10, 3) := by decide +kernel
theorem dX7_demandPlant_4 : decode cX7_demandPlant 4 = .ok (.iload_n 1, 1) := by decide +kernel
theorem dX7_demandPlant_5 : decode cX7_demandPlant 5 = .ok (.invokevirtual 241, 3) := by decide +kernel
theorem dX7_demandPlant_8 : decode cX7_demandPlant 8 = .ok (.ifCond .ne 13, 3) := by decide +kernel
theorem dX7_demandPlant_11 : decode cX7_demandPlant 11 = .ok (.new 244, 3) := by decide +kernel
theorem dX7_demandPlant_14 : decode cX7_demandPlant 14 = .ok (.dup, 1) := by decide +kernel
theorem dX7_demandPlant_15 : decode cX7_demandPlant 15 = .ok (.ldc 246, 2) := by decide +kernel
theorem dX7_demandPlant_17 : decode cX7_demandPlant 17 = .ok (.invokespecial 248, 3) := by decide +kernel
theorem dX7_demandPlant_20 : decode cX7_demandPlant 20 = .ok (.athrow, 1) := by decide +kernel
theorem dX7_demandPlant_21 : decode cX7_demandPlant 21 = .ok (.return_, 1) := by decide +kernel
set_option maxRecDepth 20000 in
theorem ggX7_demandTwoPlants_X7_demandPlant : GoodIn wsX7_demandTwoPlants wsX7_demandPlant := goodIn_ca (goodIn_r _ [7, 8, 9, 10, 11, 12, 13, 14, 15, 16, 17, 18, 19, 20, 21, 22, 23, 24, 25, 26, 27] (by decide +kernel) (by decide +kernel)) (goodIn_sub (fun _ h => List.mem_cons_of_mem _ (List.mem_append_right _ h)) (by decide +kernel))
set_option maxRecDepth 20000 in
theorem gX7_demandTwoPlants_X7_demandPlant : GoodIn wsX7_demandTwoPlants (wsV RX7 87 RX7 yX7_demandPlant wsX7_demandPlant) := goodIn_app (goodIn_of _ (by decide +kernel)) ggX7_demandTwoPlants_X7_demandPlant
theorem dX7_demandTwoPlants_0 : decode cX7_demandTwoPlants 0 = .ok (.aload_n 0, 1) := by decide +kernel
theorem dX7_demandTwoPlants_1 : decode cX7_demandTwoPlants 1 = .ok (.iload_n 1, 1) := by decide +kernel
theorem dX7_demandTwoPlants_2 : decode cX7_demandTwoPlants 2 = .ok (.invokevirtual 87, 3) := by decide +kernel
theorem dX7_demandTwoPlants_5 : decode cX7_demandTwoPlants 5 = .ok (.aload_n 0, 1) := by decide +kernel
theorem dX7_demandTwoPlants_6 : decode cX7_demandTwoPlants 6 = .ok (.iload_n 2, 1) := by decide +kernel
theorem dX7_demandTwoPlants_7 : decode cX7_demandTwoPlants 7 = .ok (.invokevirtual 87, 3) := by decide +kernel
theorem dX7_demandTwoPlants_10 : decode cX7_demandTwoPlants 10 = .ok (.iload_n 1, 1) := by decide +kernel
theorem dX7_demandTwoPlants_11 : decode cX7_demandTwoPlants 11 = .ok (.iload_n 2, 1) := by decide +kernel
theorem dX7_demandTwoPlants_12 : decode cX7_demandTwoPlants 12 = .ok (.if_icmp .ne 13, 3) := by decide +kernel
theorem dX7_demandTwoPlants_15 : decode cX7_demandTwoPlants 15 = .ok (.new 125, 3) := by decide +kernel
theorem dX7_demandTwoPlants_18 : decode cX7_demandTwoPlants 18 = .ok (.dup, 1) := by decide +kernel
theorem dX7_demandTwoPlants_19 : decode cX7_demandTwoPlants 19 = .ok (.ldc 249, 2) := by decide +kernel
theorem dX7_demandTwoPlants_21 : decode cX7_demandTwoPlants 21 = .ok (.invokespecial 129, 3) := by decide +kernel
theorem dX7_demandTwoPlants_24 : decode cX7_demandTwoPlants 24 = .ok (.athrow, 1) := by decide +kernel
theorem dX7_demandTwoPlants_25 : decode cX7_demandTwoPlants 25 = .ok (.return_, 1) := by decide +kernel
set_option maxRecDepth 20000 in
theorem ggX7_demandThorn_X7_demandPlant : GoodIn wsX7_demandThorn wsX7_demandPlant := goodIn_ca (goodIn_r _ [8, 9, 10, 3, 11, 12, 13, 14, 15, 16, 31, 32, 33, 34, 35, 36, 37, 38, 39, 40, 41] (by decide +kernel) (by decide +kernel)) (goodIn_sub (fun _ h => List.mem_cons_of_mem _ (List.mem_append_right _ h)) (by decide +kernel))
set_option maxRecDepth 20000 in
theorem gX7_demandThorn_X7_demandPlant : GoodIn wsX7_demandThorn (wsV RX7 87 RX7 yX7_demandPlant wsX7_demandPlant) := goodIn_app (goodIn_of _ (by decide +kernel)) ggX7_demandThorn_X7_demandPlant
set_option maxRecDepth 20000 in
theorem ggX7_demandThorn_X5_isBound : GoodIn wsX7_demandThorn wsX5_isBound := goodIn_r _ [20, 21, 22, 12, 13, 14, 15, 16, 23, 24, 25, 26, 27, 28, 29, 7, 30, 39, 40, 41, 42] (by decide +kernel) (by decide +kernel)
set_option maxRecDepth 20000 in
theorem gX7_demandThorn_X5_isBound : GoodIn wsX7_demandThorn (wsV RX7 101 RX5 yX5_isBound wsX5_isBound) := goodIn_app (goodIn_of _ (by decide +kernel)) ggX7_demandThorn_X5_isBound
theorem dX7_demandThorn_0 : decode cX7_demandThorn 0 = .ok (.aload_n 0, 1) := by decide +kernel
theorem dX7_demandThorn_1 : decode cX7_demandThorn 1 = .ok (.iload_n 1, 1) := by decide +kernel
theorem dX7_demandThorn_2 : decode cX7_demandThorn 2 = .ok (.invokevirtual 87, 3) := by decide +kernel
theorem dX7_demandThorn_5 : decode cX7_demandThorn 5 = .ok (.aload_n 0, 1) := by decide +kernel
theorem dX7_demandThorn_6 : decode cX7_demandThorn 6 = .ok (.iload_n 2, 1) := by decide +kernel
theorem dX7_demandThorn_7 : decode cX7_demandThorn 7 = .ok (.invokevirtual 87, 3) := by decide +kernel
theorem dX7_demandThorn_10 : decode cX7_demandThorn 10 = .ok (.aload_n 0, 1) := by decide +kernel
theorem dX7_demandThorn_11 : decode cX7_demandThorn 11 = .ok (.getfield 10, 3) := by decide +kernel
theorem dX7_demandThorn_14 : decode cX7_demandThorn 14 = .ok (.iload_n 1, 1) := by decide +kernel
theorem dX7_demandThorn_15 : decode cX7_demandThorn 15 = .ok (.iload_n 2, 1) := by decide +kernel
theorem dX7_demandThorn_16 : decode cX7_demandThorn 16 = .ok (.invokevirtual 101, 3) := by decide +kernel
theorem dX7_demandThorn_19 : decode cX7_demandThorn 19 = .ok (.ifCond .ne 13, 3) := by decide +kernel
theorem dX7_demandThorn_22 : decode cX7_demandThorn 22 = .ok (.new 215, 3) := by decide +kernel
theorem dX7_demandThorn_25 : decode cX7_demandThorn 25 = .ok (.dup, 1) := by decide +kernel
theorem dX7_demandThorn_26 : decode cX7_demandThorn 26 = .ok (.ldc 110, 2) := by decide +kernel
theorem dX7_demandThorn_28 : decode cX7_demandThorn 28 = .ok (.invokespecial 219, 3) := by decide +kernel
theorem dX7_demandThorn_31 : decode cX7_demandThorn 31 = .ok (.athrow, 1) := by decide +kernel
theorem dX7_demandThorn_32 : decode cX7_demandThorn 32 = .ok (.return_, 1) := by decide +kernel
theorem dX7_demandK_0 : decode cX7_demandK 0 = .ok (.iload_n 1, 1) := by decide +kernel
theorem dX7_demandK_1 : decode cX7_demandK 1 = .ok (.ifCond .lt 9, 3) := by decide +kernel
theorem dX7_demandK_4 : decode cX7_demandK 4 = .ok (.iload_n 1, 1) := by decide +kernel
theorem dX7_demandK_5 : decode cX7_demandK 5 = .ok (.bipush 15, 2) := by decide +kernel
theorem dX7_demandK_7 : decode cX7_demandK 7 = .ok (.if_icmp .le 13, 3) := by decide +kernel
theorem dX7_demandK_10 : decode cX7_demandK 10 = .ok (.new 125, 3) := by decide +kernel
theorem dX7_demandK_13 : decode cX7_demandK 13 = .ok (.dup, 1) := by decide +kernel
theorem dX7_demandK_14 : decode cX7_demandK 14 = .ok (.ldc 251, 2) := by decide +kernel
theorem dX7_demandK_16 : decode cX7_demandK 16 = .ok (.invokespecial 129, 3) := by decide +kernel
theorem dX7_demandK_19 : decode cX7_demandK 19 = .ok (.athrow, 1) := by decide +kernel
theorem dX7_demandK_20 : decode cX7_demandK 20 = .ok (.return_, 1) := by decide +kernel
theorem dX7_bit_0 : decode cX7_bit 0 = .ok (.iconst 1, 1) := by decide +kernel
theorem dX7_bit_1 : decode cX7_bit 1 = .ok (.iload_n 0, 1) := by decide +kernel
theorem dX7_bit_2 : decode cX7_bit 2 = .ok (.ishl, 1) := by decide +kernel
theorem dX7_bit_3 : decode cX7_bit 3 = .ok (.ireturn, 1) := by decide +kernel
theorem dX7_in_0 : decode cX7_in 0 = .ok (.iload_n 0, 1) := by decide +kernel
theorem dX7_in_1 : decode cX7_in 1 = .ok (.iload_n 1, 1) := by decide +kernel
theorem dX7_in_2 : decode cX7_in 2 = .ok (.iushr, 1) := by decide +kernel
theorem dX7_in_3 : decode cX7_in 3 = .ok (.iconst 1, 1) := by decide +kernel
theorem dX7_in_4 : decode cX7_in 4 = .ok (.iand, 1) := by decide +kernel
theorem dX7_in_5 : decode cX7_in 5 = .ok (.ifCond .eq 7, 3) := by decide +kernel
theorem dX7_in_8 : decode cX7_in 8 = .ok (.iconst 1, 1) := by decide +kernel
theorem dX7_in_9 : decode cX7_in 9 = .ok (.goto 4, 3) := by decide +kernel
theorem dX7_in_12 : decode cX7_in 12 = .ok (.iconst 0, 1) := by decide +kernel
theorem dX7_in_13 : decode cX7_in 13 = .ok (.ireturn, 1) := by decide +kernel
set_option maxRecDepth 20000 in
theorem ggX7_bits_J6_bitCount_0f7a4 : GoodIn wsX7_bits wsJ6_bitCount_0f7a4 := goodIn_r _ [4, 5, 6, 7] (by decide +kernel) (by decide +kernel)
set_option maxRecDepth 20000 in
theorem gX7_bits_J6_bitCount_0f7a4 : GoodIn wsX7_bits (va_wsS RX7 253 yJ6_bitCount_0f7a4 wsJ6_bitCount_0f7a4) := goodIn_app (goodIn_of _ (by decide +kernel)) ggX7_bits_J6_bitCount_0f7a4
theorem dX7_bits_0 : decode cX7_bits 0 = .ok (.iload_n 0, 1) := by decide +kernel
theorem dX7_bits_1 : decode cX7_bits 1 = .ok (.invokestatic 253, 3) := by decide +kernel
theorem dX7_bits_4 : decode cX7_bits 4 = .ok (.ireturn, 1) := by decide +kernel
theorem dJ6_bitCount_0f7a4_0 : decode cJ6_bitCount_0f7a4 0 = .ok (.iload_n 0, 1) := by decide +kernel
theorem dJ6_bitCount_0f7a4_1 : decode cJ6_bitCount_0f7a4 1 = .ok (.iload_n 0, 1) := by decide +kernel
theorem dJ6_bitCount_0f7a4_2 : decode cJ6_bitCount_0f7a4 2 = .ok (.iconst 1, 1) := by decide +kernel
theorem dJ6_bitCount_0f7a4_3 : decode cJ6_bitCount_0f7a4 3 = .ok (.iushr, 1) := by decide +kernel
theorem dJ6_bitCount_0f7a4_4 : decode cJ6_bitCount_0f7a4 4 = .ok (.ldc_w 265, 3) := by decide +kernel
theorem dJ6_bitCount_0f7a4_7 : decode cJ6_bitCount_0f7a4 7 = .ok (.iand, 1) := by decide +kernel
theorem dJ6_bitCount_0f7a4_8 : decode cJ6_bitCount_0f7a4 8 = .ok (.isub, 1) := by decide +kernel
theorem dJ6_bitCount_0f7a4_9 : decode cJ6_bitCount_0f7a4 9 = .ok (.istore_n 0, 1) := by decide +kernel
theorem dJ6_bitCount_0f7a4_10 : decode cJ6_bitCount_0f7a4 10 = .ok (.iload_n 0, 1) := by decide +kernel
theorem dJ6_bitCount_0f7a4_11 : decode cJ6_bitCount_0f7a4 11 = .ok (.ldc_w 266, 3) := by decide +kernel
theorem dJ6_bitCount_0f7a4_14 : decode cJ6_bitCount_0f7a4 14 = .ok (.iand, 1) := by decide +kernel
theorem dJ6_bitCount_0f7a4_15 : decode cJ6_bitCount_0f7a4 15 = .ok (.iload_n 0, 1) := by decide +kernel
theorem dJ6_bitCount_0f7a4_16 : decode cJ6_bitCount_0f7a4 16 = .ok (.iconst 2, 1) := by decide +kernel
theorem dJ6_bitCount_0f7a4_17 : decode cJ6_bitCount_0f7a4 17 = .ok (.iushr, 1) := by decide +kernel
theorem dJ6_bitCount_0f7a4_18 : decode cJ6_bitCount_0f7a4 18 = .ok (.ldc_w 266, 3) := by decide +kernel
theorem dJ6_bitCount_0f7a4_21 : decode cJ6_bitCount_0f7a4 21 = .ok (.iand, 1) := by decide +kernel
theorem dJ6_bitCount_0f7a4_22 : decode cJ6_bitCount_0f7a4 22 = .ok (.iadd, 1) := by decide +kernel
theorem dJ6_bitCount_0f7a4_23 : decode cJ6_bitCount_0f7a4 23 = .ok (.istore_n 0, 1) := by decide +kernel
theorem dJ6_bitCount_0f7a4_24 : decode cJ6_bitCount_0f7a4 24 = .ok (.iload_n 0, 1) := by decide +kernel
theorem dJ6_bitCount_0f7a4_25 : decode cJ6_bitCount_0f7a4 25 = .ok (.iload_n 0, 1) := by decide +kernel
theorem dJ6_bitCount_0f7a4_26 : decode cJ6_bitCount_0f7a4 26 = .ok (.iconst 4, 1) := by decide +kernel
theorem dJ6_bitCount_0f7a4_27 : decode cJ6_bitCount_0f7a4 27 = .ok (.iushr, 1) := by decide +kernel
theorem dJ6_bitCount_0f7a4_28 : decode cJ6_bitCount_0f7a4 28 = .ok (.iadd, 1) := by decide +kernel
theorem dJ6_bitCount_0f7a4_29 : decode cJ6_bitCount_0f7a4 29 = .ok (.ldc_w 267, 3) := by decide +kernel
theorem dJ6_bitCount_0f7a4_32 : decode cJ6_bitCount_0f7a4 32 = .ok (.iand, 1) := by decide +kernel
theorem dJ6_bitCount_0f7a4_33 : decode cJ6_bitCount_0f7a4 33 = .ok (.istore_n 0, 1) := by decide +kernel
theorem dJ6_bitCount_0f7a4_34 : decode cJ6_bitCount_0f7a4 34 = .ok (.iload_n 0, 1) := by decide +kernel
theorem dJ6_bitCount_0f7a4_35 : decode cJ6_bitCount_0f7a4 35 = .ok (.iload_n 0, 1) := by decide +kernel
theorem dJ6_bitCount_0f7a4_36 : decode cJ6_bitCount_0f7a4 36 = .ok (.bipush 8, 2) := by decide +kernel
theorem dJ6_bitCount_0f7a4_38 : decode cJ6_bitCount_0f7a4 38 = .ok (.iushr, 1) := by decide +kernel
theorem dJ6_bitCount_0f7a4_39 : decode cJ6_bitCount_0f7a4 39 = .ok (.iadd, 1) := by decide +kernel
theorem dJ6_bitCount_0f7a4_40 : decode cJ6_bitCount_0f7a4 40 = .ok (.istore_n 0, 1) := by decide +kernel
theorem dJ6_bitCount_0f7a4_41 : decode cJ6_bitCount_0f7a4 41 = .ok (.iload_n 0, 1) := by decide +kernel
theorem dJ6_bitCount_0f7a4_42 : decode cJ6_bitCount_0f7a4 42 = .ok (.iload_n 0, 1) := by decide +kernel
theorem dJ6_bitCount_0f7a4_43 : decode cJ6_bitCount_0f7a4 43 = .ok (.bipush 16, 2) := by decide +kernel
theorem dJ6_bitCount_0f7a4_45 : decode cJ6_bitCount_0f7a4 45 = .ok (.iushr, 1) := by decide +kernel
theorem dJ6_bitCount_0f7a4_46 : decode cJ6_bitCount_0f7a4 46 = .ok (.iadd, 1) := by decide +kernel
theorem dJ6_bitCount_0f7a4_47 : decode cJ6_bitCount_0f7a4 47 = .ok (.istore_n 0, 1) := by decide +kernel
theorem dJ6_bitCount_0f7a4_48 : decode cJ6_bitCount_0f7a4 48 = .ok (.iload_n 0, 1) := by decide +kernel
theorem dJ6_bitCount_0f7a4_49 : decode cJ6_bitCount_0f7a4 49 = .ok (.bipush 63, 2) := by decide +kernel
theorem dJ6_bitCount_0f7a4_51 : decode cJ6_bitCount_0f7a4 51 = .ok (.iand, 1) := by decide +kernel
theorem dJ6_bitCount_0f7a4_52 : decode cJ6_bitCount_0f7a4 52 = .ok (.ireturn, 1) := by decide +kernel
theorem dJ9_max_7cf53_0 : decode cJ9_max_7cf53 0 = .ok (.iload_n 0, 1) := by decide +kernel
theorem dJ9_max_7cf53_1 : decode cJ9_max_7cf53 1 = .ok (.iload_n 1, 1) := by decide +kernel
theorem dJ9_max_7cf53_2 : decode cJ9_max_7cf53 2 = .ok (.if_icmp .lt 7, 3) := by decide +kernel
theorem dJ9_max_7cf53_5 : decode cJ9_max_7cf53 5 = .ok (.iload_n 0, 1) := by decide +kernel
theorem dJ9_max_7cf53_6 : decode cJ9_max_7cf53 6 = .ok (.goto 4, 3) := by decide +kernel
theorem dJ9_max_7cf53_9 : decode cJ9_max_7cf53 9 = .ok (.iload_n 1, 1) := by decide +kernel
theorem dJ9_max_7cf53_10 : decode cJ9_max_7cf53 10 = .ok (.ireturn, 1) := by decide +kernel
theorem dJ9_min_7cf53_0 : decode cJ9_min_7cf53 0 = .ok (.iload_n 0, 1) := by decide +kernel
theorem dJ9_min_7cf53_1 : decode cJ9_min_7cf53 1 = .ok (.iload_n 1, 1) := by decide +kernel
theorem dJ9_min_7cf53_2 : decode cJ9_min_7cf53 2 = .ok (.if_icmp .gt 7, 3) := by decide +kernel
theorem dJ9_min_7cf53_5 : decode cJ9_min_7cf53 5 = .ok (.iload_n 0, 1) := by decide +kernel
theorem dJ9_min_7cf53_6 : decode cJ9_min_7cf53 6 = .ok (.goto 4, 3) := by decide +kernel
theorem dJ9_min_7cf53_9 : decode cJ9_min_7cf53 9 = .ok (.iload_n 1, 1) := by decide +kernel
theorem dJ9_min_7cf53_10 : decode cJ9_min_7cf53 10 = .ok (.ireturn, 1) := by decide +kernel
theorem dL_cell_0 : decode cL_cell 0 = .ok (.iload_n 1, 1) := by decide +kernel
theorem dL_cell_1 : decode cL_cell 1 = .ok (.aload_n 0, 1) := by decide +kernel
theorem dL_cell_2 : decode cL_cell 2 = .ok (.arraylength, 1) := by decide +kernel
theorem dL_cell_3 : decode cL_cell 3 = .ok (.if_icmp .ge 9, 3) := by decide +kernel
theorem dL_cell_6 : decode cL_cell 6 = .ok (.aload_n 0, 1) := by decide +kernel
theorem dL_cell_7 : decode cL_cell 7 = .ok (.iload_n 1, 1) := by decide +kernel
theorem dL_cell_8 : decode cL_cell 8 = .ok (.iaload, 1) := by decide +kernel
theorem dL_cell_9 : decode cL_cell 9 = .ok (.goto 15, 3) := by decide +kernel
theorem dL_cell_12 : decode cL_cell 12 = .ok (.sipush 7919, 3) := by decide +kernel
theorem dL_cell_15 : decode cL_cell 15 = .ok (.iload_n 1, 1) := by decide +kernel
theorem dL_cell_16 : decode cL_cell 16 = .ok (.iconst 3, 1) := by decide +kernel
theorem dL_cell_17 : decode cL_cell 17 = .ok (.iadd, 1) := by decide +kernel
theorem dL_cell_18 : decode cL_cell 18 = .ok (.imul, 1) := by decide +kernel
theorem dL_cell_19 : decode cL_cell 19 = .ok (.iload_n 1, 1) := by decide +kernel
theorem dL_cell_20 : decode cL_cell 20 = .ok (.bipush 11, 2) := by decide +kernel
theorem dL_cell_22 : decode cL_cell 22 = .ok (.iadd, 1) := by decide +kernel
theorem dL_cell_23 : decode cL_cell 23 = .ok (.imul, 1) := by decide +kernel
theorem dL_cell_24 : decode cL_cell 24 = .ok (.ireturn, 1) := by decide +kernel
theorem dL_low_0 : decode cL_low 0 = .ok (.iload_n 0, 1) := by decide +kernel
theorem dL_low_1 : decode cL_low 1 = .ok (.ldc 7, 2) := by decide +kernel
theorem dL_low_3 : decode cL_low 3 = .ok (.iand, 1) := by decide +kernel
theorem dL_low_4 : decode cL_low 4 = .ok (.iload_n 1, 1) := by decide +kernel
theorem dL_low_5 : decode cL_low 5 = .ok (.irem, 1) := by decide +kernel
theorem dL_low_6 : decode cL_low 6 = .ok (.ireturn, 1) := by decide +kernel
theorem dL_bits_0 : decode cL_bits 0 = .ok (.iconst 0, 1) := by decide +kernel
theorem dL_bits_1 : decode cL_bits 1 = .ok (.istore_n 1, 1) := by decide +kernel
theorem dL_bits_2 : decode cL_bits 2 = .ok (.iconst 0, 1) := by decide +kernel
theorem dL_bits_3 : decode cL_bits 3 = .ok (.istore_n 2, 1) := by decide +kernel
theorem dL_bits_4 : decode cL_bits 4 = .ok (.iload_n 2, 1) := by decide +kernel
theorem dL_bits_5 : decode cL_bits 5 = .ok (.bipush 16, 2) := by decide +kernel
theorem dL_bits_7 : decode cL_bits 7 = .ok (.if_icmp .ge 17, 3) := by decide +kernel
theorem dL_bits_10 : decode cL_bits 10 = .ok (.iload_n 1, 1) := by decide +kernel
theorem dL_bits_11 : decode cL_bits 11 = .ok (.iload_n 0, 1) := by decide +kernel
theorem dL_bits_12 : decode cL_bits 12 = .ok (.iload_n 2, 1) := by decide +kernel
theorem dL_bits_13 : decode cL_bits 13 = .ok (.ishr, 1) := by decide +kernel
theorem dL_bits_14 : decode cL_bits 14 = .ok (.iconst 1, 1) := by decide +kernel
theorem dL_bits_15 : decode cL_bits 15 = .ok (.iand, 1) := by decide +kernel
theorem dL_bits_16 : decode cL_bits 16 = .ok (.iadd, 1) := by decide +kernel
theorem dL_bits_17 : decode cL_bits 17 = .ok (.istore_n 1, 1) := by decide +kernel
theorem dL_bits_18 : decode cL_bits 18 = .ok (.iinc 2 1, 3) := by decide +kernel
theorem dL_bits_21 : decode cL_bits 21 = .ok (.goto (-17), 3) := by decide +kernel
theorem dL_bits_24 : decode cL_bits 24 = .ok (.iload_n 1, 1) := by decide +kernel
theorem dL_bits_25 : decode cL_bits 25 = .ok (.ireturn, 1) := by decide +kernel
set_option maxRecDepth 20000 in
theorem ggL_does_X7_plantCount : GoodIn wsL_does wsX7_plantCount := goodIn_r _ [5, 6, 192, 193, 194, 195, 196, 197, 198, 199, 200, 201, 202] (by decide +kernel) (by decide +kernel)
set_option maxRecDepth 20000 in
theorem gL_does_X7_plantCount : GoodIn wsL_does (wsV RL 8 RX7 yX7_plantCount wsX7_plantCount) := goodIn_app (goodIn_of _ (by decide +kernel)) ggL_does_X7_plantCount
set_option maxRecDepth 20000 in
theorem ggL_does_X7_plant : GoodIn wsL_does wsX7_plant := goodIn_ca (goodIn_r _ [10, 11, 12, 6, 13, 14, 15, 16, 17, 18, 19, 20, 21, 22, 23, 24, 25, 26, 27, 28, 29, 30, 31, 32, 33, 34, 35, 36, 37, 38, 39, 40, 41, 42, 43, 44, 45, 46, 47, 48, 49, 50, 51, 52, 192, 193, 194, 195, 196, 197, 198, 199, 200, 201, 202, 203, 204, 205, 206] (by decide +kernel) (by decide +kernel)) (goodIn_sub (fun _ h => List.mem_cons_of_mem _ (List.mem_append_left _ (List.mem_append_left _ (List.mem_append_left _ (List.mem_append_right _ h))))) (by decide +kernel))
set_option maxRecDepth 20000 in
theorem gL_does_X7_plant : GoodIn wsL_does (wsV RL 14 RX7 yX7_plant wsX7_plant) := goodIn_app (goodIn_of _ (by decide +kernel)) ggL_does_X7_plant
set_option maxRecDepth 20000 in
theorem ggL_does_X7_neighbors : GoodIn wsL_does wsX7_neighbors := goodIn_ca (goodIn_r _ [56, 6, 57, 58, 59, 4, 60, 61, 62, 63, 64, 65, 17, 66, 19, 67, 68, 69, 70, 37, 44, 45, 46, 41, 47, 43, 192, 193, 194, 195, 196, 197, 198, 199, 200, 201, 202, 206] (by decide +kernel) (by decide +kernel)) (goodIn_sub (fun _ h => List.mem_cons_of_mem _ (List.mem_append_left _ (List.mem_append_left _ (List.mem_append_right _ h)))) (by decide +kernel))
set_option maxRecDepth 20000 in
theorem gL_does_X7_neighbors : GoodIn wsL_does (wsV RL 17 RX7 yX7_neighbors wsX7_neighbors) := goodIn_app (goodIn_of _ (by decide +kernel)) ggL_does_X7_neighbors
set_option maxRecDepth 20000 in
theorem ggL_does_X7_isPropped : GoodIn wsL_does wsX7_isPropped := goodIn_ca (goodIn_r _ [74, 6, 57, 58, 59, 4, 60, 61, 62, 63, 64, 65, 17, 66, 19, 75, 76, 77, 78, 36, 79, 80, 81, 192, 193, 194, 195, 196, 197, 198, 199, 200, 201, 202] (by decide +kernel) (by decide +kernel)) (goodIn_sub (fun _ h => List.mem_cons_of_mem _ (List.mem_append_left _ (List.mem_append_left _ (List.mem_append_right _ h)))) (by decide +kernel))
set_option maxRecDepth 20000 in
theorem gL_does_X7_isPropped : GoodIn wsL_does (wsV RL 21 RX7 yX7_isPropped wsX7_isPropped) := goodIn_app (goodIn_of _ (by decide +kernel)) ggL_does_X7_isPropped
set_option maxRecDepth 20000 in
theorem ggL_does_L_low : GoodIn wsL_does wsL_low := goodIn_r _ [85, 86] (by decide +kernel) (by decide +kernel)
set_option maxRecDepth 20000 in
theorem gL_does_L_low : GoodIn wsL_does (va_wsS RL 25 yL_low wsL_low) := goodIn_app (goodIn_of _ (by decide +kernel)) ggL_does_L_low
set_option maxRecDepth 20000 in
theorem ggL_does_L_isUprooted : GoodIn wsL_does wsL_isUprooted := goodIn_ca (goodIn_r _ [89, 1, 2, 3, 4, 5, 6, 90, 91, 92, 93, 94, 95, 96, 17, 97, 19, 98, 99, 100, 101, 37, 44, 45, 46, 41, 47, 43, 102, 103, 104, 105, 106, 107, 108, 109, 110, 53, 54, 55, 56, 57, 58, 59, 60, 61, 62, 63, 64, 65, 66, 67, 68, 69, 70, 111, 112, 84, 113, 71, 72, 73, 74, 75, 76, 77, 78, 36, 79, 80, 81, 114, 115, 116, 117, 13, 20, 21, 22, 23, 24, 25, 26, 27, 28, 29, 30, 31, 32, 33, 34, 35, 38, 39, 40, 42, 118, 119, 120, 121, 122, 123, 124, 125, 126, 127, 192, 193, 194, 195, 196, 197, 198, 199, 200, 201, 202, 206, 203, 204, 205] (by decide +kernel) (by decide +kernel)) (goodIn_sub (fun _ h => List.mem_cons_of_mem _ (List.mem_append_left _ (List.mem_append_left _ (List.mem_append_right _ h)))) (by decide +kernel))
set_option maxRecDepth 20000 in
theorem gL_does_L_isUprooted : GoodIn wsL_does (va_wsS RL 31 yL_isUprooted wsL_isUprooted) := goodIn_app (goodIn_of _ (by decide +kernel)) ggL_does_L_isUprooted
set_option maxRecDepth 20000 in
theorem ggL_does_X7_switchProp : GoodIn wsL_does wsX7_switchProp := goodIn_ca (goodIn_r _ [131, 13, 6, 57, 58, 59, 4, 60, 61, 62, 63, 64, 65, 17, 66, 19, 20, 21, 22, 23, 24, 25, 26, 27, 28, 29, 30, 31, 32, 33, 34, 35, 36, 37, 38, 39, 40, 41, 42, 43, 44, 45, 46, 47, 132, 133, 134, 135, 79, 126, 127, 75, 76, 77, 78, 80, 81, 192, 193, 194, 195, 196, 197, 198, 199, 200, 201, 202, 203, 204, 205, 206] (by decide +kernel) (by decide +kernel)) (goodIn_sub (fun _ h => List.mem_cons_of_mem _ (List.mem_append_left _ (List.mem_append_left _ (List.mem_append_right _ h)))) (by decide +kernel))
set_option maxRecDepth 20000 in
theorem gL_does_X7_switchProp : GoodIn wsL_does (wsV RL 35 RX7 yX7_switchProp wsX7_switchProp) := goodIn_app (goodIn_of _ (by decide +kernel)) ggL_does_X7_switchProp
set_option maxRecDepth 20000 in
theorem ggL_does_L_isCut : GoodIn wsL_does wsL_isCut := goodIn_ca (goodIn_ca (goodIn_ca (goodIn_ca (goodIn_r _ [138, 90, 91, 92, 4, 93, 6, 94, 95, 96, 17, 97, 19, 98, 99, 100, 101, 37, 44, 45, 46, 41, 47, 43, 102, 103, 104, 105, 106, 107, 108, 109, 110, 139, 140, 141, 142, 143, 144, 145, 146, 147, 148, 149, 150, 79, 64, 65, 66, 80, 81, 151, 152, 153, 154, 155, 156, 157, 158, 159, 160, 57, 58, 59, 60, 61, 62, 63, 161, 162, 163, 164, 165, 166, 53, 54, 55, 56, 67, 68, 69, 70, 111, 112, 84, 113, 167, 168, 169, 170, 11, 12, 13, 171, 172, 173, 174, 175, 176, 20, 21, 22, 23, 24, 25, 26, 27, 28, 29, 30, 31, 32, 33, 34, 35, 36, 38, 39, 40, 42, 177, 178, 179, 180, 126, 127, 118, 192, 193, 194, 195, 196, 197, 198, 199, 200, 201, 202, 206, 203, 204, 205] (by decide +kernel) (by decide +kernel)) (goodIn_sub (fun _ h => List.mem_cons_of_mem _ (List.mem_append_left _ (List.mem_append_right _ h))) (by decide +kernel))) (goodIn_sub (fun _ h => List.mem_cons_of_mem _ (List.mem_append_left _ (List.mem_append_left _ (List.mem_append_right _ h)))) (by decide +kernel))) (goodIn_sub (fun _ h => List.mem_cons_of_mem _ (List.mem_append_left _ (List.mem_append_left _ (List.mem_append_left _ (List.mem_append_right _ h))))) (by decide +kernel))) (goodIn_sub (fun _ h => List.mem_cons_of_mem _ (List.mem_append_right _ h)) (by decide +kernel))
set_option maxRecDepth 20000 in
theorem gL_does_L_isCut : GoodIn wsL_does (va_wsS RL 38 yL_isCut wsL_isCut) := goodIn_app (goodIn_of _ (by decide +kernel)) ggL_does_L_isCut
set_option maxRecDepth 20000 in
theorem ggL_does_L_isBound : GoodIn wsL_does wsL_isBound := goodIn_ca (goodIn_ca (goodIn_ca (goodIn_ca (goodIn_r _ [183, 90, 91, 92, 4, 93, 6, 94, 95, 96, 17, 97, 19, 98, 99, 100, 101, 37, 44, 45, 46, 41, 47, 43, 102, 103, 104, 105, 106, 107, 108, 109, 110, 139, 140, 141, 142, 143, 144, 145, 146, 147, 148, 149, 150, 79, 64, 65, 66, 80, 81, 53, 54, 55, 56, 57, 58, 59, 60, 61, 62, 63, 67, 68, 69, 70, 111, 112, 84, 113, 184, 185, 186, 187, 11, 12, 13, 171, 172, 173, 174, 175, 176, 161, 20, 21, 22, 23, 24, 25, 26, 27, 28, 29, 30, 31, 32, 33, 34, 35, 36, 38, 39, 40, 42, 188, 189, 190, 191, 126, 127, 118, 151, 152, 153, 154, 155, 156, 157, 158, 159, 160, 162, 163, 164, 165, 166, 192, 193, 194, 195, 196, 197, 198, 199, 200, 201, 202, 206, 203, 204, 205] (by decide +kernel) (by decide +kernel)) (goodIn_sub (fun _ h => List.mem_cons_of_mem _ (List.mem_append_left _ (List.mem_append_left _ (List.mem_append_right _ h)))) (by decide +kernel))) (goodIn_sub (fun _ h => List.mem_cons_of_mem _ (List.mem_append_left _ (List.mem_append_left _ (List.mem_append_left _ (List.mem_append_right _ h))))) (by decide +kernel))) (goodIn_sub (fun _ h => List.mem_cons_of_mem _ (List.mem_append_right _ h)) (by decide +kernel))) (goodIn_sub (fun _ h => List.mem_cons_of_mem _ (List.mem_append_left _ (List.mem_append_right _ h))) (by decide +kernel))
set_option maxRecDepth 20000 in
theorem gL_does_L_isBound : GoodIn wsL_does (va_wsS RL 42 yL_isBound wsL_isBound) := goodIn_app (goodIn_of _ (by decide +kernel)) ggL_does_L_isBound
theorem dL_does_0 : decode cL_does 0 = .ok (.aload_n 0, 1) := by decide +kernel
theorem dL_does_1 : decode cL_does 1 = .ok (.invokevirtual 8, 3) := by decide +kernel
theorem dL_does_4 : decode cL_does 4 = .ok (.istore_n 3, 1) := by decide +kernel
theorem dL_does_5 : decode cL_does 5 = .ok (.iload_n 3, 1) := by decide +kernel
theorem dL_does_6 : decode cL_does 6 = .ok (.iconst 4, 1) := by decide +kernel
theorem dL_does_7 : decode cL_does 7 = .ok (.if_icmp .lt 16, 3) := by decide +kernel
theorem dL_does_10 : decode cL_does 10 = .ok (.iload_n 1, 1) := by decide +kernel
theorem dL_does_11 : decode cL_does 11 = .ok (.bipush 15, 2) := by decide +kernel
theorem dL_does_13 : decode cL_does 13 = .ok (.iand, 1) := by decide +kernel
theorem dL_does_14 : decode cL_does 14 = .ok (.ifCond .ne 49, 3) := by decide +kernel
theorem dL_does_17 : decode cL_does 17 = .ok (.iload_n 3, 1) := by decide +kernel
theorem dL_does_18 : decode cL_does 18 = .ok (.bipush 16, 2) := by decide +kernel
theorem dL_does_20 : decode cL_does 20 = .ok (.if_icmp .ge 43, 3) := by decide +kernel
theorem dL_does_23 : decode cL_does 23 = .ok (.aload_n 0, 1) := by decide +kernel
theorem dL_does_24 : decode cL_does 24 = .ok (.invokevirtual 14, 3) := by decide +kernel
theorem dL_does_27 : decode cL_does 27 = .ok (.iload_n 3, 1) := by decide +kernel
theorem dL_does_28 : decode cL_does 28 = .ok (.if_icmp .ne 33, 3) := by decide +kernel
theorem dL_does_31 : decode cL_does 31 = .ok (.aload_n 0, 1) := by decide +kernel
theorem dL_does_32 : decode cL_does 32 = .ok (.invokevirtual 8, 3) := by decide +kernel
theorem dL_does_35 : decode cL_does 35 = .ok (.iload_n 3, 1) := by decide +kernel
theorem dL_does_36 : decode cL_does 36 = .ok (.iconst 1, 1) := by decide +kernel
theorem dL_does_37 : decode cL_does 37 = .ok (.iadd, 1) := by decide +kernel
theorem dL_does_38 : decode cL_does 38 = .ok (.if_icmp .ne 23, 3) := by decide +kernel
theorem dL_does_41 : decode cL_does 41 = .ok (.aload_n 0, 1) := by decide +kernel
theorem dL_does_42 : decode cL_does 42 = .ok (.iload_n 3, 1) := by decide +kernel
theorem dL_does_43 : decode cL_does 43 = .ok (.invokevirtual 17, 3) := by decide +kernel
theorem dL_does_46 : decode cL_does 46 = .ok (.ifCond .ne 15, 3) := by decide +kernel
theorem dL_does_49 : decode cL_does 49 = .ok (.aload_n 0, 1) := by decide +kernel
theorem dL_does_50 : decode cL_does 50 = .ok (.iload_n 3, 1) := by decide +kernel
theorem dL_does_51 : decode cL_does 51 = .ok (.invokevirtual 21, 3) := by decide +kernel
theorem dL_does_54 : decode cL_does 54 = .ok (.ifCond .ne 7, 3) := by decide +kernel
theorem dL_does_57 : decode cL_does 57 = .ok (.iconst 1, 1) := by decide +kernel
theorem dL_does_58 : decode cL_does 58 = .ok (.goto 4, 3) := by decide +kernel
theorem dL_does_61 : decode cL_does 61 = .ok (.iconst 0, 1) := by decide +kernel
theorem dL_does_62 : decode cL_does 62 = .ok (.ireturn, 1) := by decide +kernel
theorem dL_does_63 : decode cL_does 63 = .ok (.iload_n 1, 1) := by decide +kernel
theorem dL_does_64 : decode cL_does 64 = .ok (.iconst 4, 1) := by decide +kernel
theorem dL_does_65 : decode cL_does 65 = .ok (.ishr, 1) := by decide +kernel
theorem dL_does_66 : decode cL_does 66 = .ok (.iload_n 3, 1) := by decide +kernel
theorem dL_does_67 : decode cL_does 67 = .ok (.invokestatic 25, 3) := by decide +kernel
theorem dL_does_70 : decode cL_does 70 = .ok (.istore 4, 2) := by decide +kernel
theorem dL_does_72 : decode cL_does 72 = .ok (.iload 4, 2) := by decide +kernel
theorem dL_does_74 : decode cL_does 74 = .ok (.iconst 1, 1) := by decide +kernel
theorem dL_does_75 : decode cL_does 75 = .ok (.iadd, 1) := by decide +kernel
theorem dL_does_76 : decode cL_does 76 = .ok (.iload_n 2, 1) := by decide +kernel
theorem dL_does_77 : decode cL_does 77 = .ok (.iload_n 3, 1) := by decide +kernel
theorem dL_does_78 : decode cL_does 78 = .ok (.iconst 1, 1) := by decide +kernel
theorem dL_does_79 : decode cL_does 79 = .ok (.isub, 1) := by decide +kernel
theorem dL_does_80 : decode cL_does 80 = .ok (.invokestatic 25, 3) := by decide +kernel
theorem dL_does_83 : decode cL_does 83 = .ok (.iadd, 1) := by decide +kernel
theorem dL_does_84 : decode cL_does 84 = .ok (.iload_n 3, 1) := by decide +kernel
theorem dL_does_85 : decode cL_does 85 = .ok (.irem, 1) := by decide +kernel
theorem dL_does_86 : decode cL_does 86 = .ok (.istore 5, 2) := by decide +kernel
theorem dL_does_88 : decode cL_does 88 = .ok (.iload_n 1, 1) := by decide +kernel
theorem dL_does_89 : decode cL_does 89 = .ok (.bipush 15, 2) := by decide +kernel
theorem dL_does_91 : decode cL_does 91 = .ok (.iand, 1) := by decide +kernel
theorem dL_does_92 : decode cL_does 92 = .ok (.tableswitch 131 1 5 #[36, 64, 64, 100, 100], 36) := by decide +kernel
theorem dL_does_128 : decode cL_does 128 = .ok (.iload_n 2, 1) := by decide +kernel
theorem dL_does_129 : decode cL_does 129 = .ok (.bipush 7, 2) := by decide +kernel
theorem dL_does_131 : decode cL_does 131 = .ok (.iand, 1) := by decide +kernel
theorem dL_does_132 : decode cL_does 132 = .ok (.ifCond .gt 18, 3) := by decide +kernel
theorem dL_does_135 : decode cL_does 135 = .ok (.iload_n 3, 1) := by decide +kernel
theorem dL_does_136 : decode cL_does 136 = .ok (.bipush 6, 2) := by decide +kernel
theorem dL_does_138 : decode cL_does 138 = .ok (.if_icmp .lt 12, 3) := by decide +kernel
theorem dL_does_141 : decode cL_does 141 = .ok (.aload_n 0, 1) := by decide +kernel
theorem dL_does_142 : decode cL_does 142 = .ok (.iload 4, 2) := by decide +kernel
theorem dL_does_144 : decode cL_does 144 = .ok (.invokestatic 31, 3) := by decide +kernel
theorem dL_does_147 : decode cL_does 147 = .ok (.ifCond .eq 7, 3) := by decide +kernel
theorem dL_does_150 : decode cL_does 150 = .ok (.iconst 1, 1) := by decide +kernel
theorem dL_does_151 : decode cL_does 151 = .ok (.goto 4, 3) := by decide +kernel
theorem dL_does_154 : decode cL_does 154 = .ok (.iconst 0, 1) := by decide +kernel
theorem dL_does_155 : decode cL_does 155 = .ok (.ireturn, 1) := by decide +kernel
theorem dL_does_156 : decode cL_does 156 = .ok (.aload_n 0, 1) := by decide +kernel
theorem dL_does_157 : decode cL_does 157 = .ok (.iload 4, 2) := by decide +kernel
theorem dL_does_159 : decode cL_does 159 = .ok (.invokevirtual 21, 3) := by decide +kernel
theorem dL_does_162 : decode cL_does 162 = .ok (.istore 6, 2) := by decide +kernel
theorem dL_does_164 : decode cL_does 164 = .ok (.aload_n 0, 1) := by decide +kernel
theorem dL_does_165 : decode cL_does 165 = .ok (.iload 4, 2) := by decide +kernel
theorem dL_does_167 : decode cL_does 167 = .ok (.invokevirtual 35, 3) := by decide +kernel
theorem dL_does_170 : decode cL_does 170 = .ok (.iload 6, 2) := by decide +kernel
theorem dL_does_172 : decode cL_does 172 = .ok (.if_icmp .eq 18, 3) := by decide +kernel
theorem dL_does_175 : decode cL_does 175 = .ok (.aload_n 0, 1) := by decide +kernel
theorem dL_does_176 : decode cL_does 176 = .ok (.iload 4, 2) := by decide +kernel
theorem dL_does_178 : decode cL_does 178 = .ok (.invokevirtual 21, 3) := by decide +kernel
theorem dL_does_181 : decode cL_does 181 = .ok (.iload 6, 2) := by decide +kernel
theorem dL_does_183 : decode cL_does 183 = .ok (.if_icmp .eq 7, 3) := by decide +kernel
theorem dL_does_186 : decode cL_does 186 = .ok (.iconst 1, 1) := by decide +kernel
theorem dL_does_187 : decode cL_does 187 = .ok (.goto 4, 3) := by decide +kernel
theorem dL_does_190 : decode cL_does 190 = .ok (.iconst 0, 1) := by decide +kernel
theorem dL_does_191 : decode cL_does 191 = .ok (.ireturn, 1) := by decide +kernel
theorem dL_does_192 : decode cL_does 192 = .ok (.aload_n 0, 1) := by decide +kernel
theorem dL_does_193 : decode cL_does 193 = .ok (.iload 4, 2) := by decide +kernel
theorem dL_does_195 : decode cL_does 195 = .ok (.invokevirtual 17, 3) := by decide +kernel
theorem dL_does_198 : decode cL_does 198 = .ok (.iload 5, 2) := by decide +kernel
theorem dL_does_200 : decode cL_does 200 = .ok (.ishr, 1) := by decide +kernel
theorem dL_does_201 : decode cL_does 201 = .ok (.iconst 1, 1) := by decide +kernel
theorem dL_does_202 : decode cL_does 202 = .ok (.iand, 1) := by decide +kernel
theorem dL_does_203 : decode cL_does 203 = .ok (.ifCond .eq 14, 3) := by decide +kernel
theorem dL_does_206 : decode cL_does 206 = .ok (.aload_n 0, 1) := by decide +kernel
theorem dL_does_207 : decode cL_does 207 = .ok (.iload 4, 2) := by decide +kernel
theorem dL_does_209 : decode cL_does 209 = .ok (.iload 5, 2) := by decide +kernel
theorem dL_does_211 : decode cL_does 211 = .ok (.invokestatic 38, 3) := by decide +kernel
theorem dL_does_214 : decode cL_does 214 = .ok (.ifCond .eq 7, 3) := by decide +kernel
theorem dL_does_217 : decode cL_does 217 = .ok (.iconst 1, 1) := by decide +kernel
theorem dL_does_218 : decode cL_does 218 = .ok (.goto 4, 3) := by decide +kernel
theorem dL_does_221 : decode cL_does 221 = .ok (.iconst 0, 1) := by decide +kernel
theorem dL_does_222 : decode cL_does 222 = .ok (.ireturn, 1) := by decide +kernel
theorem dL_does_223 : decode cL_does 223 = .ok (.aload_n 0, 1) := by decide +kernel
theorem dL_does_224 : decode cL_does 224 = .ok (.iload 4, 2) := by decide +kernel
theorem dL_does_226 : decode cL_does 226 = .ok (.invokevirtual 17, 3) := by decide +kernel
theorem dL_does_229 : decode cL_does 229 = .ok (.iload 5, 2) := by decide +kernel
theorem dL_does_231 : decode cL_does 231 = .ok (.ishr, 1) := by decide +kernel
theorem dL_does_232 : decode cL_does 232 = .ok (.iconst 1, 1) := by decide +kernel
theorem dL_does_233 : decode cL_does 233 = .ok (.iand, 1) := by decide +kernel
theorem dL_does_234 : decode cL_does 234 = .ok (.iconst 1, 1) := by decide +kernel
theorem dL_does_235 : decode cL_does 235 = .ok (.if_icmp .eq 14, 3) := by decide +kernel
theorem dL_does_238 : decode cL_does 238 = .ok (.aload_n 0, 1) := by decide +kernel
theorem dL_does_239 : decode cL_does 239 = .ok (.iload 4, 2) := by decide +kernel
theorem dL_does_241 : decode cL_does 241 = .ok (.iload 5, 2) := by decide +kernel
theorem dL_does_243 : decode cL_does 243 = .ok (.invokestatic 42, 3) := by decide +kernel
theorem dL_does_246 : decode cL_does 246 = .ok (.ifCond .eq 7, 3) := by decide +kernel
theorem dL_does_249 : decode cL_does 249 = .ok (.iconst 1, 1) := by decide +kernel
theorem dL_does_250 : decode cL_does 250 = .ok (.goto 4, 3) := by decide +kernel
theorem dL_does_253 : decode cL_does 253 = .ok (.iconst 0, 1) := by decide +kernel
theorem dL_does_254 : decode cL_does 254 = .ok (.ireturn, 1) := by decide +kernel
set_option maxRecDepth 20000 in
theorem ggL_isBound_X7_thornCount : GoodIn wsL_isBound wsX7_thornCount := goodIn_r _ [5, 6, 7, 8, 9, 10, 11, 12, 13, 14, 15, 16, 17, 18, 19, 20, 21, 22, 23, 24, 4, 25, 26, 27, 28, 29, 30, 31, 32, 127, 128, 129, 130, 131, 132, 133, 134, 135, 136, 137, 138] (by decide +kernel) (by decide +kernel)
set_option maxRecDepth 20000 in
theorem gL_isBound_X7_thornCount : GoodIn wsL_isBound (wsV RL 45 RX7 yX7_thornCount wsX7_thornCount) := goodIn_app (goodIn_of _ (by decide +kernel)) ggL_isBound_X7_thornCount
set_option maxRecDepth 20000 in
theorem ggL_isBound_X7_triangles : GoodIn wsL_isBound wsX7_triangles := goodIn_r _ [36, 6, 37, 38, 39, 10, 40, 41, 42, 43, 44, 17, 45, 46, 47, 48, 12, 18, 19, 20, 21, 22, 23, 49, 4, 50, 127, 128, 129, 130, 131, 132, 133, 134, 135, 136, 137, 138] (by decide +kernel) (by decide +kernel)
set_option maxRecDepth 20000 in
theorem gL_isBound_X7_triangles : GoodIn wsL_isBound (wsV RL 48 RX7 yX7_triangles wsX7_triangles) := goodIn_app (goodIn_of _ (by decide +kernel)) ggL_isBound_X7_triangles
set_option maxRecDepth 20000 in
theorem ggL_isBound_X7_neighbors : GoodIn wsL_isBound wsX7_neighbors := goodIn_ca (goodIn_r _ [54, 6, 55, 56, 57, 4, 58, 59, 60, 61, 46, 47, 10, 48, 12, 62, 63, 64, 65, 17, 18, 19, 20, 21, 22, 23, 127, 128, 129, 130, 131, 132, 133, 134, 135, 136, 137, 138] (by decide +kernel) (by decide +kernel)) (goodIn_sub (fun _ h => List.mem_cons_of_mem _ (List.mem_append_left _ (List.mem_append_left _ (List.mem_append_left _ (List.mem_append_right _ h))))) (by decide +kernel))
set_option maxRecDepth 20000 in
theorem gL_isBound_X7_neighbors : GoodIn wsL_isBound (wsV RL 17 RX7 yX7_neighbors wsX7_neighbors) := goodIn_app (goodIn_of _ (by decide +kernel)) ggL_isBound_X7_neighbors
set_option maxRecDepth 20000 in
theorem ggL_isBound_L_bits : GoodIn wsL_isBound wsL_bits := goodIn_r _ [69] (by decide +kernel) (by decide +kernel)
set_option maxRecDepth 20000 in
theorem gL_isBound_L_bits : GoodIn wsL_isBound (va_wsS RL 51 yL_bits wsL_bits) := goodIn_app (goodIn_of _ (by decide +kernel)) ggL_isBound_L_bits
set_option maxRecDepth 20000 in
theorem ggL_isBound_X7_bind : GoodIn wsL_isBound wsX7_bind := goodIn_ca (goodIn_ca (goodIn_ca (goodIn_r _ [73, 74, 75, 6, 76, 77, 78, 79, 4, 80, 81, 82, 55, 56, 57, 58, 59, 60, 61, 46, 47, 10, 48, 12, 83, 42, 43, 44, 17, 45, 18, 19, 20, 21, 22, 23, 49, 50, 84, 85, 86, 87, 88, 89, 90, 91, 92, 93, 94, 95, 96, 97, 98, 99, 100, 101, 102, 103, 104, 105, 106, 107, 108, 41, 109, 110, 111, 14, 15, 16, 24, 25, 26, 27, 28, 29, 30, 31, 32, 127, 128, 129, 130, 131, 132, 133, 134, 135, 136, 137, 138, 139, 140, 141] (by decide +kernel) (by decide +kernel)) (goodIn_sub (fun _ h => List.mem_cons_of_mem _ (List.mem_append_left _ (List.mem_append_left _ (List.mem_append_right _ h)))) (by decide +kernel))) (goodIn_sub (fun _ h => List.mem_cons_of_mem _ (List.mem_append_left _ (List.mem_append_right _ h))) (by decide +kernel))) (goodIn_sub (fun _ h => List.mem_cons_of_mem _ (List.mem_append_left _ (List.mem_append_left _ (List.mem_append_left _ (List.mem_append_right _ h))))) (by decide +kernel))
set_option maxRecDepth 20000 in
theorem gL_isBound_X7_bind : GoodIn wsL_isBound (wsV RL 54 RX7 yX7_bind wsX7_bind) := goodIn_app (goodIn_of _ (by decide +kernel)) ggL_isBound_X7_bind
set_option maxRecDepth 20000 in
theorem ggL_isBound_X7_support : GoodIn wsL_isBound wsX7_support := goodIn_ca (goodIn_ca (goodIn_r _ [115, 6, 116, 117, 118, 4, 119, 120, 121, 55, 56, 57, 58, 59, 60, 61, 46, 47, 10, 48, 12, 83, 42, 43, 44, 17, 45, 18, 19, 20, 21, 22, 23, 49, 50, 122, 123, 124, 125, 126, 24, 25, 26, 27, 28, 29, 30, 31, 32, 127, 128, 129, 130, 131, 132, 133, 134, 135, 136, 137, 138] (by decide +kernel) (by decide +kernel)) (goodIn_sub (fun _ h => List.mem_cons_of_mem _ (List.mem_append_right _ h)) (by decide +kernel))) (goodIn_sub (fun _ h => List.mem_cons_of_mem _ (List.mem_append_left _ (List.mem_append_left _ (List.mem_append_left _ (List.mem_append_right _ h))))) (by decide +kernel))
set_option maxRecDepth 20000 in
theorem gL_isBound_X7_support : GoodIn wsL_isBound (wsV RL 57 RX7 yX7_support wsX7_support) := goodIn_app (goodIn_of _ (by decide +kernel)) ggL_isBound_X7_support
theorem dL_isBound_0 : decode cL_isBound 0 = .ok (.aload_n 0, 1) := by decide +kernel
theorem dL_isBound_1 : decode cL_isBound 1 = .ok (.invokevirtual 45, 3) := by decide +kernel
theorem dL_isBound_4 : decode cL_isBound 4 = .ok (.istore_n 3, 1) := by decide +kernel
theorem dL_isBound_5 : decode cL_isBound 5 = .ok (.aload_n 0, 1) := by decide +kernel
theorem dL_isBound_6 : decode cL_isBound 6 = .ok (.invokevirtual 48, 3) := by decide +kernel
theorem dL_isBound_9 : decode cL_isBound 9 = .ok (.istore 4, 2) := by decide +kernel
theorem dL_isBound_11 : decode cL_isBound 11 = .ok (.aload_n 0, 1) := by decide +kernel
theorem dL_isBound_12 : decode cL_isBound 12 = .ok (.iload_n 1, 1) := by decide +kernel
theorem dL_isBound_13 : decode cL_isBound 13 = .ok (.invokevirtual 17, 3) := by decide +kernel
theorem dL_isBound_16 : decode cL_isBound 16 = .ok (.aload_n 0, 1) := by decide +kernel
theorem dL_isBound_17 : decode cL_isBound 17 = .ok (.iload_n 2, 1) := by decide +kernel
theorem dL_isBound_18 : decode cL_isBound 18 = .ok (.invokevirtual 17, 3) := by decide +kernel
theorem dL_isBound_21 : decode cL_isBound 21 = .ok (.iand, 1) := by decide +kernel
theorem dL_isBound_22 : decode cL_isBound 22 = .ok (.invokestatic 51, 3) := by decide +kernel
theorem dL_isBound_25 : decode cL_isBound 25 = .ok (.istore 5, 2) := by decide +kernel
theorem dL_isBound_27 : decode cL_isBound 27 = .ok (.aload_n 0, 1) := by decide +kernel
theorem dL_isBound_28 : decode cL_isBound 28 = .ok (.iload_n 1, 1) := by decide +kernel
theorem dL_isBound_29 : decode cL_isBound 29 = .ok (.invokevirtual 17, 3) := by decide +kernel
theorem dL_isBound_32 : decode cL_isBound 32 = .ok (.invokestatic 51, 3) := by decide +kernel
theorem dL_isBound_35 : decode cL_isBound 35 = .ok (.istore 6, 2) := by decide +kernel
theorem dL_isBound_37 : decode cL_isBound 37 = .ok (.aload_n 0, 1) := by decide +kernel
theorem dL_isBound_38 : decode cL_isBound 38 = .ok (.iload_n 1, 1) := by decide +kernel
theorem dL_isBound_39 : decode cL_isBound 39 = .ok (.iload_n 2, 1) := by decide +kernel
theorem dL_isBound_40 : decode cL_isBound 40 = .ok (.invokevirtual 54, 3) := by decide +kernel
theorem dL_isBound_43 : decode cL_isBound 43 = .ok (.iload 6, 2) := by decide +kernel
theorem dL_isBound_45 : decode cL_isBound 45 = .ok (.iconst 1, 1) := by decide +kernel
theorem dL_isBound_46 : decode cL_isBound 46 = .ok (.iadd, 1) := by decide +kernel
theorem dL_isBound_47 : decode cL_isBound 47 = .ok (.if_icmp .ne 51, 3) := by decide +kernel
theorem dL_isBound_50 : decode cL_isBound 50 = .ok (.aload_n 0, 1) := by decide +kernel
theorem dL_isBound_51 : decode cL_isBound 51 = .ok (.invokevirtual 45, 3) := by decide +kernel
theorem dL_isBound_54 : decode cL_isBound 54 = .ok (.iload_n 3, 1) := by decide +kernel
theorem dL_isBound_55 : decode cL_isBound 55 = .ok (.iconst 1, 1) := by decide +kernel
theorem dL_isBound_56 : decode cL_isBound 56 = .ok (.iadd, 1) := by decide +kernel
theorem dL_isBound_57 : decode cL_isBound 57 = .ok (.if_icmp .ne 41, 3) := by decide +kernel
theorem dL_isBound_60 : decode cL_isBound 60 = .ok (.aload_n 0, 1) := by decide +kernel
theorem dL_isBound_61 : decode cL_isBound 61 = .ok (.invokevirtual 48, 3) := by decide +kernel
theorem dL_isBound_64 : decode cL_isBound 64 = .ok (.iload 4, 2) := by decide +kernel
theorem dL_isBound_66 : decode cL_isBound 66 = .ok (.iload 5, 2) := by decide +kernel
theorem dL_isBound_68 : decode cL_isBound 68 = .ok (.iadd, 1) := by decide +kernel
theorem dL_isBound_69 : decode cL_isBound 69 = .ok (.if_icmp .ne 29, 3) := by decide +kernel
theorem dL_isBound_72 : decode cL_isBound 72 = .ok (.aload_n 0, 1) := by decide +kernel
theorem dL_isBound_73 : decode cL_isBound 73 = .ok (.iload_n 1, 1) := by decide +kernel
theorem dL_isBound_74 : decode cL_isBound 74 = .ok (.iload_n 2, 1) := by decide +kernel
theorem dL_isBound_75 : decode cL_isBound 75 = .ok (.invokevirtual 57, 3) := by decide +kernel
theorem dL_isBound_78 : decode cL_isBound 78 = .ok (.iload 5, 2) := by decide +kernel
theorem dL_isBound_80 : decode cL_isBound 80 = .ok (.if_icmp .ne 18, 3) := by decide +kernel
theorem dL_isBound_83 : decode cL_isBound 83 = .ok (.aload_n 0, 1) := by decide +kernel
theorem dL_isBound_84 : decode cL_isBound 84 = .ok (.iload_n 2, 1) := by decide +kernel
theorem dL_isBound_85 : decode cL_isBound 85 = .ok (.iload_n 1, 1) := by decide +kernel
theorem dL_isBound_86 : decode cL_isBound 86 = .ok (.invokevirtual 57, 3) := by decide +kernel
theorem dL_isBound_89 : decode cL_isBound 89 = .ok (.iload 5, 2) := by decide +kernel
theorem dL_isBound_91 : decode cL_isBound 91 = .ok (.if_icmp .ne 7, 3) := by decide +kernel
theorem dL_isBound_94 : decode cL_isBound 94 = .ok (.iconst 1, 1) := by decide +kernel
theorem dL_isBound_95 : decode cL_isBound 95 = .ok (.goto 4, 3) := by decide +kernel
theorem dL_isBound_98 : decode cL_isBound 98 = .ok (.iconst 0, 1) := by decide +kernel
theorem dL_isBound_99 : decode cL_isBound 99 = .ok (.ireturn, 1) := by decide +kernel
set_option maxRecDepth 20000 in
theorem ggL_isCut_X7_thornCount : GoodIn wsL_isCut wsX7_thornCount := goodIn_r _ [5, 6, 7, 8, 9, 10, 11, 12, 13, 14, 15, 16, 17, 18, 19, 20, 21, 22, 23, 24, 4, 25, 26, 27, 28, 29, 30, 31, 32, 127, 128, 129, 130, 131, 132, 133, 134, 135, 136, 137, 138] (by decide +kernel) (by decide +kernel)
set_option maxRecDepth 20000 in
theorem gL_isCut_X7_thornCount : GoodIn wsL_isCut (wsV RL 45 RX7 yX7_thornCount wsX7_thornCount) := goodIn_app (goodIn_of _ (by decide +kernel)) ggL_isCut_X7_thornCount
set_option maxRecDepth 20000 in
theorem ggL_isCut_X7_triangles : GoodIn wsL_isCut wsX7_triangles := goodIn_r _ [36, 6, 37, 38, 39, 10, 40, 41, 42, 43, 44, 17, 45, 46, 47, 48, 12, 18, 19, 20, 21, 22, 23, 49, 4, 50, 127, 128, 129, 130, 131, 132, 133, 134, 135, 136, 137, 138] (by decide +kernel) (by decide +kernel)
set_option maxRecDepth 20000 in
theorem gL_isCut_X7_triangles : GoodIn wsL_isCut (wsV RL 48 RX7 yX7_triangles wsX7_triangles) := goodIn_app (goodIn_of _ (by decide +kernel)) ggL_isCut_X7_triangles
set_option maxRecDepth 20000 in
theorem ggL_isCut_X7_support : GoodIn wsL_isCut wsX7_support := goodIn_ca (goodIn_ca (goodIn_r _ [54, 6, 55, 56, 57, 4, 58, 59, 60, 61, 62, 63, 64, 65, 66, 67, 46, 47, 10, 48, 12, 68, 42, 43, 44, 17, 45, 18, 19, 20, 21, 22, 23, 49, 50, 69, 70, 71, 72, 73, 24, 25, 26, 27, 28, 29, 30, 31, 32, 127, 128, 129, 130, 131, 132, 133, 134, 135, 136, 137, 138] (by decide +kernel) (by decide +kernel)) (goodIn_sub (fun _ h => List.mem_cons_of_mem _ (List.mem_append_left _ (List.mem_append_left _ (List.mem_append_left _ (List.mem_append_right _ h))))) (by decide +kernel))) (goodIn_sub (fun _ h => List.mem_cons_of_mem _ (List.mem_append_left _ (List.mem_append_left _ (List.mem_append_right _ h)))) (by decide +kernel))
set_option maxRecDepth 20000 in
theorem gL_isCut_X7_support : GoodIn wsL_isCut (wsV RL 57 RX7 yX7_support wsX7_support) := goodIn_app (goodIn_of _ (by decide +kernel)) ggL_isCut_X7_support
set_option maxRecDepth 20000 in
theorem ggL_isCut_X7_neighbors : GoodIn wsL_isCut wsX7_neighbors := goodIn_ca (goodIn_r _ [77, 6, 61, 62, 63, 4, 64, 65, 66, 67, 46, 47, 10, 48, 12, 78, 79, 80, 81, 17, 18, 19, 20, 21, 22, 23, 127, 128, 129, 130, 131, 132, 133, 134, 135, 136, 137, 138] (by decide +kernel) (by decide +kernel)) (goodIn_sub (fun _ h => List.mem_cons_of_mem _ (List.mem_append_left _ (List.mem_append_left _ (List.mem_append_right _ h)))) (by decide +kernel))
set_option maxRecDepth 20000 in
theorem gL_isCut_X7_neighbors : GoodIn wsL_isCut (wsV RL 17 RX7 yX7_neighbors wsX7_neighbors) := goodIn_app (goodIn_of _ (by decide +kernel)) ggL_isCut_X7_neighbors
set_option maxRecDepth 20000 in
theorem ggL_isCut_L_bits : GoodIn wsL_isCut wsL_bits := goodIn_r _ [85] (by decide +kernel) (by decide +kernel)
set_option maxRecDepth 20000 in
theorem gL_isCut_L_bits : GoodIn wsL_isCut (va_wsS RL 51 yL_bits wsL_bits) := goodIn_app (goodIn_of _ (by decide +kernel)) ggL_isCut_L_bits
set_option maxRecDepth 20000 in
theorem ggL_isCut_X7_cut : GoodIn wsL_isCut wsX7_cut := goodIn_ca (goodIn_ca (goodIn_ca (goodIn_r _ [89, 90, 91, 6, 92, 93, 94, 95, 4, 96, 97, 98, 61, 62, 63, 64, 65, 66, 67, 46, 47, 10, 48, 12, 68, 42, 43, 44, 17, 45, 18, 19, 20, 21, 22, 23, 49, 50, 99, 100, 101, 102, 103, 104, 105, 106, 107, 108, 109, 110, 111, 112, 113, 114, 115, 116, 117, 118, 119, 120, 121, 122, 123, 41, 124, 125, 126, 14, 15, 16, 24, 25, 26, 27, 28, 29, 30, 31, 32, 127, 128, 129, 130, 131, 132, 133, 134, 135, 136, 137, 138, 139, 140, 141] (by decide +kernel) (by decide +kernel)) (goodIn_sub (fun _ h => List.mem_cons_of_mem _ (List.mem_append_left _ (List.mem_append_right _ h))) (by decide +kernel))) (goodIn_sub (fun _ h => List.mem_cons_of_mem _ (List.mem_append_right _ h)) (by decide +kernel))) (goodIn_sub (fun _ h => List.mem_cons_of_mem _ (List.mem_append_left _ (List.mem_append_left _ (List.mem_append_right _ h)))) (by decide +kernel))
set_option maxRecDepth 20000 in
theorem gL_isCut_X7_cut : GoodIn wsL_isCut (wsV RL 60 RX7 yX7_cut wsX7_cut) := goodIn_app (goodIn_of _ (by decide +kernel)) ggL_isCut_X7_cut
theorem dL_isCut_0 : decode cL_isCut 0 = .ok (.aload_n 0, 1) := by decide +kernel
theorem dL_isCut_1 : decode cL_isCut 1 = .ok (.invokevirtual 45, 3) := by decide +kernel
theorem dL_isCut_4 : decode cL_isCut 4 = .ok (.istore_n 3, 1) := by decide +kernel
theorem dL_isCut_5 : decode cL_isCut 5 = .ok (.aload_n 0, 1) := by decide +kernel
theorem dL_isCut_6 : decode cL_isCut 6 = .ok (.invokevirtual 48, 3) := by decide +kernel
theorem dL_isCut_9 : decode cL_isCut 9 = .ok (.istore 4, 2) := by decide +kernel
theorem dL_isCut_11 : decode cL_isCut 11 = .ok (.aload_n 0, 1) := by decide +kernel
theorem dL_isCut_12 : decode cL_isCut 12 = .ok (.iload_n 1, 1) := by decide +kernel
theorem dL_isCut_13 : decode cL_isCut 13 = .ok (.iload_n 2, 1) := by decide +kernel
theorem dL_isCut_14 : decode cL_isCut 14 = .ok (.invokevirtual 57, 3) := by decide +kernel
theorem dL_isCut_17 : decode cL_isCut 17 = .ok (.istore 5, 2) := by decide +kernel
theorem dL_isCut_19 : decode cL_isCut 19 = .ok (.aload_n 0, 1) := by decide +kernel
theorem dL_isCut_20 : decode cL_isCut 20 = .ok (.iload_n 1, 1) := by decide +kernel
theorem dL_isCut_21 : decode cL_isCut 21 = .ok (.invokevirtual 17, 3) := by decide +kernel
theorem dL_isCut_24 : decode cL_isCut 24 = .ok (.invokestatic 51, 3) := by decide +kernel
theorem dL_isCut_27 : decode cL_isCut 27 = .ok (.istore 6, 2) := by decide +kernel
theorem dL_isCut_29 : decode cL_isCut 29 = .ok (.aload_n 0, 1) := by decide +kernel
theorem dL_isCut_30 : decode cL_isCut 30 = .ok (.iload_n 1, 1) := by decide +kernel
theorem dL_isCut_31 : decode cL_isCut 31 = .ok (.iload_n 2, 1) := by decide +kernel
theorem dL_isCut_32 : decode cL_isCut 32 = .ok (.invokevirtual 60, 3) := by decide +kernel
theorem dL_isCut_35 : decode cL_isCut 35 = .ok (.iload 6, 2) := by decide +kernel
theorem dL_isCut_37 : decode cL_isCut 37 = .ok (.iconst 1, 1) := by decide +kernel
theorem dL_isCut_38 : decode cL_isCut 38 = .ok (.isub, 1) := by decide +kernel
theorem dL_isCut_39 : decode cL_isCut 39 = .ok (.if_icmp .ne 29, 3) := by decide +kernel
theorem dL_isCut_42 : decode cL_isCut 42 = .ok (.aload_n 0, 1) := by decide +kernel
theorem dL_isCut_43 : decode cL_isCut 43 = .ok (.invokevirtual 45, 3) := by decide +kernel
theorem dL_isCut_46 : decode cL_isCut 46 = .ok (.iload_n 3, 1) := by decide +kernel
theorem dL_isCut_47 : decode cL_isCut 47 = .ok (.iconst 1, 1) := by decide +kernel
theorem dL_isCut_48 : decode cL_isCut 48 = .ok (.isub, 1) := by decide +kernel
theorem dL_isCut_49 : decode cL_isCut 49 = .ok (.if_icmp .ne 19, 3) := by decide +kernel
theorem dL_isCut_52 : decode cL_isCut 52 = .ok (.aload_n 0, 1) := by decide +kernel
theorem dL_isCut_53 : decode cL_isCut 53 = .ok (.invokevirtual 48, 3) := by decide +kernel
theorem dL_isCut_56 : decode cL_isCut 56 = .ok (.iload 4, 2) := by decide +kernel
theorem dL_isCut_58 : decode cL_isCut 58 = .ok (.iload 5, 2) := by decide +kernel
theorem dL_isCut_60 : decode cL_isCut 60 = .ok (.isub, 1) := by decide +kernel
theorem dL_isCut_61 : decode cL_isCut 61 = .ok (.if_icmp .ne 7, 3) := by decide +kernel
theorem dL_isCut_64 : decode cL_isCut 64 = .ok (.iconst 1, 1) := by decide +kernel
theorem dL_isCut_65 : decode cL_isCut 65 = .ok (.goto 4, 3) := by decide +kernel
theorem dL_isCut_68 : decode cL_isCut 68 = .ok (.iconst 0, 1) := by decide +kernel
theorem dL_isCut_69 : decode cL_isCut 69 = .ok (.ireturn, 1) := by decide +kernel
set_option maxRecDepth 20000 in
theorem ggL_isUprooted_X7_plantCount : GoodIn wsL_isUprooted wsX7_plantCount := goodIn_r _ [5, 6, 106, 107, 108, 109, 110, 111, 112, 113, 114, 115, 116] (by decide +kernel) (by decide +kernel)
set_option maxRecDepth 20000 in
theorem gL_isUprooted_X7_plantCount : GoodIn wsL_isUprooted (wsV RL 8 RX7 yX7_plantCount wsX7_plantCount) := goodIn_app (goodIn_of _ (by decide +kernel)) ggL_isUprooted_X7_plantCount
set_option maxRecDepth 20000 in
theorem ggL_isUprooted_X7_thornCount : GoodIn wsL_isUprooted wsX7_thornCount := goodIn_r _ [10, 6, 11, 12, 13, 14, 15, 16, 17, 18, 19, 20, 21, 22, 23, 24, 25, 26, 27, 28, 4, 29, 30, 31, 32, 33, 34, 35, 36, 106, 107, 108, 109, 110, 111, 112, 113, 114, 115, 116, 117] (by decide +kernel) (by decide +kernel)
set_option maxRecDepth 20000 in
theorem gL_isUprooted_X7_thornCount : GoodIn wsL_isUprooted (wsV RL 45 RX7 yX7_thornCount wsX7_thornCount) := goodIn_app (goodIn_of _ (by decide +kernel)) ggL_isUprooted_X7_thornCount
set_option maxRecDepth 20000 in
theorem ggL_isUprooted_X7_neighbors : GoodIn wsL_isUprooted wsX7_neighbors := goodIn_ca (goodIn_r _ [40, 6, 41, 42, 43, 4, 44, 45, 46, 47, 48, 49, 14, 50, 16, 51, 52, 53, 54, 21, 22, 23, 24, 25, 26, 27, 106, 107, 108, 109, 110, 111, 112, 113, 114, 115, 116, 117] (by decide +kernel) (by decide +kernel)) (goodIn_sub (fun _ h => List.mem_cons_of_mem _ (List.mem_append_right _ h)) (by decide +kernel))
set_option maxRecDepth 20000 in
theorem gL_isUprooted_X7_neighbors : GoodIn wsL_isUprooted (wsV RL 17 RX7 yX7_neighbors wsX7_neighbors) := goodIn_app (goodIn_of _ (by decide +kernel)) ggL_isUprooted_X7_neighbors
set_option maxRecDepth 20000 in
theorem ggL_isUprooted_L_bits : GoodIn wsL_isUprooted wsL_bits := goodIn_r _ [58] (by decide +kernel) (by decide +kernel)
set_option maxRecDepth 20000 in
theorem gL_isUprooted_L_bits : GoodIn wsL_isUprooted (va_wsS RL 51 yL_bits wsL_bits) := goodIn_app (goodIn_of _ (by decide +kernel)) ggL_isUprooted_L_bits
set_option maxRecDepth 20000 in
theorem ggL_isUprooted_X7_isPropped : GoodIn wsL_isUprooted wsX7_isPropped := goodIn_ca (goodIn_r _ [62, 6, 41, 42, 43, 4, 44, 45, 46, 47, 48, 49, 14, 50, 16, 63, 64, 65, 66, 67, 68, 69, 70, 106, 107, 108, 109, 110, 111, 112, 113, 114, 115, 116] (by decide +kernel) (by decide +kernel)) (goodIn_sub (fun _ h => List.mem_cons_of_mem _ (List.mem_append_right _ h)) (by decide +kernel))
set_option maxRecDepth 20000 in
theorem gL_isUprooted_X7_isPropped : GoodIn wsL_isUprooted (wsV RL 21 RX7 yX7_isPropped wsX7_isPropped) := goodIn_app (goodIn_of _ (by decide +kernel)) ggL_isUprooted_X7_isPropped
set_option maxRecDepth 20000 in
theorem ggL_isUprooted_X7_uproot : GoodIn wsL_isUprooted wsX7_uproot := goodIn_ca (goodIn_r _ [74, 75, 6, 41, 42, 43, 4, 44, 45, 46, 47, 48, 49, 14, 50, 16, 76, 77, 78, 79, 80, 81, 82, 83, 84, 85, 86, 87, 88, 89, 90, 91, 67, 21, 92, 93, 94, 25, 95, 27, 22, 23, 24, 26, 96, 18, 19, 20, 28, 29, 30, 31, 32, 33, 34, 35, 36, 97, 98, 99, 100, 68, 101, 102, 103, 104, 105, 106, 107, 108, 109, 110, 111, 112, 113, 114, 115, 116, 118, 119, 120, 117] (by decide +kernel) (by decide +kernel)) (goodIn_sub (fun _ h => List.mem_cons_of_mem _ (List.mem_append_right _ h)) (by decide +kernel))
set_option maxRecDepth 20000 in
theorem gL_isUprooted_X7_uproot : GoodIn wsL_isUprooted (wsV RL 63 RX7 yX7_uproot wsX7_uproot) := goodIn_app (goodIn_of _ (by decide +kernel)) ggL_isUprooted_X7_uproot
theorem dL_isUprooted_0 : decode cL_isUprooted 0 = .ok (.aload_n 0, 1) := by decide +kernel
theorem dL_isUprooted_1 : decode cL_isUprooted 1 = .ok (.invokevirtual 8, 3) := by decide +kernel
theorem dL_isUprooted_4 : decode cL_isUprooted 4 = .ok (.istore_n 2, 1) := by decide +kernel
theorem dL_isUprooted_5 : decode cL_isUprooted 5 = .ok (.aload_n 0, 1) := by decide +kernel
theorem dL_isUprooted_6 : decode cL_isUprooted 6 = .ok (.invokevirtual 45, 3) := by decide +kernel
theorem dL_isUprooted_9 : decode cL_isUprooted 9 = .ok (.istore_n 3, 1) := by decide +kernel
theorem dL_isUprooted_10 : decode cL_isUprooted 10 = .ok (.aload_n 0, 1) := by decide +kernel
theorem dL_isUprooted_11 : decode cL_isUprooted 11 = .ok (.iload_n 1, 1) := by decide +kernel
theorem dL_isUprooted_12 : decode cL_isUprooted 12 = .ok (.invokevirtual 17, 3) := by decide +kernel
theorem dL_isUprooted_15 : decode cL_isUprooted 15 = .ok (.invokestatic 51, 3) := by decide +kernel
theorem dL_isUprooted_18 : decode cL_isUprooted 18 = .ok (.istore 4, 2) := by decide +kernel
theorem dL_isUprooted_20 : decode cL_isUprooted 20 = .ok (.aload_n 0, 1) := by decide +kernel
theorem dL_isUprooted_21 : decode cL_isUprooted 21 = .ok (.iload_n 2, 1) := by decide +kernel
theorem dL_isUprooted_22 : decode cL_isUprooted 22 = .ok (.iconst 1, 1) := by decide +kernel
theorem dL_isUprooted_23 : decode cL_isUprooted 23 = .ok (.isub, 1) := by decide +kernel
theorem dL_isUprooted_24 : decode cL_isUprooted 24 = .ok (.invokevirtual 17, 3) := by decide +kernel
theorem dL_isUprooted_27 : decode cL_isUprooted 27 = .ok (.istore 5, 2) := by decide +kernel
theorem dL_isUprooted_29 : decode cL_isUprooted 29 = .ok (.aload_n 0, 1) := by decide +kernel
theorem dL_isUprooted_30 : decode cL_isUprooted 30 = .ok (.iload_n 2, 1) := by decide +kernel
theorem dL_isUprooted_31 : decode cL_isUprooted 31 = .ok (.iconst 1, 1) := by decide +kernel
theorem dL_isUprooted_32 : decode cL_isUprooted 32 = .ok (.isub, 1) := by decide +kernel
theorem dL_isUprooted_33 : decode cL_isUprooted 33 = .ok (.invokevirtual 21, 3) := by decide +kernel
theorem dL_isUprooted_36 : decode cL_isUprooted 36 = .ok (.istore 6, 2) := by decide +kernel
theorem dL_isUprooted_38 : decode cL_isUprooted 38 = .ok (.iload 5, 2) := by decide +kernel
theorem dL_isUprooted_40 : decode cL_isUprooted 40 = .ok (.iconst 1, 1) := by decide +kernel
theorem dL_isUprooted_41 : decode cL_isUprooted 41 = .ok (.iload_n 1, 1) := by decide +kernel
theorem dL_isUprooted_42 : decode cL_isUprooted 42 = .ok (.ishl, 1) := by decide +kernel
theorem dL_isUprooted_43 : decode cL_isUprooted 43 = .ok (.iconst 1, 1) := by decide +kernel
theorem dL_isUprooted_44 : decode cL_isUprooted 44 = .ok (.isub, 1) := by decide +kernel
theorem dL_isUprooted_45 : decode cL_isUprooted 45 = .ok (.iand, 1) := by decide +kernel
theorem dL_isUprooted_46 : decode cL_isUprooted 46 = .ok (.iload 5, 2) := by decide +kernel
theorem dL_isUprooted_48 : decode cL_isUprooted 48 = .ok (.iconst 1, 1) := by decide +kernel
theorem dL_isUprooted_49 : decode cL_isUprooted 49 = .ok (.ishr, 1) := by decide +kernel
theorem dL_isUprooted_50 : decode cL_isUprooted 50 = .ok (.iconst 1, 1) := by decide +kernel
theorem dL_isUprooted_51 : decode cL_isUprooted 51 = .ok (.iload_n 1, 1) := by decide +kernel
theorem dL_isUprooted_52 : decode cL_isUprooted 52 = .ok (.ishl, 1) := by decide +kernel
theorem dL_isUprooted_53 : decode cL_isUprooted 53 = .ok (.iconst 1, 1) := by decide +kernel
theorem dL_isUprooted_54 : decode cL_isUprooted 54 = .ok (.isub, 1) := by decide +kernel
theorem dL_isUprooted_55 : decode cL_isUprooted 55 = .ok (.iconst (-1), 1) := by decide +kernel
theorem dL_isUprooted_56 : decode cL_isUprooted 56 = .ok (.ixor, 1) := by decide +kernel
theorem dL_isUprooted_57 : decode cL_isUprooted 57 = .ok (.iand, 1) := by decide +kernel
theorem dL_isUprooted_58 : decode cL_isUprooted 58 = .ok (.ior, 1) := by decide +kernel
theorem dL_isUprooted_59 : decode cL_isUprooted 59 = .ok (.istore 7, 2) := by decide +kernel
theorem dL_isUprooted_61 : decode cL_isUprooted 61 = .ok (.aload_n 0, 1) := by decide +kernel
theorem dL_isUprooted_62 : decode cL_isUprooted 62 = .ok (.iload_n 1, 1) := by decide +kernel
theorem dL_isUprooted_63 : decode cL_isUprooted 63 = .ok (.invokevirtual 63, 3) := by decide +kernel
theorem dL_isUprooted_66 : decode cL_isUprooted 66 = .ok (.iload 4, 2) := by decide +kernel
theorem dL_isUprooted_68 : decode cL_isUprooted 68 = .ok (.if_icmp .ne 59, 3) := by decide +kernel
theorem dL_isUprooted_71 : decode cL_isUprooted 71 = .ok (.aload_n 0, 1) := by decide +kernel
theorem dL_isUprooted_72 : decode cL_isUprooted 72 = .ok (.invokevirtual 8, 3) := by decide +kernel
theorem dL_isUprooted_75 : decode cL_isUprooted 75 = .ok (.iload_n 2, 1) := by decide +kernel
theorem dL_isUprooted_76 : decode cL_isUprooted 76 = .ok (.iconst 1, 1) := by decide +kernel
theorem dL_isUprooted_77 : decode cL_isUprooted 77 = .ok (.isub, 1) := by decide +kernel
theorem dL_isUprooted_78 : decode cL_isUprooted 78 = .ok (.if_icmp .ne 49, 3) := by decide +kernel
theorem dL_isUprooted_81 : decode cL_isUprooted 81 = .ok (.aload_n 0, 1) := by decide +kernel
theorem dL_isUprooted_82 : decode cL_isUprooted 82 = .ok (.invokevirtual 45, 3) := by decide +kernel
theorem dL_isUprooted_85 : decode cL_isUprooted 85 = .ok (.iload_n 3, 1) := by decide +kernel
theorem dL_isUprooted_86 : decode cL_isUprooted 86 = .ok (.iload 4, 2) := by decide +kernel
theorem dL_isUprooted_88 : decode cL_isUprooted 88 = .ok (.isub, 1) := by decide +kernel
theorem dL_isUprooted_89 : decode cL_isUprooted 89 = .ok (.if_icmp .ne 38, 3) := by decide +kernel
theorem dL_isUprooted_92 : decode cL_isUprooted 92 = .ok (.iload_n 1, 1) := by decide +kernel
theorem dL_isUprooted_93 : decode cL_isUprooted 93 = .ok (.iload_n 2, 1) := by decide +kernel
theorem dL_isUprooted_94 : decode cL_isUprooted 94 = .ok (.iconst 1, 1) := by decide +kernel
theorem dL_isUprooted_95 : decode cL_isUprooted 95 = .ok (.isub, 1) := by decide +kernel
theorem dL_isUprooted_96 : decode cL_isUprooted 96 = .ok (.if_icmp .eq 27, 3) := by decide +kernel
theorem dL_isUprooted_99 : decode cL_isUprooted 99 = .ok (.aload_n 0, 1) := by decide +kernel
theorem dL_isUprooted_100 : decode cL_isUprooted 100 = .ok (.iload_n 2, 1) := by decide +kernel
theorem dL_isUprooted_101 : decode cL_isUprooted 101 = .ok (.iconst 2, 1) := by decide +kernel
theorem dL_isUprooted_102 : decode cL_isUprooted 102 = .ok (.isub, 1) := by decide +kernel
theorem dL_isUprooted_103 : decode cL_isUprooted 103 = .ok (.invokevirtual 17, 3) := by decide +kernel
theorem dL_isUprooted_106 : decode cL_isUprooted 106 = .ok (.iload 7, 2) := by decide +kernel
theorem dL_isUprooted_108 : decode cL_isUprooted 108 = .ok (.if_icmp .ne 19, 3) := by decide +kernel
theorem dL_isUprooted_111 : decode cL_isUprooted 111 = .ok (.aload_n 0, 1) := by decide +kernel
theorem dL_isUprooted_112 : decode cL_isUprooted 112 = .ok (.iload_n 2, 1) := by decide +kernel
theorem dL_isUprooted_113 : decode cL_isUprooted 113 = .ok (.iconst 2, 1) := by decide +kernel
theorem dL_isUprooted_114 : decode cL_isUprooted 114 = .ok (.isub, 1) := by decide +kernel
theorem dL_isUprooted_115 : decode cL_isUprooted 115 = .ok (.invokevirtual 21, 3) := by decide +kernel
theorem dL_isUprooted_118 : decode cL_isUprooted 118 = .ok (.iload 6, 2) := by decide +kernel
theorem dL_isUprooted_120 : decode cL_isUprooted 120 = .ok (.if_icmp .ne 7, 3) := by decide +kernel
theorem dL_isUprooted_123 : decode cL_isUprooted 123 = .ok (.iconst 1, 1) := by decide +kernel
theorem dL_isUprooted_124 : decode cL_isUprooted 124 = .ok (.goto 4, 3) := by decide +kernel
theorem dL_isUprooted_127 : decode cL_isUprooted 127 = .ok (.iconst 0, 1) := by decide +kernel
theorem dL_isUprooted_128 : decode cL_isUprooted 128 = .ok (.ireturn, 1) := by decide +kernel
set_option maxRecDepth 20000 in
theorem ggL_isCoreSo_X7_core : GoodIn wsL_isCoreSo wsX7_core := goodIn_ca (goodIn_r _ [5, 6, 7, 8, 9, 10, 4, 11, 12, 13, 14, 15, 16, 17, 18, 19, 20, 21, 22, 23, 24, 25, 26, 27, 28, 29, 30, 31, 32, 33, 34, 35, 36, 37, 38, 39, 40, 41, 42, 43, 44, 45, 46, 47, 48, 49, 50, 51, 52, 53, 115, 116, 117, 118, 119, 120, 121, 122, 123, 124, 125, 126, 127, 128] (by decide +kernel) (by decide +kernel)) (goodIn_sub (fun _ h => List.mem_cons_of_mem _ (List.mem_append_left _ (List.mem_append_right _ h))) (by decide +kernel))
set_option maxRecDepth 20000 in
theorem gL_isCoreSo_X7_core : GoodIn wsL_isCoreSo (wsV RL 66 RX7 yX7_core wsX7_core) := goodIn_app (goodIn_of _ (by decide +kernel)) ggL_isCoreSo_X7_core
set_option maxRecDepth 20000 in
theorem ggL_isCoreSo_X7_plantCount : GoodIn wsL_isCoreSo wsX7_plantCount := goodIn_r _ [57, 7, 115, 116, 117, 118, 119, 120, 121, 122, 123, 124, 125] (by decide +kernel) (by decide +kernel)
set_option maxRecDepth 20000 in
theorem gL_isCoreSo_X7_plantCount : GoodIn wsL_isCoreSo (wsV RL 8 RX7 yX7_plantCount wsX7_plantCount) := goodIn_app (goodIn_of _ (by decide +kernel)) ggL_isCoreSo_X7_plantCount
set_option maxRecDepth 20000 in
theorem ggL_isCoreSo_X7_coreOf : GoodIn wsL_isCoreSo wsX7_coreOf := goodIn_ca (goodIn_r _ [61, 6, 62, 63, 64, 4, 65, 66, 67, 7, 68, 69, 70, 17, 71, 19, 72, 73, 74, 25, 75, 31, 76, 15, 16, 18, 20, 21, 77, 23, 24, 26, 27, 28, 29, 30, 32, 33, 34, 35, 36, 37, 38, 39, 40, 41, 42, 43, 44, 45, 46, 47, 48, 49, 50, 51, 52, 53, 115, 116, 117, 118, 119, 120, 121, 122, 123, 124, 125, 126, 127, 128] (by decide +kernel) (by decide +kernel)) (goodIn_sub (fun _ h => List.mem_cons_of_mem _ (List.mem_append_right _ h)) (by decide +kernel))
set_option maxRecDepth 20000 in
theorem gL_isCoreSo_X7_coreOf : GoodIn wsL_isCoreSo (wsV RL 69 RX7 yX7_coreOf wsX7_coreOf) := goodIn_app (goodIn_of _ (by decide +kernel)) ggL_isCoreSo_X7_coreOf
set_option maxRecDepth 20000 in
theorem ggL_isCoreSo_X7_isPropped : GoodIn wsL_isCoreSo wsX7_isPropped := goodIn_ca (goodIn_r _ [81, 7, 62, 63, 64, 4, 65, 66, 67, 68, 69, 70, 17, 71, 19, 82, 83, 84, 85, 86, 87, 32, 33, 115, 116, 117, 118, 119, 120, 121, 122, 123, 124, 125] (by decide +kernel) (by decide +kernel)) (goodIn_sub (fun _ h => List.mem_cons_of_mem _ (List.mem_append_right _ h)) (by decide +kernel))
set_option maxRecDepth 20000 in
theorem gL_isCoreSo_X7_isPropped : GoodIn wsL_isCoreSo (wsV RL 21 RX7 yX7_isPropped wsX7_isPropped) := goodIn_app (goodIn_of _ (by decide +kernel)) ggL_isCoreSo_X7_isPropped
set_option maxRecDepth 20000 in
theorem ggL_isCoreSo_X7_neighbors : GoodIn wsL_isCoreSo wsX7_neighbors := goodIn_ca (goodIn_r _ [91, 7, 62, 63, 64, 4, 65, 66, 67, 68, 69, 70, 17, 71, 19, 92, 35, 36, 37, 38, 39, 40, 41, 42, 43, 44, 115, 116, 117, 118, 119, 120, 121, 122, 123, 124, 125, 128] (by decide +kernel) (by decide +kernel)) (goodIn_sub (fun _ h => List.mem_cons_of_mem _ (List.mem_append_right _ h)) (by decide +kernel))
set_option maxRecDepth 20000 in
theorem gL_isCoreSo_X7_neighbors : GoodIn wsL_isCoreSo (wsV RL 17 RX7 yX7_neighbors wsX7_neighbors) := goodIn_app (goodIn_of _ (by decide +kernel)) ggL_isCoreSo_X7_neighbors
set_option maxRecDepth 20000 in
theorem ggL_isCoreSo_L_bits : GoodIn wsL_isCoreSo wsL_bits := goodIn_r _ [96] (by decide +kernel) (by decide +kernel)
set_option maxRecDepth 20000 in
theorem gL_isCoreSo_L_bits : GoodIn wsL_isCoreSo (va_wsS RL 51 yL_bits wsL_bits) := goodIn_app (goodIn_of _ (by decide +kernel)) ggL_isCoreSo_L_bits
set_option maxRecDepth 20000 in
theorem ggL_isCoreSo_X7_wouldFall : GoodIn wsL_isCoreSo wsX7_wouldFall := goodIn_ca (goodIn_ca (goodIn_r _ [100, 6, 7, 62, 63, 64, 4, 65, 66, 67, 68, 69, 70, 17, 71, 19, 8, 9, 10, 11, 12, 13, 14, 15, 16, 18, 20, 21, 22, 23, 24, 25, 26, 27, 28, 29, 30, 31, 32, 33, 34, 35, 36, 37, 38, 39, 40, 41, 42, 43, 44, 45, 46, 47, 48, 49, 50, 51, 52, 53, 101, 102, 115, 116, 117, 118, 119, 120, 121, 122, 123, 124, 125, 126, 127, 128] (by decide +kernel) (by decide +kernel)) (goodIn_sub (fun _ h => List.mem_cons_of_mem _ (List.mem_append_right _ h)) (by decide +kernel))) (goodIn_sub (fun _ h => List.mem_cons_of_mem _ (List.mem_append_left _ (List.mem_append_right _ h))) (by decide +kernel))
set_option maxRecDepth 20000 in
theorem gL_isCoreSo_X7_wouldFall : GoodIn wsL_isCoreSo (wsV RL 72 RX7 yX7_wouldFall wsX7_wouldFall) := goodIn_app (goodIn_of _ (by decide +kernel)) ggL_isCoreSo_X7_wouldFall
set_option maxRecDepth 20000 in
theorem ggL_isCoreSo_X7_corePieces : GoodIn wsL_isCoreSo wsX7_corePieces := goodIn_ca (goodIn_r _ [106, 6, 7, 8, 9, 10, 4, 11, 12, 13, 14, 15, 16, 17, 18, 19, 20, 21, 22, 23, 24, 25, 26, 27, 28, 29, 30, 31, 32, 33, 34, 35, 36, 37, 38, 39, 40, 41, 42, 43, 44, 45, 46, 47, 48, 49, 50, 51, 52, 53, 107, 108, 109, 110, 111, 112, 113, 114, 115, 116, 117, 118, 119, 120, 121, 122, 123, 124, 125, 126, 127, 128] (by decide +kernel) (by decide +kernel)) (goodIn_sub (fun _ h => List.mem_cons_of_mem _ (List.mem_append_left _ (List.mem_append_right _ h))) (by decide +kernel))
set_option maxRecDepth 20000 in
theorem gL_isCoreSo_X7_corePieces : GoodIn wsL_isCoreSo (wsV RL 75 RX7 yX7_corePieces wsX7_corePieces) := goodIn_app (goodIn_of _ (by decide +kernel)) ggL_isCoreSo_X7_corePieces
theorem dL_isCoreSo_0 : decode cL_isCoreSo 0 = .ok (.aload_n 0, 1) := by decide +kernel
theorem dL_isCoreSo_1 : decode cL_isCoreSo 1 = .ok (.iload_n 1, 1) := by decide +kernel
theorem dL_isCoreSo_2 : decode cL_isCoreSo 2 = .ok (.invokevirtual 66, 3) := by decide +kernel
theorem dL_isCoreSo_5 : decode cL_isCoreSo 5 = .ok (.istore_n 2, 1) := by decide +kernel
theorem dL_isCoreSo_6 : decode cL_isCoreSo 6 = .ok (.iload_n 1, 1) := by decide +kernel
theorem dL_isCoreSo_7 : decode cL_isCoreSo 7 = .ok (.ifCond .ne 23, 3) := by decide +kernel
theorem dL_isCoreSo_10 : decode cL_isCoreSo 10 = .ok (.iload_n 2, 1) := by decide +kernel
theorem dL_isCoreSo_11 : decode cL_isCoreSo 11 = .ok (.iconst 1, 1) := by decide +kernel
theorem dL_isCoreSo_12 : decode cL_isCoreSo 12 = .ok (.aload_n 0, 1) := by decide +kernel
theorem dL_isCoreSo_13 : decode cL_isCoreSo 13 = .ok (.invokevirtual 8, 3) := by decide +kernel
theorem dL_isCoreSo_16 : decode cL_isCoreSo 16 = .ok (.ishl, 1) := by decide +kernel
theorem dL_isCoreSo_17 : decode cL_isCoreSo 17 = .ok (.iconst 1, 1) := by decide +kernel
theorem dL_isCoreSo_18 : decode cL_isCoreSo 18 = .ok (.isub, 1) := by decide +kernel
theorem dL_isCoreSo_19 : decode cL_isCoreSo 19 = .ok (.if_icmp .ne 7, 3) := by decide +kernel
theorem dL_isCoreSo_22 : decode cL_isCoreSo 22 = .ok (.iconst 1, 1) := by decide +kernel
theorem dL_isCoreSo_23 : decode cL_isCoreSo 23 = .ok (.goto 26, 3) := by decide +kernel
theorem dL_isCoreSo_26 : decode cL_isCoreSo 26 = .ok (.iconst 0, 1) := by decide +kernel
theorem dL_isCoreSo_27 : decode cL_isCoreSo 27 = .ok (.goto 22, 3) := by decide +kernel
theorem dL_isCoreSo_30 : decode cL_isCoreSo 30 = .ok (.iload_n 2, 1) := by decide +kernel
theorem dL_isCoreSo_31 : decode cL_isCoreSo 31 = .ok (.aload_n 0, 1) := by decide +kernel
theorem dL_isCoreSo_32 : decode cL_isCoreSo 32 = .ok (.iload_n 1, 1) := by decide +kernel
theorem dL_isCoreSo_33 : decode cL_isCoreSo 33 = .ok (.iconst 1, 1) := by decide +kernel
theorem dL_isCoreSo_34 : decode cL_isCoreSo 34 = .ok (.isub, 1) := by decide +kernel
theorem dL_isCoreSo_35 : decode cL_isCoreSo 35 = .ok (.invokevirtual 66, 3) := by decide +kernel
theorem dL_isCoreSo_38 : decode cL_isCoreSo 38 = .ok (.iconst (-1), 1) := by decide +kernel
theorem dL_isCoreSo_39 : decode cL_isCoreSo 39 = .ok (.ixor, 1) := by decide +kernel
theorem dL_isCoreSo_40 : decode cL_isCoreSo 40 = .ok (.iand, 1) := by decide +kernel
theorem dL_isCoreSo_41 : decode cL_isCoreSo 41 = .ok (.ifCond .ne 7, 3) := by decide +kernel
theorem dL_isCoreSo_44 : decode cL_isCoreSo 44 = .ok (.iconst 1, 1) := by decide +kernel
theorem dL_isCoreSo_45 : decode cL_isCoreSo 45 = .ok (.goto 4, 3) := by decide +kernel
theorem dL_isCoreSo_48 : decode cL_isCoreSo 48 = .ok (.iconst 0, 1) := by decide +kernel
theorem dL_isCoreSo_49 : decode cL_isCoreSo 49 = .ok (.istore_n 3, 1) := by decide +kernel
theorem dL_isCoreSo_50 : decode cL_isCoreSo 50 = .ok (.iconst 0, 1) := by decide +kernel
theorem dL_isCoreSo_51 : decode cL_isCoreSo 51 = .ok (.istore 4, 2) := by decide +kernel
theorem dL_isCoreSo_53 : decode cL_isCoreSo 53 = .ok (.iload 4, 2) := by decide +kernel
theorem dL_isCoreSo_55 : decode cL_isCoreSo 55 = .ok (.aload_n 0, 1) := by decide +kernel
theorem dL_isCoreSo_56 : decode cL_isCoreSo 56 = .ok (.invokevirtual 8, 3) := by decide +kernel
theorem dL_isCoreSo_59 : decode cL_isCoreSo 59 = .ok (.if_icmp .ge 133, 3) := by decide +kernel
theorem dL_isCoreSo_62 : decode cL_isCoreSo 62 = .ok (.iload_n 2, 1) := by decide +kernel
theorem dL_isCoreSo_63 : decode cL_isCoreSo 63 = .ok (.iload 4, 2) := by decide +kernel
theorem dL_isCoreSo_65 : decode cL_isCoreSo 65 = .ok (.ishr, 1) := by decide +kernel
theorem dL_isCoreSo_66 : decode cL_isCoreSo 66 = .ok (.iconst 1, 1) := by decide +kernel
theorem dL_isCoreSo_67 : decode cL_isCoreSo 67 = .ok (.iand, 1) := by decide +kernel
theorem dL_isCoreSo_68 : decode cL_isCoreSo 68 = .ok (.iconst 1, 1) := by decide +kernel
theorem dL_isCoreSo_69 : decode cL_isCoreSo 69 = .ok (.if_icmp .ne 7, 3) := by decide +kernel
theorem dL_isCoreSo_72 : decode cL_isCoreSo 72 = .ok (.iconst 1, 1) := by decide +kernel
theorem dL_isCoreSo_73 : decode cL_isCoreSo 73 = .ok (.goto 4, 3) := by decide +kernel
theorem dL_isCoreSo_76 : decode cL_isCoreSo 76 = .ok (.iconst 0, 1) := by decide +kernel
theorem dL_isCoreSo_77 : decode cL_isCoreSo 77 = .ok (.istore 5, 2) := by decide +kernel
theorem dL_isCoreSo_79 : decode cL_isCoreSo 79 = .ok (.iload_n 3, 1) := by decide +kernel
theorem dL_isCoreSo_80 : decode cL_isCoreSo 80 = .ok (.ifCond .eq 104, 3) := by decide +kernel
theorem dL_isCoreSo_83 : decode cL_isCoreSo 83 = .ok (.iload 5, 2) := by decide +kernel
theorem dL_isCoreSo_85 : decode cL_isCoreSo 85 = .ok (.aload_n 0, 1) := by decide +kernel
theorem dL_isCoreSo_86 : decode cL_isCoreSo 86 = .ok (.iload 4, 2) := by decide +kernel
theorem dL_isCoreSo_88 : decode cL_isCoreSo 88 = .ok (.invokevirtual 69, 3) := by decide +kernel
theorem dL_isCoreSo_91 : decode cL_isCoreSo 91 = .ok (.iload_n 1, 1) := by decide +kernel
theorem dL_isCoreSo_92 : decode cL_isCoreSo 92 = .ok (.if_icmp .lt 7, 3) := by decide +kernel
theorem dL_isCoreSo_95 : decode cL_isCoreSo 95 = .ok (.iconst 1, 1) := by decide +kernel
theorem dL_isCoreSo_96 : decode cL_isCoreSo 96 = .ok (.goto 4, 3) := by decide +kernel
theorem dL_isCoreSo_99 : decode cL_isCoreSo 99 = .ok (.iconst 0, 1) := by decide +kernel
theorem dL_isCoreSo_100 : decode cL_isCoreSo 100 = .ok (.if_icmp .ne 84, 3) := by decide +kernel
theorem dL_isCoreSo_103 : decode cL_isCoreSo 103 = .ok (.iload 5, 2) := by decide +kernel
theorem dL_isCoreSo_105 : decode cL_isCoreSo 105 = .ok (.ifCond .eq 27, 3) := by decide +kernel
theorem dL_isCoreSo_108 : decode cL_isCoreSo 108 = .ok (.aload_n 0, 1) := by decide +kernel
theorem dL_isCoreSo_109 : decode cL_isCoreSo 109 = .ok (.iload 4, 2) := by decide +kernel
theorem dL_isCoreSo_111 : decode cL_isCoreSo 111 = .ok (.invokevirtual 21, 3) := by decide +kernel
theorem dL_isCoreSo_114 : decode cL_isCoreSo 114 = .ok (.ifCond .ne 18, 3) := by decide +kernel
theorem dL_isCoreSo_117 : decode cL_isCoreSo 117 = .ok (.aload_n 0, 1) := by decide +kernel
theorem dL_isCoreSo_118 : decode cL_isCoreSo 118 = .ok (.iload 4, 2) := by decide +kernel
theorem dL_isCoreSo_120 : decode cL_isCoreSo 120 = .ok (.invokevirtual 17, 3) := by decide +kernel
theorem dL_isCoreSo_123 : decode cL_isCoreSo 123 = .ok (.iload_n 2, 1) := by decide +kernel
theorem dL_isCoreSo_124 : decode cL_isCoreSo 124 = .ok (.iand, 1) := by decide +kernel
theorem dL_isCoreSo_125 : decode cL_isCoreSo 125 = .ok (.invokestatic 51, 3) := by decide +kernel
theorem dL_isCoreSo_128 : decode cL_isCoreSo 128 = .ok (.iload_n 1, 1) := by decide +kernel
theorem dL_isCoreSo_129 : decode cL_isCoreSo 129 = .ok (.if_icmp .lt 55, 3) := by decide +kernel
theorem dL_isCoreSo_132 : decode cL_isCoreSo 132 = .ok (.iload 5, 2) := by decide +kernel
theorem dL_isCoreSo_134 : decode cL_isCoreSo 134 = .ok (.ifCond .ne 12, 3) := by decide +kernel
theorem dL_isCoreSo_137 : decode cL_isCoreSo 137 = .ok (.aload_n 0, 1) := by decide +kernel
theorem dL_isCoreSo_138 : decode cL_isCoreSo 138 = .ok (.iload 4, 2) := by decide +kernel
theorem dL_isCoreSo_140 : decode cL_isCoreSo 140 = .ok (.invokevirtual 21, 3) := by decide +kernel
theorem dL_isCoreSo_143 : decode cL_isCoreSo 143 = .ok (.ifCond .ne 41, 3) := by decide +kernel
theorem dL_isCoreSo_146 : decode cL_isCoreSo 146 = .ok (.aload_n 0, 1) := by decide +kernel
theorem dL_isCoreSo_147 : decode cL_isCoreSo 147 = .ok (.iload 4, 2) := by decide +kernel
theorem dL_isCoreSo_149 : decode cL_isCoreSo 149 = .ok (.iload_n 1, 1) := by decide +kernel
theorem dL_isCoreSo_150 : decode cL_isCoreSo 150 = .ok (.invokevirtual 72, 3) := by decide +kernel
theorem dL_isCoreSo_153 : decode cL_isCoreSo 153 = .ok (.ifCond .le 7, 3) := by decide +kernel
theorem dL_isCoreSo_156 : decode cL_isCoreSo 156 = .ok (.iconst 1, 1) := by decide +kernel
theorem dL_isCoreSo_157 : decode cL_isCoreSo 157 = .ok (.goto 4, 3) := by decide +kernel
theorem dL_isCoreSo_160 : decode cL_isCoreSo 160 = .ok (.iconst 0, 1) := by decide +kernel
theorem dL_isCoreSo_161 : decode cL_isCoreSo 161 = .ok (.iload 5, 2) := by decide +kernel
theorem dL_isCoreSo_163 : decode cL_isCoreSo 163 = .ok (.if_icmp .ne 21, 3) := by decide +kernel
theorem dL_isCoreSo_166 : decode cL_isCoreSo 166 = .ok (.aload_n 0, 1) := by decide +kernel
theorem dL_isCoreSo_167 : decode cL_isCoreSo 167 = .ok (.iload 4, 2) := by decide +kernel
theorem dL_isCoreSo_169 : decode cL_isCoreSo 169 = .ok (.iload_n 1, 1) := by decide +kernel
theorem dL_isCoreSo_170 : decode cL_isCoreSo 170 = .ok (.invokevirtual 72, 3) := by decide +kernel
theorem dL_isCoreSo_173 : decode cL_isCoreSo 173 = .ok (.iload_n 2, 1) := by decide +kernel
theorem dL_isCoreSo_174 : decode cL_isCoreSo 174 = .ok (.invokestatic 51, 3) := by decide +kernel
theorem dL_isCoreSo_177 : decode cL_isCoreSo 177 = .ok (.if_icmp .gt 7, 3) := by decide +kernel
theorem dL_isCoreSo_180 : decode cL_isCoreSo 180 = .ok (.iconst 1, 1) := by decide +kernel
theorem dL_isCoreSo_181 : decode cL_isCoreSo 181 = .ok (.goto 4, 3) := by decide +kernel
theorem dL_isCoreSo_184 : decode cL_isCoreSo 184 = .ok (.iconst 0, 1) := by decide +kernel
theorem dL_isCoreSo_185 : decode cL_isCoreSo 185 = .ok (.istore_n 3, 1) := by decide +kernel
theorem dL_isCoreSo_186 : decode cL_isCoreSo 186 = .ok (.iinc 4 1, 3) := by decide +kernel
theorem dL_isCoreSo_189 : decode cL_isCoreSo 189 = .ok (.goto (-136), 3) := by decide +kernel
theorem dL_isCoreSo_192 : decode cL_isCoreSo 192 = .ok (.aload_n 0, 1) := by decide +kernel
theorem dL_isCoreSo_193 : decode cL_isCoreSo 193 = .ok (.iload_n 1, 1) := by decide +kernel
theorem dL_isCoreSo_194 : decode cL_isCoreSo 194 = .ok (.invokevirtual 75, 3) := by decide +kernel
theorem dL_isCoreSo_197 : decode cL_isCoreSo 197 = .ok (.istore 4, 2) := by decide +kernel
theorem dL_isCoreSo_199 : decode cL_isCoreSo 199 = .ok (.iload_n 3, 1) := by decide +kernel
theorem dL_isCoreSo_200 : decode cL_isCoreSo 200 = .ok (.ifCond .eq 38, 3) := by decide +kernel
theorem dL_isCoreSo_203 : decode cL_isCoreSo 203 = .ok (.iload 4, 2) := by decide +kernel
theorem dL_isCoreSo_205 : decode cL_isCoreSo 205 = .ok (.iload_n 2, 1) := by decide +kernel
theorem dL_isCoreSo_206 : decode cL_isCoreSo 206 = .ok (.invokestatic 51, 3) := by decide +kernel
theorem dL_isCoreSo_209 : decode cL_isCoreSo 209 = .ok (.if_icmp .gt 29, 3) := by decide +kernel
theorem dL_isCoreSo_212 : decode cL_isCoreSo 212 = .ok (.iload 4, 2) := by decide +kernel
theorem dL_isCoreSo_214 : decode cL_isCoreSo 214 = .ok (.ifCond .ne 7, 3) := by decide +kernel
theorem dL_isCoreSo_217 : decode cL_isCoreSo 217 = .ok (.iconst 1, 1) := by decide +kernel
theorem dL_isCoreSo_218 : decode cL_isCoreSo 218 = .ok (.goto 4, 3) := by decide +kernel
theorem dL_isCoreSo_221 : decode cL_isCoreSo 221 = .ok (.iconst 0, 1) := by decide +kernel
theorem dL_isCoreSo_222 : decode cL_isCoreSo 222 = .ok (.iload_n 2, 1) := by decide +kernel
theorem dL_isCoreSo_223 : decode cL_isCoreSo 223 = .ok (.ifCond .ne 7, 3) := by decide +kernel
theorem dL_isCoreSo_226 : decode cL_isCoreSo 226 = .ok (.iconst 1, 1) := by decide +kernel
theorem dL_isCoreSo_227 : decode cL_isCoreSo 227 = .ok (.goto 4, 3) := by decide +kernel
theorem dL_isCoreSo_230 : decode cL_isCoreSo 230 = .ok (.iconst 0, 1) := by decide +kernel
theorem dL_isCoreSo_231 : decode cL_isCoreSo 231 = .ok (.if_icmp .ne 7, 3) := by decide +kernel
theorem dL_isCoreSo_234 : decode cL_isCoreSo 234 = .ok (.iconst 1, 1) := by decide +kernel
theorem dL_isCoreSo_235 : decode cL_isCoreSo 235 = .ok (.goto 4, 3) := by decide +kernel
theorem dL_isCoreSo_238 : decode cL_isCoreSo 238 = .ok (.iconst 0, 1) := by decide +kernel
theorem dL_isCoreSo_239 : decode cL_isCoreSo 239 = .ok (.ireturn, 1) := by decide +kernel
set_option maxRecDepth 20000 in
theorem ggL_isPlantSo_X7_coreOf : GoodIn wsL_isPlantSo wsX7_coreOf := goodIn_ca (goodIn_r _ [5, 6, 7, 8, 9, 4, 10, 11, 12, 13, 14, 15, 16, 17, 18, 19, 20, 21, 22, 23, 24, 25, 26, 27, 28, 29, 30, 31, 32, 33, 34, 35, 36, 37, 38, 39, 40, 41, 42, 43, 44, 45, 46, 47, 48, 49, 50, 51, 52, 53, 54, 55, 56, 57, 58, 59, 60, 61, 275, 276, 277, 278, 279, 280, 281, 282, 283, 284, 285, 286, 287, 288] (by decide +kernel) (by decide +kernel)) (goodIn_sub (fun _ h => List.mem_cons_of_mem _ (List.mem_append_left _ (List.mem_append_left _ (List.mem_append_right _ h)))) (by decide +kernel))
set_option maxRecDepth 20000 in
theorem gL_isPlantSo_X7_coreOf : GoodIn wsL_isPlantSo (wsV RL 69 RX7 yX7_coreOf wsX7_coreOf) := goodIn_app (goodIn_of _ (by decide +kernel)) ggL_isPlantSo_X7_coreOf
set_option maxRecDepth 20000 in
theorem ggL_isPlantSo_X7_coreByRounds : GoodIn wsL_isPlantSo wsX7_coreByRounds := goodIn_ca (goodIn_r _ [65, 6, 7, 8, 9, 4, 10, 11, 12, 13, 14, 15, 16, 17, 18, 19, 66, 67, 68, 23, 69, 25, 70, 71, 72, 73, 74, 75, 76, 40, 41, 77, 78, 79, 80, 46, 47, 48, 49, 50, 51, 52, 53, 54, 55, 56, 57, 58, 59, 60, 61, 81, 82, 83, 84, 85, 86, 87, 88, 89, 90, 91, 92, 93, 94, 95, 96, 97, 98, 99, 100, 101, 275, 276, 277, 278, 279, 280, 281, 282, 283, 284, 285, 286, 287, 288] (by decide +kernel) (by decide +kernel)) (goodIn_sub (fun _ h => List.mem_cons_of_mem _ (List.mem_append_left _ (List.mem_append_left _ (List.mem_append_right _ h)))) (by decide +kernel))
set_option maxRecDepth 20000 in
theorem gL_isPlantSo_X7_coreByRounds : GoodIn wsL_isPlantSo (wsV RL 78 RX7 yX7_coreByRounds wsX7_coreByRounds) := goodIn_app (goodIn_of _ (by decide +kernel)) ggL_isPlantSo_X7_coreByRounds
set_option maxRecDepth 20000 in
theorem ggL_isPlantSo_X7_isPropped : GoodIn wsL_isPlantSo wsX7_isPropped := goodIn_ca (goodIn_r _ [105, 13, 7, 8, 9, 4, 10, 11, 12, 14, 15, 16, 17, 18, 19, 106, 72, 73, 74, 75, 76, 40, 41, 275, 276, 277, 278, 279, 280, 281, 282, 283, 284, 285] (by decide +kernel) (by decide +kernel)) (goodIn_sub (fun _ h => List.mem_cons_of_mem _ (List.mem_append_left _ (List.mem_append_left _ (List.mem_append_right _ h)))) (by decide +kernel))
set_option maxRecDepth 20000 in
theorem gL_isPlantSo_X7_isPropped : GoodIn wsL_isPlantSo (wsV RL 21 RX7 yX7_isPropped wsX7_isPropped) := goodIn_app (goodIn_of _ (by decide +kernel)) ggL_isPlantSo_X7_isPropped
set_option maxRecDepth 20000 in
theorem ggL_isPlantSo_X7_neighbors : GoodIn wsL_isPlantSo wsX7_neighbors := goodIn_ca (goodIn_r _ [110, 13, 7, 8, 9, 4, 10, 11, 12, 14, 15, 16, 17, 18, 19, 111, 43, 44, 45, 46, 47, 48, 49, 50, 51, 52, 275, 276, 277, 278, 279, 280, 281, 282, 283, 284, 285, 288] (by decide +kernel) (by decide +kernel)) (goodIn_sub (fun _ h => List.mem_cons_of_mem _ (List.mem_append_left _ (List.mem_append_left _ (List.mem_append_right _ h)))) (by decide +kernel))
set_option maxRecDepth 20000 in
theorem gL_isPlantSo_X7_neighbors : GoodIn wsL_isPlantSo (wsV RL 17 RX7 yX7_neighbors wsX7_neighbors) := goodIn_app (goodIn_of _ (by decide +kernel)) ggL_isPlantSo_X7_neighbors
set_option maxRecDepth 20000 in
theorem ggL_isPlantSo_L_bits : GoodIn wsL_isPlantSo wsL_bits := goodIn_r _ [115] (by decide +kernel) (by decide +kernel)
set_option maxRecDepth 20000 in
theorem gL_isPlantSo_L_bits : GoodIn wsL_isPlantSo (va_wsS RL 51 yL_bits wsL_bits) := goodIn_app (goodIn_of _ (by decide +kernel)) ggL_isPlantSo_L_bits
set_option maxRecDepth 20000 in
theorem ggL_isPlantSo_X7_greatestCore : GoodIn wsL_isPlantSo wsX7_greatestCore := goodIn_r _ [119, 6, 120, 121, 122, 23, 123, 25, 26, 27, 28, 17, 29, 19, 30, 4, 31, 32, 33, 34, 35, 36, 37, 38, 39, 40, 41, 42, 43, 44, 45, 46, 47, 48, 49, 50, 51, 52, 53, 54, 55, 56, 57, 58, 59, 60, 61, 275, 276, 277, 278, 279, 280, 281, 282, 286, 287, 283, 284, 285, 288] (by decide +kernel) (by decide +kernel)
set_option maxRecDepth 20000 in
theorem gL_isPlantSo_X7_greatestCore : GoodIn wsL_isPlantSo (wsV RL 81 RX7 yX7_greatestCore wsX7_greatestCore) := goodIn_app (goodIn_of _ (by decide +kernel)) ggL_isPlantSo_X7_greatestCore
set_option maxRecDepth 20000 in
theorem ggL_isPlantSo_X7_plantCount : GoodIn wsL_isPlantSo wsX7_plantCount := goodIn_r _ [127, 13, 275, 276, 277, 278, 279, 280, 281, 282, 283, 284, 285] (by decide +kernel) (by decide +kernel)
set_option maxRecDepth 20000 in
theorem gL_isPlantSo_X7_plantCount : GoodIn wsL_isPlantSo (wsV RL 8 RX7 yX7_plantCount wsX7_plantCount) := goodIn_app (goodIn_of _ (by decide +kernel)) ggL_isPlantSo_X7_plantCount
set_option maxRecDepth 20000 in
theorem ggL_isPlantSo_X7_placeOf : GoodIn wsL_isPlantSo wsX7_placeOf := goodIn_ca (goodIn_r _ [131, 132, 7, 8, 9, 4, 10, 11, 12, 13, 14, 15, 16, 17, 18, 19, 133, 134, 135, 136, 137, 138, 139, 140, 141, 142, 143, 144, 27, 28, 29, 30, 31, 145, 146, 147, 148, 149, 43, 44, 45, 46, 47, 48, 49, 50, 51, 52, 53, 54, 55, 56, 57, 58, 59, 60, 61, 40, 41, 150, 82, 83, 84, 151, 275, 276, 277, 278, 279, 280, 281, 282, 283, 284, 285, 289, 290, 291, 288] (by decide +kernel) (by decide +kernel)) (goodIn_sub (fun _ h => List.mem_cons_of_mem _ (List.mem_append_left _ (List.mem_append_left _ (List.mem_append_right _ h)))) (by decide +kernel))
set_option maxRecDepth 20000 in
theorem gL_isPlantSo_X7_placeOf : GoodIn wsL_isPlantSo (wsV RL 84 RX7 yX7_placeOf wsX7_placeOf) := goodIn_app (goodIn_of _ (by decide +kernel)) ggL_isPlantSo_X7_placeOf
set_option maxRecDepth 20000 in
theorem ggL_isPlantSo_X7_colorOf : GoodIn wsL_isPlantSo wsX7_colorOf := goodIn_ca (goodIn_r _ [155, 132, 7, 8, 9, 4, 10, 11, 12, 13, 14, 15, 16, 17, 18, 19, 156, 157, 158, 136, 159, 160, 161, 162, 163, 164, 138, 139, 140, 141, 142, 143, 144, 27, 28, 29, 30, 31, 145, 146, 147, 148, 149, 43, 44, 45, 46, 47, 48, 49, 50, 51, 52, 53, 54, 55, 56, 57, 58, 59, 60, 61, 40, 41, 150, 82, 83, 84, 151, 165, 166, 167, 168, 275, 276, 277, 278, 279, 280, 281, 282, 283, 284, 285, 289, 290, 291, 288] (by decide +kernel) (by decide +kernel)) (goodIn_sub (fun _ h => List.mem_cons_of_mem _ (List.mem_append_left _ (List.mem_append_left _ (List.mem_append_right _ h)))) (by decide +kernel))
set_option maxRecDepth 20000 in
theorem gL_isPlantSo_X7_colorOf : GoodIn wsL_isPlantSo (wsV RL 87 RX7 yX7_colorOf wsX7_colorOf) := goodIn_app (goodIn_of _ (by decide +kernel)) ggL_isPlantSo_X7_colorOf
set_option maxRecDepth 20000 in
theorem ggL_isPlantSo_L_isThornSo : GoodIn wsL_isPlantSo wsL_isThornSo := goodIn_ca (goodIn_ca (goodIn_ca (goodIn_r _ [171, 172, 173, 174, 4, 175, 176, 177, 178, 179, 180, 181, 182, 13, 7, 8, 9, 10, 11, 12, 14, 15, 16, 17, 18, 19, 183, 99, 100, 101, 46, 76, 47, 48, 49, 50, 51, 52, 40, 41, 184, 185, 186, 187, 188, 189, 190, 191, 192, 193, 194, 195, 43, 44, 45, 196, 82, 83, 84, 197, 198, 199, 200, 201, 202, 203, 204, 205, 53, 54, 55, 56, 57, 58, 59, 60, 61, 30, 31, 206, 207, 208, 209, 210, 211, 212, 213, 214, 215, 216, 217, 218, 219, 220, 221, 222, 223, 224, 225, 226, 227, 228, 229, 230, 231, 232, 233, 234, 235, 236, 237, 238, 239, 240, 241, 242, 243, 244, 245, 246, 247, 248, 249, 107, 108, 109, 110, 111, 112, 113, 114, 115, 250, 251, 252, 253, 254, 255, 256, 257, 258, 259, 260, 261, 262, 263, 275, 276, 277, 278, 279, 280, 281, 282, 283, 284, 285, 288, 292, 293, 294] (by decide +kernel) (by decide +kernel)) (goodIn_sub (fun _ h => List.mem_cons_of_mem _ (List.mem_append_left _ (List.mem_append_right _ h))) (by decide +kernel))) (goodIn_sub (fun _ h => List.mem_cons_of_mem _ (List.mem_append_left _ (List.mem_append_left _ (List.mem_append_right _ h)))) (by decide +kernel))) (goodIn_sub (fun _ h => List.mem_cons_of_mem _ (List.mem_append_right _ h)) (by decide +kernel))
set_option maxRecDepth 20000 in
theorem gL_isPlantSo_L_isThornSo : GoodIn wsL_isPlantSo (va_wsS RL 90 yL_isThornSo wsL_isThornSo) := goodIn_app (goodIn_of _ (by decide +kernel)) ggL_isPlantSo_L_isThornSo
set_option maxRecDepth 20000 in
theorem ggL_isPlantSo_X7_colors : GoodIn wsL_isPlantSo wsX7_colors := goodIn_r _ [267, 132, 268, 269, 270, 136, 271, 138, 160, 272, 273, 242, 274, 161, 162, 163, 164, 139, 140, 141, 142, 143, 144, 27, 28, 17, 29, 19, 30, 4, 31, 145, 146, 147, 148, 149, 43, 44, 45, 46, 47, 48, 49, 50, 51, 52, 53, 54, 55, 56, 57, 58, 59, 60, 61, 40, 41, 150, 82, 83, 84, 151, 165, 166, 167, 168, 275, 276, 277, 278, 279, 280, 281, 282, 289, 290, 291, 283, 284, 285, 288] (by decide +kernel) (by decide +kernel)
set_option maxRecDepth 20000 in
theorem gL_isPlantSo_X7_colors : GoodIn wsL_isPlantSo (wsV RL 93 RX7 yX7_colors wsX7_colors) := goodIn_app (goodIn_of _ (by decide +kernel)) ggL_isPlantSo_X7_colors
theorem dL_isPlantSo_0 : decode cL_isPlantSo 0 = .ok (.aload_n 0, 1) := by decide +kernel
theorem dL_isPlantSo_1 : decode cL_isPlantSo 1 = .ok (.iload_n 1, 1) := by decide +kernel
theorem dL_isPlantSo_2 : decode cL_isPlantSo 2 = .ok (.invokevirtual 69, 3) := by decide +kernel
theorem dL_isPlantSo_5 : decode cL_isPlantSo 5 = .ok (.istore_n 2, 1) := by decide +kernel
theorem dL_isPlantSo_6 : decode cL_isPlantSo 6 = .ok (.iconst 0, 1) := by decide +kernel
theorem dL_isPlantSo_7 : decode cL_isPlantSo 7 = .ok (.istore_n 3, 1) := by decide +kernel
theorem dL_isPlantSo_8 : decode cL_isPlantSo 8 = .ok (.aload_n 0, 1) := by decide +kernel
theorem dL_isPlantSo_9 : decode cL_isPlantSo 9 = .ok (.iload_n 1, 1) := by decide +kernel
theorem dL_isPlantSo_10 : decode cL_isPlantSo 10 = .ok (.invokevirtual 78, 3) := by decide +kernel
theorem dL_isPlantSo_13 : decode cL_isPlantSo 13 = .ok (.iload_n 2, 1) := by decide +kernel
theorem dL_isPlantSo_14 : decode cL_isPlantSo 14 = .ok (.if_icmp .ne 56, 3) := by decide +kernel
theorem dL_isPlantSo_17 : decode cL_isPlantSo 17 = .ok (.aload_n 0, 1) := by decide +kernel
theorem dL_isPlantSo_18 : decode cL_isPlantSo 18 = .ok (.iload_n 1, 1) := by decide +kernel
theorem dL_isPlantSo_19 : decode cL_isPlantSo 19 = .ok (.invokevirtual 21, 3) := by decide +kernel
theorem dL_isPlantSo_22 : decode cL_isPlantSo 22 = .ok (.ifCond .eq 12, 3) := by decide +kernel
theorem dL_isPlantSo_25 : decode cL_isPlantSo 25 = .ok (.iload_n 2, 1) := by decide +kernel
theorem dL_isPlantSo_26 : decode cL_isPlantSo 26 = .ok (.bipush 15, 2) := by decide +kernel
theorem dL_isPlantSo_28 : decode cL_isPlantSo 28 = .ok (.if_icmp .ne 42, 3) := by decide +kernel
theorem dL_isPlantSo_31 : decode cL_isPlantSo 31 = .ok (.goto 23, 3) := by decide +kernel
theorem dL_isPlantSo_34 : decode cL_isPlantSo 34 = .ok (.iload_n 2, 1) := by decide +kernel
theorem dL_isPlantSo_35 : decode cL_isPlantSo 35 = .ok (.aload_n 0, 1) := by decide +kernel
theorem dL_isPlantSo_36 : decode cL_isPlantSo 36 = .ok (.iload_n 1, 1) := by decide +kernel
theorem dL_isPlantSo_37 : decode cL_isPlantSo 37 = .ok (.invokevirtual 17, 3) := by decide +kernel
theorem dL_isPlantSo_40 : decode cL_isPlantSo 40 = .ok (.invokestatic 51, 3) := by decide +kernel
theorem dL_isPlantSo_43 : decode cL_isPlantSo 43 = .ok (.if_icmp .gt 27, 3) := by decide +kernel
theorem dL_isPlantSo_46 : decode cL_isPlantSo 46 = .ok (.iload_n 2, 1) := by decide +kernel
theorem dL_isPlantSo_47 : decode cL_isPlantSo 47 = .ok (.aload_n 0, 1) := by decide +kernel
theorem dL_isPlantSo_48 : decode cL_isPlantSo 48 = .ok (.invokevirtual 81, 3) := by decide +kernel
theorem dL_isPlantSo_51 : decode cL_isPlantSo 51 = .ok (.if_icmp .gt 19, 3) := by decide +kernel
theorem dL_isPlantSo_54 : decode cL_isPlantSo 54 = .ok (.aload_n 0, 1) := by decide +kernel
theorem dL_isPlantSo_55 : decode cL_isPlantSo 55 = .ok (.iload_n 1, 1) := by decide +kernel
theorem dL_isPlantSo_56 : decode cL_isPlantSo 56 = .ok (.invokevirtual 17, 3) := by decide +kernel
theorem dL_isPlantSo_59 : decode cL_isPlantSo 59 = .ok (.iload_n 1, 1) := by decide +kernel
theorem dL_isPlantSo_60 : decode cL_isPlantSo 60 = .ok (.ishr, 1) := by decide +kernel
theorem dL_isPlantSo_61 : decode cL_isPlantSo 61 = .ok (.iconst 1, 1) := by decide +kernel
theorem dL_isPlantSo_62 : decode cL_isPlantSo 62 = .ok (.iand, 1) := by decide +kernel
theorem dL_isPlantSo_63 : decode cL_isPlantSo 63 = .ok (.ifCond .ne 7, 3) := by decide +kernel
theorem dL_isPlantSo_66 : decode cL_isPlantSo 66 = .ok (.iconst 1, 1) := by decide +kernel
theorem dL_isPlantSo_67 : decode cL_isPlantSo 67 = .ok (.goto 4, 3) := by decide +kernel
theorem dL_isPlantSo_70 : decode cL_isPlantSo 70 = .ok (.iconst 0, 1) := by decide +kernel
theorem dL_isPlantSo_71 : decode cL_isPlantSo 71 = .ok (.istore 4, 2) := by decide +kernel
theorem dL_isPlantSo_73 : decode cL_isPlantSo 73 = .ok (.iconst 0, 1) := by decide +kernel
theorem dL_isPlantSo_74 : decode cL_isPlantSo 74 = .ok (.istore 5, 2) := by decide +kernel
theorem dL_isPlantSo_76 : decode cL_isPlantSo 76 = .ok (.iload 5, 2) := by decide +kernel
theorem dL_isPlantSo_78 : decode cL_isPlantSo 78 = .ok (.aload_n 0, 1) := by decide +kernel
theorem dL_isPlantSo_79 : decode cL_isPlantSo 79 = .ok (.invokevirtual 8, 3) := by decide +kernel
theorem dL_isPlantSo_82 : decode cL_isPlantSo 82 = .ok (.if_icmp .ge 148, 3) := by decide +kernel
theorem dL_isPlantSo_85 : decode cL_isPlantSo 85 = .ok (.iload_n 3, 1) := by decide +kernel
theorem dL_isPlantSo_86 : decode cL_isPlantSo 86 = .ok (.aload_n 0, 1) := by decide +kernel
theorem dL_isPlantSo_87 : decode cL_isPlantSo 87 = .ok (.iload 5, 2) := by decide +kernel
theorem dL_isPlantSo_89 : decode cL_isPlantSo 89 = .ok (.invokevirtual 84, 3) := by decide +kernel
theorem dL_isPlantSo_92 : decode cL_isPlantSo 92 = .ok (.aload_n 0, 1) := by decide +kernel
theorem dL_isPlantSo_93 : decode cL_isPlantSo 93 = .ok (.iload_n 1, 1) := by decide +kernel
theorem dL_isPlantSo_94 : decode cL_isPlantSo 94 = .ok (.invokevirtual 84, 3) := by decide +kernel
theorem dL_isPlantSo_97 : decode cL_isPlantSo 97 = .ok (.if_icmp .ge 7, 3) := by decide +kernel
theorem dL_isPlantSo_100 : decode cL_isPlantSo 100 = .ok (.iconst 1, 1) := by decide +kernel
theorem dL_isPlantSo_101 : decode cL_isPlantSo 101 = .ok (.goto 4, 3) := by decide +kernel
theorem dL_isPlantSo_104 : decode cL_isPlantSo 104 = .ok (.iconst 0, 1) := by decide +kernel
theorem dL_isPlantSo_105 : decode cL_isPlantSo 105 = .ok (.iadd, 1) := by decide +kernel
theorem dL_isPlantSo_106 : decode cL_isPlantSo 106 = .ok (.istore_n 3, 1) := by decide +kernel
theorem dL_isPlantSo_107 : decode cL_isPlantSo 107 = .ok (.aload_n 0, 1) := by decide +kernel
theorem dL_isPlantSo_108 : decode cL_isPlantSo 108 = .ok (.iload_n 1, 1) := by decide +kernel
theorem dL_isPlantSo_109 : decode cL_isPlantSo 109 = .ok (.invokevirtual 17, 3) := by decide +kernel
theorem dL_isPlantSo_112 : decode cL_isPlantSo 112 = .ok (.iload 5, 2) := by decide +kernel
theorem dL_isPlantSo_114 : decode cL_isPlantSo 114 = .ok (.ishr, 1) := by decide +kernel
theorem dL_isPlantSo_115 : decode cL_isPlantSo 115 = .ok (.iconst 1, 1) := by decide +kernel
theorem dL_isPlantSo_116 : decode cL_isPlantSo 116 = .ok (.iand, 1) := by decide +kernel
theorem dL_isPlantSo_117 : decode cL_isPlantSo 117 = .ok (.iconst 1, 1) := by decide +kernel
theorem dL_isPlantSo_118 : decode cL_isPlantSo 118 = .ok (.if_icmp .ne 7, 3) := by decide +kernel
theorem dL_isPlantSo_121 : decode cL_isPlantSo 121 = .ok (.iconst 1, 1) := by decide +kernel
theorem dL_isPlantSo_122 : decode cL_isPlantSo 122 = .ok (.goto 4, 3) := by decide +kernel
theorem dL_isPlantSo_125 : decode cL_isPlantSo 125 = .ok (.iconst 0, 1) := by decide +kernel
theorem dL_isPlantSo_126 : decode cL_isPlantSo 126 = .ok (.istore 6, 2) := by decide +kernel
theorem dL_isPlantSo_128 : decode cL_isPlantSo 128 = .ok (.iload 4, 2) := by decide +kernel
theorem dL_isPlantSo_130 : decode cL_isPlantSo 130 = .ok (.ifCond .eq 91, 3) := by decide +kernel
theorem dL_isPlantSo_133 : decode cL_isPlantSo 133 = .ok (.iload 6, 2) := by decide +kernel
theorem dL_isPlantSo_135 : decode cL_isPlantSo 135 = .ok (.aload_n 0, 1) := by decide +kernel
theorem dL_isPlantSo_136 : decode cL_isPlantSo 136 = .ok (.iload 5, 2) := by decide +kernel
theorem dL_isPlantSo_138 : decode cL_isPlantSo 138 = .ok (.invokevirtual 17, 3) := by decide +kernel
theorem dL_isPlantSo_141 : decode cL_isPlantSo 141 = .ok (.iload_n 1, 1) := by decide +kernel
theorem dL_isPlantSo_142 : decode cL_isPlantSo 142 = .ok (.ishr, 1) := by decide +kernel
theorem dL_isPlantSo_143 : decode cL_isPlantSo 143 = .ok (.iconst 1, 1) := by decide +kernel
theorem dL_isPlantSo_144 : decode cL_isPlantSo 144 = .ok (.iand, 1) := by decide +kernel
theorem dL_isPlantSo_145 : decode cL_isPlantSo 145 = .ok (.iconst 1, 1) := by decide +kernel
theorem dL_isPlantSo_146 : decode cL_isPlantSo 146 = .ok (.if_icmp .ne 7, 3) := by decide +kernel
theorem dL_isPlantSo_149 : decode cL_isPlantSo 149 = .ok (.iconst 1, 1) := by decide +kernel
theorem dL_isPlantSo_150 : decode cL_isPlantSo 150 = .ok (.goto 4, 3) := by decide +kernel
theorem dL_isPlantSo_153 : decode cL_isPlantSo 153 = .ok (.iconst 0, 1) := by decide +kernel
theorem dL_isPlantSo_154 : decode cL_isPlantSo 154 = .ok (.if_icmp .ne 67, 3) := by decide +kernel
theorem dL_isPlantSo_157 : decode cL_isPlantSo 157 = .ok (.iload 6, 2) := by decide +kernel
theorem dL_isPlantSo_159 : decode cL_isPlantSo 159 = .ok (.ifCond .eq 27, 3) := by decide +kernel
theorem dL_isPlantSo_162 : decode cL_isPlantSo 162 = .ok (.aload_n 0, 1) := by decide +kernel
theorem dL_isPlantSo_163 : decode cL_isPlantSo 163 = .ok (.iload_n 1, 1) := by decide +kernel
theorem dL_isPlantSo_164 : decode cL_isPlantSo 164 = .ok (.invokevirtual 87, 3) := by decide +kernel
theorem dL_isPlantSo_167 : decode cL_isPlantSo 167 = .ok (.aload_n 0, 1) := by decide +kernel
theorem dL_isPlantSo_168 : decode cL_isPlantSo 168 = .ok (.iload 5, 2) := by decide +kernel
theorem dL_isPlantSo_170 : decode cL_isPlantSo 170 = .ok (.invokevirtual 87, 3) := by decide +kernel
theorem dL_isPlantSo_173 : decode cL_isPlantSo 173 = .ok (.if_icmp .eq 48, 3) := by decide +kernel
theorem dL_isPlantSo_176 : decode cL_isPlantSo 176 = .ok (.aload_n 0, 1) := by decide +kernel
theorem dL_isPlantSo_177 : decode cL_isPlantSo 177 = .ok (.iload_n 1, 1) := by decide +kernel
theorem dL_isPlantSo_178 : decode cL_isPlantSo 178 = .ok (.iload 5, 2) := by decide +kernel
theorem dL_isPlantSo_180 : decode cL_isPlantSo 180 = .ok (.invokestatic 90, 3) := by decide +kernel
theorem dL_isPlantSo_183 : decode cL_isPlantSo 183 = .ok (.ifCond .eq 38, 3) := by decide +kernel
theorem dL_isPlantSo_186 : decode cL_isPlantSo 186 = .ok (.aload_n 0, 1) := by decide +kernel
theorem dL_isPlantSo_187 : decode cL_isPlantSo 187 = .ok (.iload_n 1, 1) := by decide +kernel
theorem dL_isPlantSo_188 : decode cL_isPlantSo 188 = .ok (.invokevirtual 21, 3) := by decide +kernel
theorem dL_isPlantSo_191 : decode cL_isPlantSo 191 = .ok (.ifCond .eq 26, 3) := by decide +kernel
theorem dL_isPlantSo_194 : decode cL_isPlantSo 194 = .ok (.aload_n 0, 1) := by decide +kernel
theorem dL_isPlantSo_195 : decode cL_isPlantSo 195 = .ok (.iload 5, 2) := by decide +kernel
theorem dL_isPlantSo_197 : decode cL_isPlantSo 197 = .ok (.invokevirtual 21, 3) := by decide +kernel
theorem dL_isPlantSo_200 : decode cL_isPlantSo 200 = .ok (.ifCond .ne 17, 3) := by decide +kernel
theorem dL_isPlantSo_203 : decode cL_isPlantSo 203 = .ok (.aload_n 0, 1) := by decide +kernel
theorem dL_isPlantSo_204 : decode cL_isPlantSo 204 = .ok (.iload 5, 2) := by decide +kernel
theorem dL_isPlantSo_206 : decode cL_isPlantSo 206 = .ok (.invokevirtual 84, 3) := by decide +kernel
theorem dL_isPlantSo_209 : decode cL_isPlantSo 209 = .ok (.aload_n 0, 1) := by decide +kernel
theorem dL_isPlantSo_210 : decode cL_isPlantSo 210 = .ok (.iload_n 1, 1) := by decide +kernel
theorem dL_isPlantSo_211 : decode cL_isPlantSo 211 = .ok (.invokevirtual 84, 3) := by decide +kernel
theorem dL_isPlantSo_214 : decode cL_isPlantSo 214 = .ok (.if_icmp .ge 7, 3) := by decide +kernel
theorem dL_isPlantSo_217 : decode cL_isPlantSo 217 = .ok (.iconst 1, 1) := by decide +kernel
theorem dL_isPlantSo_218 : decode cL_isPlantSo 218 = .ok (.goto 4, 3) := by decide +kernel
theorem dL_isPlantSo_221 : decode cL_isPlantSo 221 = .ok (.iconst 0, 1) := by decide +kernel
theorem dL_isPlantSo_222 : decode cL_isPlantSo 222 = .ok (.istore 4, 2) := by decide +kernel
theorem dL_isPlantSo_224 : decode cL_isPlantSo 224 = .ok (.iinc 5 1, 3) := by decide +kernel
theorem dL_isPlantSo_227 : decode cL_isPlantSo 227 = .ok (.goto (-151), 3) := by decide +kernel
theorem dL_isPlantSo_230 : decode cL_isPlantSo 230 = .ok (.iload 4, 2) := by decide +kernel
theorem dL_isPlantSo_232 : decode cL_isPlantSo 232 = .ok (.ifCond .eq 28, 3) := by decide +kernel
theorem dL_isPlantSo_235 : decode cL_isPlantSo 235 = .ok (.iload_n 3, 1) := by decide +kernel
theorem dL_isPlantSo_236 : decode cL_isPlantSo 236 = .ok (.aload_n 0, 1) := by decide +kernel
theorem dL_isPlantSo_237 : decode cL_isPlantSo 237 = .ok (.iload_n 1, 1) := by decide +kernel
theorem dL_isPlantSo_238 : decode cL_isPlantSo 238 = .ok (.invokevirtual 84, 3) := by decide +kernel
theorem dL_isPlantSo_241 : decode cL_isPlantSo 241 = .ok (.if_icmp .ne 19, 3) := by decide +kernel
theorem dL_isPlantSo_244 : decode cL_isPlantSo 244 = .ok (.aload_n 0, 1) := by decide +kernel
theorem dL_isPlantSo_245 : decode cL_isPlantSo 245 = .ok (.iload_n 1, 1) := by decide +kernel
theorem dL_isPlantSo_246 : decode cL_isPlantSo 246 = .ok (.invokevirtual 87, 3) := by decide +kernel
theorem dL_isPlantSo_249 : decode cL_isPlantSo 249 = .ok (.aload_n 0, 1) := by decide +kernel
theorem dL_isPlantSo_250 : decode cL_isPlantSo 250 = .ok (.invokevirtual 93, 3) := by decide +kernel
theorem dL_isPlantSo_253 : decode cL_isPlantSo 253 = .ok (.if_icmp .ge 7, 3) := by decide +kernel
theorem dL_isPlantSo_256 : decode cL_isPlantSo 256 = .ok (.iconst 1, 1) := by decide +kernel
theorem dL_isPlantSo_257 : decode cL_isPlantSo 257 = .ok (.goto 4, 3) := by decide +kernel
theorem dL_isPlantSo_260 : decode cL_isPlantSo 260 = .ok (.iconst 0, 1) := by decide +kernel
theorem dL_isPlantSo_261 : decode cL_isPlantSo 261 = .ok (.ireturn, 1) := by decide +kernel
set_option maxRecDepth 20000 in
theorem ggL_isThornSo_X7_trussOf : GoodIn wsL_isThornSo wsX7_trussOf := goodIn_ca (goodIn_ca (goodIn_r _ [5, 6, 7, 8, 9, 4, 10, 11, 12, 13, 14, 15, 16, 17, 18, 19, 20, 21, 22, 23, 24, 25, 26, 27, 28, 29, 30, 31, 32, 33, 34, 35, 36, 37, 38, 39, 40, 41, 42, 43, 44, 45, 46, 47, 48, 49, 50, 51, 52, 53, 54, 55, 56, 57, 58, 59, 60, 61, 62, 63, 64, 65, 66, 67, 68, 69, 70, 71, 72, 73, 74, 75, 76, 77, 78, 146, 147, 148, 149, 150, 151, 152, 153, 154, 155, 156, 157, 158, 159, 160] (by decide +kernel) (by decide +kernel)) (goodIn_sub (fun _ h => List.mem_cons_of_mem _ (List.mem_append_left _ (List.mem_append_left _ (List.mem_append_right _ h)))) (by decide +kernel))) (goodIn_sub (fun _ h => List.mem_cons_of_mem _ (List.mem_append_left _ (List.mem_append_right _ h))) (by decide +kernel))
set_option maxRecDepth 20000 in
theorem gL_isThornSo_X7_trussOf : GoodIn wsL_isThornSo (wsV RL 96 RX7 yX7_trussOf wsX7_trussOf) := goodIn_app (goodIn_of _ (by decide +kernel)) ggL_isThornSo_X7_trussOf
set_option maxRecDepth 20000 in
theorem ggL_isThornSo_X7_trussByRounds : GoodIn wsL_isThornSo wsX7_trussByRounds := goodIn_ca (goodIn_ca (goodIn_r _ [82, 6, 7, 8, 9, 4, 10, 11, 12, 13, 14, 15, 16, 17, 18, 19, 20, 21, 22, 23, 24, 25, 26, 27, 28, 29, 30, 31, 32, 33, 34, 35, 36, 37, 38, 39, 83, 84, 85, 43, 86, 50, 87, 88, 89, 90, 91, 68, 69, 70, 71, 72, 73, 74, 75, 76, 92, 93, 94, 95, 96, 55, 56, 57, 58, 97, 98, 99, 100, 101, 102, 103, 104, 105, 106, 107, 108, 67, 109, 110, 111, 112, 113, 114, 115, 116, 146, 147, 148, 149, 150, 151, 152, 153, 154, 155, 156, 157, 158, 159, 160] (by decide +kernel) (by decide +kernel)) (goodIn_sub (fun _ h => List.mem_cons_of_mem _ (List.mem_append_left _ (List.mem_append_left _ (List.mem_append_right _ h)))) (by decide +kernel))) (goodIn_sub (fun _ h => List.mem_cons_of_mem _ (List.mem_append_left _ (List.mem_append_right _ h))) (by decide +kernel))
set_option maxRecDepth 20000 in
theorem gL_isThornSo_X7_trussByRounds : GoodIn wsL_isThornSo (wsV RL 99 RX7 yX7_trussByRounds wsX7_trussByRounds) := goodIn_app (goodIn_of _ (by decide +kernel)) ggL_isThornSo_X7_trussByRounds
set_option maxRecDepth 20000 in
theorem ggL_isThornSo_X7_support : GoodIn wsL_isThornSo wsX7_support := goodIn_ca (goodIn_ca (goodIn_r _ [120, 13, 7, 8, 9, 4, 10, 11, 12, 14, 15, 16, 17, 18, 19, 20, 21, 22, 23, 24, 25, 26, 27, 28, 29, 30, 31, 32, 33, 34, 35, 36, 37, 38, 39, 121, 89, 90, 91, 122, 68, 69, 70, 71, 72, 73, 74, 75, 76, 146, 147, 148, 149, 150, 151, 152, 153, 154, 155, 156, 157] (by decide +kernel) (by decide +kernel)) (goodIn_sub (fun _ h => List.mem_cons_of_mem _ (List.mem_append_left _ (List.mem_append_left _ (List.mem_append_right _ h)))) (by decide +kernel))) (goodIn_sub (fun _ h => List.mem_cons_of_mem _ (List.mem_append_left _ (List.mem_append_right _ h))) (by decide +kernel))
set_option maxRecDepth 20000 in
theorem gL_isThornSo_X7_support : GoodIn wsL_isThornSo (wsV RL 57 RX7 yX7_support wsX7_support) := goodIn_app (goodIn_of _ (by decide +kernel)) ggL_isThornSo_X7_support
set_option maxRecDepth 20000 in
theorem ggL_isThornSo_X7_neighbors : GoodIn wsL_isThornSo wsX7_neighbors := goodIn_ca (goodIn_r _ [126, 13, 14, 15, 16, 4, 17, 18, 19, 20, 21, 22, 23, 24, 25, 127, 52, 53, 54, 30, 32, 33, 34, 35, 36, 37, 146, 147, 148, 149, 150, 151, 152, 153, 154, 155, 156, 157] (by decide +kernel) (by decide +kernel)) (goodIn_sub (fun _ h => List.mem_cons_of_mem _ (List.mem_append_left _ (List.mem_append_right _ h))) (by decide +kernel))
set_option maxRecDepth 20000 in
theorem gL_isThornSo_X7_neighbors : GoodIn wsL_isThornSo (wsV RL 17 RX7 yX7_neighbors wsX7_neighbors) := goodIn_app (goodIn_of _ (by decide +kernel)) ggL_isThornSo_X7_neighbors
set_option maxRecDepth 20000 in
theorem ggL_isThornSo_L_bits : GoodIn wsL_isThornSo wsL_bits := goodIn_r _ [131] (by decide +kernel) (by decide +kernel)
set_option maxRecDepth 20000 in
theorem gL_isThornSo_L_bits : GoodIn wsL_isThornSo (va_wsS RL 51 yL_bits wsL_bits) := goodIn_app (goodIn_of _ (by decide +kernel)) ggL_isThornSo_L_bits
set_option maxRecDepth 20000 in
theorem ggL_isThornSo_X7_trussSize : GoodIn wsL_isThornSo wsX7_trussSize := goodIn_ca (goodIn_r _ [135, 6, 136, 137, 138, 4, 139, 140, 141, 142, 143, 144, 43, 145, 45, 46, 47, 48, 49, 50, 51, 52, 53, 23, 54, 30, 32, 33, 34, 35, 36, 37, 55, 56, 57, 58, 59, 60, 61, 62, 63, 64, 65, 66, 67, 38, 39, 68, 69, 70, 71, 72, 73, 74, 75, 76, 77, 78, 146, 147, 148, 149, 150, 151, 152, 153, 158, 159, 160, 154, 155, 156, 157] (by decide +kernel) (by decide +kernel)) (goodIn_sub (fun _ h => List.mem_cons_of_mem _ (List.mem_append_right _ h)) (by decide +kernel))
set_option maxRecDepth 20000 in
theorem gL_isThornSo_X7_trussSize : GoodIn wsL_isThornSo (wsV RL 102 RX7 yX7_trussSize wsX7_trussSize) := goodIn_app (goodIn_of _ (by decide +kernel)) ggL_isThornSo_X7_trussSize
theorem dL_isThornSo_0 : decode cL_isThornSo 0 = .ok (.aload_n 0, 1) := by decide +kernel
theorem dL_isThornSo_1 : decode cL_isThornSo 1 = .ok (.iload_n 1, 1) := by decide +kernel
theorem dL_isThornSo_2 : decode cL_isThornSo 2 = .ok (.iload_n 2, 1) := by decide +kernel
theorem dL_isThornSo_3 : decode cL_isThornSo 3 = .ok (.invokevirtual 96, 3) := by decide +kernel
theorem dL_isThornSo_6 : decode cL_isThornSo 6 = .ok (.istore_n 3, 1) := by decide +kernel
theorem dL_isThornSo_7 : decode cL_isThornSo 7 = .ok (.aload_n 0, 1) := by decide +kernel
theorem dL_isThornSo_8 : decode cL_isThornSo 8 = .ok (.iload_n 1, 1) := by decide +kernel
theorem dL_isThornSo_9 : decode cL_isThornSo 9 = .ok (.iload_n 2, 1) := by decide +kernel
theorem dL_isThornSo_10 : decode cL_isThornSo 10 = .ok (.invokevirtual 99, 3) := by decide +kernel
theorem dL_isThornSo_13 : decode cL_isThornSo 13 = .ok (.iload_n 3, 1) := by decide +kernel
theorem dL_isThornSo_14 : decode cL_isThornSo 14 = .ok (.if_icmp .ne 62, 3) := by decide +kernel
theorem dL_isThornSo_17 : decode cL_isThornSo 17 = .ok (.aload_n 0, 1) := by decide +kernel
theorem dL_isThornSo_18 : decode cL_isThornSo 18 = .ok (.iload_n 2, 1) := by decide +kernel
theorem dL_isThornSo_19 : decode cL_isThornSo 19 = .ok (.iload_n 1, 1) := by decide +kernel
theorem dL_isThornSo_20 : decode cL_isThornSo 20 = .ok (.invokevirtual 96, 3) := by decide +kernel
theorem dL_isThornSo_23 : decode cL_isThornSo 23 = .ok (.iload_n 3, 1) := by decide +kernel
theorem dL_isThornSo_24 : decode cL_isThornSo 24 = .ok (.if_icmp .ne 52, 3) := by decide +kernel
theorem dL_isThornSo_27 : decode cL_isThornSo 27 = .ok (.iload_n 3, 1) := by decide +kernel
theorem dL_isThornSo_28 : decode cL_isThornSo 28 = .ok (.ifCond .lt 48, 3) := by decide +kernel
theorem dL_isThornSo_31 : decode cL_isThornSo 31 = .ok (.iload_n 3, 1) := by decide +kernel
theorem dL_isThornSo_32 : decode cL_isThornSo 32 = .ok (.aload_n 0, 1) := by decide +kernel
theorem dL_isThornSo_33 : decode cL_isThornSo 33 = .ok (.iload_n 1, 1) := by decide +kernel
theorem dL_isThornSo_34 : decode cL_isThornSo 34 = .ok (.iload_n 2, 1) := by decide +kernel
theorem dL_isThornSo_35 : decode cL_isThornSo 35 = .ok (.invokevirtual 57, 3) := by decide +kernel
theorem dL_isThornSo_38 : decode cL_isThornSo 38 = .ok (.if_icmp .gt 38, 3) := by decide +kernel
theorem dL_isThornSo_41 : decode cL_isThornSo 41 = .ok (.aload_n 0, 1) := by decide +kernel
theorem dL_isThornSo_42 : decode cL_isThornSo 42 = .ok (.iload_n 1, 1) := by decide +kernel
theorem dL_isThornSo_43 : decode cL_isThornSo 43 = .ok (.iload_n 2, 1) := by decide +kernel
theorem dL_isThornSo_44 : decode cL_isThornSo 44 = .ok (.invokevirtual 57, 3) := by decide +kernel
theorem dL_isThornSo_47 : decode cL_isThornSo 47 = .ok (.aload_n 0, 1) := by decide +kernel
theorem dL_isThornSo_48 : decode cL_isThornSo 48 = .ok (.iload_n 1, 1) := by decide +kernel
theorem dL_isThornSo_49 : decode cL_isThornSo 49 = .ok (.invokevirtual 17, 3) := by decide +kernel
theorem dL_isThornSo_52 : decode cL_isThornSo 52 = .ok (.aload_n 0, 1) := by decide +kernel
theorem dL_isThornSo_53 : decode cL_isThornSo 53 = .ok (.iload_n 2, 1) := by decide +kernel
theorem dL_isThornSo_54 : decode cL_isThornSo 54 = .ok (.invokevirtual 17, 3) := by decide +kernel
theorem dL_isThornSo_57 : decode cL_isThornSo 57 = .ok (.iand, 1) := by decide +kernel
theorem dL_isThornSo_58 : decode cL_isThornSo 58 = .ok (.invokestatic 51, 3) := by decide +kernel
theorem dL_isThornSo_61 : decode cL_isThornSo 61 = .ok (.if_icmp .ne 15, 3) := by decide +kernel
theorem dL_isThornSo_64 : decode cL_isThornSo 64 = .ok (.aload_n 0, 1) := by decide +kernel
theorem dL_isThornSo_65 : decode cL_isThornSo 65 = .ok (.iload_n 3, 1) := by decide +kernel
theorem dL_isThornSo_66 : decode cL_isThornSo 66 = .ok (.invokevirtual 102, 3) := by decide +kernel
theorem dL_isThornSo_69 : decode cL_isThornSo 69 = .ok (.ifCond .le 7, 3) := by decide +kernel
theorem dL_isThornSo_72 : decode cL_isThornSo 72 = .ok (.iconst 1, 1) := by decide +kernel
theorem dL_isThornSo_73 : decode cL_isThornSo 73 = .ok (.goto 4, 3) := by decide +kernel
theorem dL_isThornSo_76 : decode cL_isThornSo 76 = .ok (.iconst 0, 1) := by decide +kernel
theorem dL_isThornSo_77 : decode cL_isThornSo 77 = .ok (.ireturn, 1) := by decide +kernel
set_option maxRecDepth 20000 in
theorem ggL_areTotalsSo_X7_plantCount : GoodIn wsL_areTotalsSo wsX7_plantCount := goodIn_r _ [5, 6, 216, 217, 218, 219, 220, 221, 222, 223, 224, 225, 226] (by decide +kernel) (by decide +kernel)
set_option maxRecDepth 20000 in
theorem gL_areTotalsSo_X7_plantCount : GoodIn wsL_areTotalsSo (wsV RL 8 RX7 yX7_plantCount wsX7_plantCount) := goodIn_app (goodIn_of _ (by decide +kernel)) ggL_areTotalsSo_X7_plantCount
set_option maxRecDepth 20000 in
theorem ggL_areTotalsSo_X7_neighbors : GoodIn wsL_areTotalsSo wsX7_neighbors := goodIn_ca (goodIn_r _ [10, 6, 11, 12, 13, 4, 14, 15, 16, 17, 18, 19, 20, 21, 22, 23, 24, 25, 26, 27, 28, 29, 30, 31, 32, 33, 216, 217, 218, 219, 220, 221, 222, 223, 224, 225, 226, 227] (by decide +kernel) (by decide +kernel)) (goodIn_sub (fun _ h => List.mem_cons_of_mem _ (List.mem_append_left _ (List.mem_append_left _ (List.mem_append_right _ h)))) (by decide +kernel))
set_option maxRecDepth 20000 in
theorem gL_areTotalsSo_X7_neighbors : GoodIn wsL_areTotalsSo (wsV RL 17 RX7 yX7_neighbors wsX7_neighbors) := goodIn_app (goodIn_of _ (by decide +kernel)) ggL_areTotalsSo_X7_neighbors
set_option maxRecDepth 20000 in
theorem ggL_areTotalsSo_L_bits : GoodIn wsL_areTotalsSo wsL_bits := goodIn_r _ [37] (by decide +kernel) (by decide +kernel)
set_option maxRecDepth 20000 in
theorem gL_areTotalsSo_L_bits : GoodIn wsL_areTotalsSo (va_wsS RL 51 yL_bits wsL_bits) := goodIn_app (goodIn_of _ (by decide +kernel)) ggL_areTotalsSo_L_bits
set_option maxRecDepth 20000 in
theorem ggL_areTotalsSo_X7_isPropped : GoodIn wsL_areTotalsSo wsX7_isPropped := goodIn_ca (goodIn_r _ [41, 6, 11, 12, 13, 4, 14, 15, 16, 17, 18, 19, 20, 21, 22, 42, 43, 44, 45, 46, 47, 48, 49, 216, 217, 218, 219, 220, 221, 222, 223, 224, 225, 226] (by decide +kernel) (by decide +kernel)) (goodIn_sub (fun _ h => List.mem_cons_of_mem _ (List.mem_append_left _ (List.mem_append_left _ (List.mem_append_right _ h)))) (by decide +kernel))
set_option maxRecDepth 20000 in
theorem gL_areTotalsSo_X7_isPropped : GoodIn wsL_areTotalsSo (wsV RL 21 RX7 yX7_isPropped wsX7_isPropped) := goodIn_app (goodIn_of _ (by decide +kernel)) ggL_areTotalsSo_X7_isPropped
set_option maxRecDepth 20000 in
theorem ggL_areTotalsSo_X7_colorOf : GoodIn wsL_areTotalsSo wsX7_colorOf := goodIn_ca (goodIn_r _ [53, 54, 11, 12, 13, 4, 14, 15, 16, 6, 17, 18, 19, 20, 21, 22, 55, 56, 57, 58, 59, 60, 61, 62, 63, 64, 65, 66, 67, 68, 69, 70, 71, 72, 73, 74, 75, 76, 77, 78, 79, 80, 81, 24, 25, 26, 27, 28, 29, 30, 31, 32, 33, 82, 83, 84, 85, 86, 87, 88, 89, 90, 48, 49, 91, 92, 93, 94, 95, 96, 97, 98, 99, 216, 217, 218, 219, 220, 221, 222, 223, 224, 225, 226, 228, 229, 230, 227] (by decide +kernel) (by decide +kernel)) (goodIn_sub (fun _ h => List.mem_cons_of_mem _ (List.mem_append_left _ (List.mem_append_left _ (List.mem_append_right _ h)))) (by decide +kernel))
set_option maxRecDepth 20000 in
theorem gL_areTotalsSo_X7_colorOf : GoodIn wsL_areTotalsSo (wsV RL 87 RX7 yX7_colorOf wsX7_colorOf) := goodIn_app (goodIn_of _ (by decide +kernel)) ggL_areTotalsSo_X7_colorOf
set_option maxRecDepth 20000 in
theorem ggL_areTotalsSo_X7_thornCount : GoodIn wsL_areTotalsSo wsX7_thornCount := goodIn_r _ [103, 6, 104, 105, 106, 20, 107, 22, 108, 109, 110, 111, 27, 28, 29, 30, 31, 32, 33, 82, 4, 83, 84, 85, 86, 87, 88, 89, 90, 216, 217, 218, 219, 220, 221, 222, 223, 224, 225, 226, 227] (by decide +kernel) (by decide +kernel)
set_option maxRecDepth 20000 in
theorem gL_areTotalsSo_X7_thornCount : GoodIn wsL_areTotalsSo (wsV RL 45 RX7 yX7_thornCount wsX7_thornCount) := goodIn_app (goodIn_of _ (by decide +kernel)) ggL_areTotalsSo_X7_thornCount
set_option maxRecDepth 20000 in
theorem ggL_areTotalsSo_X7_triangles : GoodIn wsL_areTotalsSo wsX7_triangles := goodIn_r _ [115, 6, 116, 117, 118, 20, 119, 120, 121, 122, 123, 27, 47, 18, 19, 21, 22, 28, 29, 30, 31, 32, 33, 48, 4, 49, 216, 217, 218, 219, 220, 221, 222, 223, 224, 225, 226, 227] (by decide +kernel) (by decide +kernel)
set_option maxRecDepth 20000 in
theorem gL_areTotalsSo_X7_triangles : GoodIn wsL_areTotalsSo (wsV RL 48 RX7 yX7_triangles wsX7_triangles) := goodIn_app (goodIn_of _ (by decide +kernel)) ggL_areTotalsSo_X7_triangles
set_option maxRecDepth 20000 in
theorem ggL_areTotalsSo_X7_trianglesBySupport : GoodIn wsL_areTotalsSo wsX7_trianglesBySupport := goodIn_r _ [127, 6, 128, 121, 122, 20, 123, 27, 47, 18, 19, 21, 22, 28, 29, 30, 31, 32, 33, 48, 4, 49, 129, 130, 131, 132, 133, 82, 83, 84, 85, 86, 87, 88, 89, 90, 216, 217, 218, 219, 220, 221, 222, 223, 224, 225, 226, 227] (by decide +kernel) (by decide +kernel)
set_option maxRecDepth 20000 in
theorem gL_areTotalsSo_X7_trianglesBySupport : GoodIn wsL_areTotalsSo (wsV RL 105 RX7 yX7_trianglesBySupport wsX7_trianglesBySupport) := goodIn_app (goodIn_of _ (by decide +kernel)) ggL_areTotalsSo_X7_trianglesBySupport
set_option maxRecDepth 20000 in
theorem ggL_areTotalsSo_X7_colors : GoodIn wsL_areTotalsSo wsX7_colors := goodIn_r _ [137, 54, 138, 139, 140, 58, 141, 65, 60, 142, 143, 144, 145, 61, 62, 63, 64, 66, 67, 68, 69, 70, 71, 72, 73, 20, 74, 22, 75, 4, 76, 77, 78, 79, 80, 81, 24, 25, 26, 27, 28, 29, 30, 31, 32, 33, 82, 83, 84, 85, 86, 87, 88, 89, 90, 48, 49, 91, 92, 93, 94, 95, 96, 97, 98, 99, 216, 217, 218, 219, 220, 221, 222, 223, 228, 229, 230, 224, 225, 226, 227] (by decide +kernel) (by decide +kernel)
set_option maxRecDepth 20000 in
theorem gL_areTotalsSo_X7_colors : GoodIn wsL_areTotalsSo (wsV RL 93 RX7 yX7_colors wsX7_colors) := goodIn_app (goodIn_of _ (by decide +kernel)) ggL_areTotalsSo_X7_colors
set_option maxRecDepth 20000 in
theorem ggL_areTotalsSo_X7_greatestCore : GoodIn wsL_areTotalsSo wsX7_greatestCore := goodIn_r _ [149, 150, 151, 152, 153, 154, 155, 156, 157, 72, 73, 20, 74, 22, 75, 4, 76, 158, 159, 160, 161, 162, 163, 164, 165, 48, 49, 166, 24, 25, 26, 27, 28, 29, 30, 31, 32, 33, 82, 83, 84, 85, 86, 87, 88, 89, 90, 216, 217, 218, 219, 220, 221, 222, 223, 231, 232, 224, 225, 226, 227] (by decide +kernel) (by decide +kernel)
set_option maxRecDepth 20000 in
theorem gL_areTotalsSo_X7_greatestCore : GoodIn wsL_areTotalsSo (wsV RL 81 RX7 yX7_greatestCore wsX7_greatestCore) := goodIn_app (goodIn_of _ (by decide +kernel)) ggL_areTotalsSo_X7_greatestCore
set_option maxRecDepth 20000 in
theorem ggL_areTotalsSo_X7_trussSize : GoodIn wsL_areTotalsSo wsX7_trussSize := goodIn_ca (goodIn_r _ [170, 171, 172, 173, 174, 4, 175, 176, 177, 178, 179, 180, 181, 182, 183, 184, 185, 186, 187, 188, 189, 24, 25, 20, 26, 27, 28, 29, 30, 31, 32, 33, 190, 92, 93, 94, 191, 192, 193, 194, 195, 196, 197, 198, 199, 48, 49, 82, 83, 84, 85, 86, 87, 88, 89, 90, 75, 76, 216, 217, 218, 219, 220, 221, 222, 223, 233, 234, 235, 224, 225, 226, 227] (by decide +kernel) (by decide +kernel)) (goodIn_sub (fun _ h => List.mem_cons_of_mem _ (List.mem_append_left _ (List.mem_append_right _ h))) (by decide +kernel))
set_option maxRecDepth 20000 in
theorem gL_areTotalsSo_X7_trussSize : GoodIn wsL_areTotalsSo (wsV RL 102 RX7 yX7_trussSize wsX7_trussSize) := goodIn_app (goodIn_of _ (by decide +kernel)) ggL_areTotalsSo_X7_trussSize
set_option maxRecDepth 20000 in
theorem ggL_areTotalsSo_X7_averageNeighbors : GoodIn wsL_areTotalsSo wsX7_averageNeighbors := goodIn_r _ [203, 6, 104, 105, 106, 20, 107, 22, 108, 109, 110, 111, 27, 28, 29, 30, 31, 32, 33, 82, 4, 83, 84, 85, 86, 87, 88, 89, 90, 216, 217, 218, 219, 220, 221, 222, 223, 224, 225, 226, 227] (by decide +kernel) (by decide +kernel)
set_option maxRecDepth 20000 in
theorem gL_areTotalsSo_X7_averageNeighbors : GoodIn wsL_areTotalsSo (wsV RL 108 RX7 yX7_averageNeighbors wsX7_averageNeighbors) := goodIn_app (goodIn_of _ (by decide +kernel)) ggL_areTotalsSo_X7_averageNeighbors
set_option maxRecDepth 20000 in
theorem ggL_areTotalsSo_X7_bestProp : GoodIn wsL_areTotalsSo wsX7_bestProp := goodIn_ca (goodIn_ca (goodIn_r _ [207, 208, 209, 6, 150, 172, 173, 174, 4, 175, 176, 177, 210, 72, 73, 20, 74, 22, 75, 76, 211, 212, 213, 154, 214, 156, 215, 43, 44, 45, 46, 47, 18, 19, 21, 48, 49, 157, 158, 159, 160, 161, 162, 163, 164, 165, 166, 24, 25, 26, 27, 28, 29, 30, 31, 32, 33, 82, 83, 84, 85, 86, 87, 88, 89, 90, 216, 217, 218, 219, 220, 221, 222, 223, 224, 225, 226, 231, 232, 227] (by decide +kernel) (by decide +kernel)) (goodIn_sub (fun _ h => List.mem_cons_of_mem _ (List.mem_append_right _ h)) (by decide +kernel))) (goodIn_sub (fun _ h => List.mem_cons_of_mem _ (List.mem_append_left _ (List.mem_append_right _ h))) (by decide +kernel))
set_option maxRecDepth 20000 in
theorem gL_areTotalsSo_X7_bestProp : GoodIn wsL_areTotalsSo (wsV RL 112 RX7 yX7_bestProp wsX7_bestProp) := goodIn_app (goodIn_of _ (by decide +kernel)) ggL_areTotalsSo_X7_bestProp
theorem dL_areTotalsSo_0 : decode cL_areTotalsSo 0 = .ok (.iconst 0, 1) := by decide +kernel
theorem dL_areTotalsSo_1 : decode cL_areTotalsSo 1 = .ok (.istore_n 2, 1) := by decide +kernel
theorem dL_areTotalsSo_2 : decode cL_areTotalsSo 2 = .ok (.iconst 0, 1) := by decide +kernel
theorem dL_areTotalsSo_3 : decode cL_areTotalsSo 3 = .ok (.istore_n 3, 1) := by decide +kernel
theorem dL_areTotalsSo_4 : decode cL_areTotalsSo 4 = .ok (.iconst 0, 1) := by decide +kernel
theorem dL_areTotalsSo_5 : decode cL_areTotalsSo 5 = .ok (.istore 4, 2) := by decide +kernel
theorem dL_areTotalsSo_7 : decode cL_areTotalsSo 7 = .ok (.iconst 0, 1) := by decide +kernel
theorem dL_areTotalsSo_8 : decode cL_areTotalsSo 8 = .ok (.istore 5, 2) := by decide +kernel
theorem dL_areTotalsSo_10 : decode cL_areTotalsSo 10 = .ok (.iload 5, 2) := by decide +kernel
theorem dL_areTotalsSo_12 : decode cL_areTotalsSo 12 = .ok (.aload_n 0, 1) := by decide +kernel
theorem dL_areTotalsSo_13 : decode cL_areTotalsSo 13 = .ok (.invokevirtual 8, 3) := by decide +kernel
theorem dL_areTotalsSo_16 : decode cL_areTotalsSo 16 = .ok (.if_icmp .ge 66, 3) := by decide +kernel
theorem dL_areTotalsSo_19 : decode cL_areTotalsSo 19 = .ok (.iload_n 2, 1) := by decide +kernel
theorem dL_areTotalsSo_20 : decode cL_areTotalsSo 20 = .ok (.aload_n 0, 1) := by decide +kernel
theorem dL_areTotalsSo_21 : decode cL_areTotalsSo 21 = .ok (.iload 5, 2) := by decide +kernel
theorem dL_areTotalsSo_23 : decode cL_areTotalsSo 23 = .ok (.invokevirtual 17, 3) := by decide +kernel
theorem dL_areTotalsSo_26 : decode cL_areTotalsSo 26 = .ok (.invokestatic 51, 3) := by decide +kernel
theorem dL_areTotalsSo_29 : decode cL_areTotalsSo 29 = .ok (.iadd, 1) := by decide +kernel
theorem dL_areTotalsSo_30 : decode cL_areTotalsSo 30 = .ok (.istore_n 2, 1) := by decide +kernel
theorem dL_areTotalsSo_31 : decode cL_areTotalsSo 31 = .ok (.iload_n 3, 1) := by decide +kernel
theorem dL_areTotalsSo_32 : decode cL_areTotalsSo 32 = .ok (.aload_n 0, 1) := by decide +kernel
theorem dL_areTotalsSo_33 : decode cL_areTotalsSo 33 = .ok (.iload 5, 2) := by decide +kernel
theorem dL_areTotalsSo_35 : decode cL_areTotalsSo 35 = .ok (.invokevirtual 21, 3) := by decide +kernel
theorem dL_areTotalsSo_38 : decode cL_areTotalsSo 38 = .ok (.ifCond .eq 7, 3) := by decide +kernel
theorem dL_areTotalsSo_41 : decode cL_areTotalsSo 41 = .ok (.iconst 1, 1) := by decide +kernel
theorem dL_areTotalsSo_42 : decode cL_areTotalsSo 42 = .ok (.goto 4, 3) := by decide +kernel
theorem dL_areTotalsSo_45 : decode cL_areTotalsSo 45 = .ok (.iconst 0, 1) := by decide +kernel
theorem dL_areTotalsSo_46 : decode cL_areTotalsSo 46 = .ok (.iadd, 1) := by decide +kernel
theorem dL_areTotalsSo_47 : decode cL_areTotalsSo 47 = .ok (.istore_n 3, 1) := by decide +kernel
theorem dL_areTotalsSo_48 : decode cL_areTotalsSo 48 = .ok (.aload_n 0, 1) := by decide +kernel
theorem dL_areTotalsSo_49 : decode cL_areTotalsSo 49 = .ok (.iload 5, 2) := by decide +kernel
theorem dL_areTotalsSo_51 : decode cL_areTotalsSo 51 = .ok (.invokevirtual 87, 3) := by decide +kernel
theorem dL_areTotalsSo_54 : decode cL_areTotalsSo 54 = .ok (.iconst 1, 1) := by decide +kernel
theorem dL_areTotalsSo_55 : decode cL_areTotalsSo 55 = .ok (.iadd, 1) := by decide +kernel
theorem dL_areTotalsSo_56 : decode cL_areTotalsSo 56 = .ok (.iload 4, 2) := by decide +kernel
theorem dL_areTotalsSo_58 : decode cL_areTotalsSo 58 = .ok (.if_icmp .le 14, 3) := by decide +kernel
theorem dL_areTotalsSo_61 : decode cL_areTotalsSo 61 = .ok (.aload_n 0, 1) := by decide +kernel
theorem dL_areTotalsSo_62 : decode cL_areTotalsSo 62 = .ok (.iload 5, 2) := by decide +kernel
theorem dL_areTotalsSo_64 : decode cL_areTotalsSo 64 = .ok (.invokevirtual 87, 3) := by decide +kernel
theorem dL_areTotalsSo_67 : decode cL_areTotalsSo 67 = .ok (.iconst 1, 1) := by decide +kernel
theorem dL_areTotalsSo_68 : decode cL_areTotalsSo 68 = .ok (.iadd, 1) := by decide +kernel
theorem dL_areTotalsSo_69 : decode cL_areTotalsSo 69 = .ok (.goto 5, 3) := by decide +kernel
theorem dL_areTotalsSo_72 : decode cL_areTotalsSo 72 = .ok (.iload 4, 2) := by decide +kernel
theorem dL_areTotalsSo_74 : decode cL_areTotalsSo 74 = .ok (.istore 4, 2) := by decide +kernel
theorem dL_areTotalsSo_76 : decode cL_areTotalsSo 76 = .ok (.iinc 5 1, 3) := by decide +kernel
theorem dL_areTotalsSo_79 : decode cL_areTotalsSo 79 = .ok (.goto (-69), 3) := by decide +kernel
theorem dL_areTotalsSo_82 : decode cL_areTotalsSo 82 = .ok (.iconst 2, 1) := by decide +kernel
theorem dL_areTotalsSo_83 : decode cL_areTotalsSo 83 = .ok (.aload_n 0, 1) := by decide +kernel
theorem dL_areTotalsSo_84 : decode cL_areTotalsSo 84 = .ok (.invokevirtual 45, 3) := by decide +kernel
theorem dL_areTotalsSo_87 : decode cL_areTotalsSo 87 = .ok (.imul, 1) := by decide +kernel
theorem dL_areTotalsSo_88 : decode cL_areTotalsSo 88 = .ok (.iload_n 2, 1) := by decide +kernel
theorem dL_areTotalsSo_89 : decode cL_areTotalsSo 89 = .ok (.if_icmp .ne 75, 3) := by decide +kernel
theorem dL_areTotalsSo_92 : decode cL_areTotalsSo 92 = .ok (.aload_n 0, 1) := by decide +kernel
theorem dL_areTotalsSo_93 : decode cL_areTotalsSo 93 = .ok (.invokevirtual 48, 3) := by decide +kernel
theorem dL_areTotalsSo_96 : decode cL_areTotalsSo 96 = .ok (.aload_n 0, 1) := by decide +kernel
theorem dL_areTotalsSo_97 : decode cL_areTotalsSo 97 = .ok (.invokevirtual 105, 3) := by decide +kernel
theorem dL_areTotalsSo_100 : decode cL_areTotalsSo 100 = .ok (.if_icmp .ne 64, 3) := by decide +kernel
theorem dL_areTotalsSo_103 : decode cL_areTotalsSo 103 = .ok (.aload_n 0, 1) := by decide +kernel
theorem dL_areTotalsSo_104 : decode cL_areTotalsSo 104 = .ok (.invokevirtual 93, 3) := by decide +kernel
theorem dL_areTotalsSo_107 : decode cL_areTotalsSo 107 = .ok (.iload 4, 2) := by decide +kernel
theorem dL_areTotalsSo_109 : decode cL_areTotalsSo 109 = .ok (.if_icmp .ne 55, 3) := by decide +kernel
theorem dL_areTotalsSo_112 : decode cL_areTotalsSo 112 = .ok (.iload_n 3, 1) := by decide +kernel
theorem dL_areTotalsSo_113 : decode cL_areTotalsSo 113 = .ok (.ifCond .gt 16, 3) := by decide +kernel
theorem dL_areTotalsSo_116 : decode cL_areTotalsSo 116 = .ok (.aload_n 0, 1) := by decide +kernel
theorem dL_areTotalsSo_117 : decode cL_areTotalsSo 117 = .ok (.invokevirtual 93, 3) := by decide +kernel
theorem dL_areTotalsSo_120 : decode cL_areTotalsSo 120 = .ok (.aload_n 0, 1) := by decide +kernel
theorem dL_areTotalsSo_121 : decode cL_areTotalsSo 121 = .ok (.invokevirtual 81, 3) := by decide +kernel
theorem dL_areTotalsSo_124 : decode cL_areTotalsSo 124 = .ok (.iconst 1, 1) := by decide +kernel
theorem dL_areTotalsSo_125 : decode cL_areTotalsSo 125 = .ok (.iadd, 1) := by decide +kernel
theorem dL_areTotalsSo_126 : decode cL_areTotalsSo 126 = .ok (.if_icmp .gt 38, 3) := by decide +kernel
theorem dL_areTotalsSo_129 : decode cL_areTotalsSo 129 = .ok (.aload_n 0, 1) := by decide +kernel
theorem dL_areTotalsSo_130 : decode cL_areTotalsSo 130 = .ok (.iconst 0, 1) := by decide +kernel
theorem dL_areTotalsSo_131 : decode cL_areTotalsSo 131 = .ok (.invokevirtual 102, 3) := by decide +kernel
theorem dL_areTotalsSo_134 : decode cL_areTotalsSo 134 = .ok (.aload_n 0, 1) := by decide +kernel
theorem dL_areTotalsSo_135 : decode cL_areTotalsSo 135 = .ok (.invokevirtual 45, 3) := by decide +kernel
theorem dL_areTotalsSo_138 : decode cL_areTotalsSo 138 = .ok (.if_icmp .ne 26, 3) := by decide +kernel
theorem dL_areTotalsSo_141 : decode cL_areTotalsSo 141 = .ok (.iload_n 1, 1) := by decide +kernel
theorem dL_areTotalsSo_142 : decode cL_areTotalsSo 142 = .ok (.ifCond .eq 18, 3) := by decide +kernel
theorem dL_areTotalsSo_145 : decode cL_areTotalsSo 145 = .ok (.aload_n 0, 1) := by decide +kernel
theorem dL_areTotalsSo_146 : decode cL_areTotalsSo 146 = .ok (.iload_n 1, 1) := by decide +kernel
theorem dL_areTotalsSo_147 : decode cL_areTotalsSo 147 = .ok (.invokevirtual 102, 3) := by decide +kernel
theorem dL_areTotalsSo_150 : decode cL_areTotalsSo 150 = .ok (.aload_n 0, 1) := by decide +kernel
theorem dL_areTotalsSo_151 : decode cL_areTotalsSo 151 = .ok (.iload_n 1, 1) := by decide +kernel
theorem dL_areTotalsSo_152 : decode cL_areTotalsSo 152 = .ok (.iconst 1, 1) := by decide +kernel
theorem dL_areTotalsSo_153 : decode cL_areTotalsSo 153 = .ok (.isub, 1) := by decide +kernel
theorem dL_areTotalsSo_154 : decode cL_areTotalsSo 154 = .ok (.invokevirtual 102, 3) := by decide +kernel
theorem dL_areTotalsSo_157 : decode cL_areTotalsSo 157 = .ok (.if_icmp .gt 7, 3) := by decide +kernel
theorem dL_areTotalsSo_160 : decode cL_areTotalsSo 160 = .ok (.iconst 1, 1) := by decide +kernel
theorem dL_areTotalsSo_161 : decode cL_areTotalsSo 161 = .ok (.goto 4, 3) := by decide +kernel
theorem dL_areTotalsSo_164 : decode cL_areTotalsSo 164 = .ok (.iconst 0, 1) := by decide +kernel
theorem dL_areTotalsSo_165 : decode cL_areTotalsSo 165 = .ok (.istore 5, 2) := by decide +kernel
theorem dL_areTotalsSo_167 : decode cL_areTotalsSo 167 = .ok (.aload_n 0, 1) := by decide +kernel
theorem dL_areTotalsSo_168 : decode cL_areTotalsSo 168 = .ok (.invokevirtual 8, 3) := by decide +kernel
theorem dL_areTotalsSo_171 : decode cL_areTotalsSo 171 = .ok (.istore 6, 2) := by decide +kernel
theorem dL_areTotalsSo_173 : decode cL_areTotalsSo 173 = .ok (.iload 5, 2) := by decide +kernel
theorem dL_areTotalsSo_175 : decode cL_areTotalsSo 175 = .ok (.ifCond .eq 39, 3) := by decide +kernel
theorem dL_areTotalsSo_178 : decode cL_areTotalsSo 178 = .ok (.aload_n 0, 1) := by decide +kernel
theorem dL_areTotalsSo_179 : decode cL_areTotalsSo 179 = .ok (.invokevirtual 108, 3) := by decide +kernel
theorem dL_areTotalsSo_182 : decode cL_areTotalsSo 182 = .ok (.iload 6, 2) := by decide +kernel
theorem dL_areTotalsSo_184 : decode cL_areTotalsSo 184 = .ok (.i2f, 1) := by decide +kernel
theorem dL_areTotalsSo_185 : decode cL_areTotalsSo 185 = .ok (.fmul, 1) := by decide +kernel
theorem dL_areTotalsSo_186 : decode cL_areTotalsSo 186 = .ok (.iload_n 2, 1) := by decide +kernel
theorem dL_areTotalsSo_187 : decode cL_areTotalsSo 187 = .ok (.iconst 1, 1) := by decide +kernel
theorem dL_areTotalsSo_188 : decode cL_areTotalsSo 188 = .ok (.isub, 1) := by decide +kernel
theorem dL_areTotalsSo_189 : decode cL_areTotalsSo 189 = .ok (.i2f, 1) := by decide +kernel
theorem dL_areTotalsSo_190 : decode cL_areTotalsSo 190 = .ok (.fcmp .l, 1) := by decide +kernel
theorem dL_areTotalsSo_191 : decode cL_areTotalsSo 191 = .ok (.ifCond .le 23, 3) := by decide +kernel
theorem dL_areTotalsSo_194 : decode cL_areTotalsSo 194 = .ok (.aload_n 0, 1) := by decide +kernel
theorem dL_areTotalsSo_195 : decode cL_areTotalsSo 195 = .ok (.invokevirtual 108, 3) := by decide +kernel
theorem dL_areTotalsSo_198 : decode cL_areTotalsSo 198 = .ok (.iload 6, 2) := by decide +kernel
theorem dL_areTotalsSo_200 : decode cL_areTotalsSo 200 = .ok (.i2f, 1) := by decide +kernel
theorem dL_areTotalsSo_201 : decode cL_areTotalsSo 201 = .ok (.fmul, 1) := by decide +kernel
theorem dL_areTotalsSo_202 : decode cL_areTotalsSo 202 = .ok (.iload_n 2, 1) := by decide +kernel
theorem dL_areTotalsSo_203 : decode cL_areTotalsSo 203 = .ok (.iconst 1, 1) := by decide +kernel
theorem dL_areTotalsSo_204 : decode cL_areTotalsSo 204 = .ok (.iadd, 1) := by decide +kernel
theorem dL_areTotalsSo_205 : decode cL_areTotalsSo 205 = .ok (.i2f, 1) := by decide +kernel
theorem dL_areTotalsSo_206 : decode cL_areTotalsSo 206 = .ok (.fcmp .g, 1) := by decide +kernel
theorem dL_areTotalsSo_207 : decode cL_areTotalsSo 207 = .ok (.ifCond .ge 7, 3) := by decide +kernel
theorem dL_areTotalsSo_210 : decode cL_areTotalsSo 210 = .ok (.iconst 1, 1) := by decide +kernel
theorem dL_areTotalsSo_211 : decode cL_areTotalsSo 211 = .ok (.goto 4, 3) := by decide +kernel
theorem dL_areTotalsSo_214 : decode cL_areTotalsSo 214 = .ok (.iconst 0, 1) := by decide +kernel
theorem dL_areTotalsSo_215 : decode cL_areTotalsSo 215 = .ok (.istore 5, 2) := by decide +kernel
theorem dL_areTotalsSo_217 : decode cL_areTotalsSo 217 = .ok (.iload 5, 2) := by decide +kernel
theorem dL_areTotalsSo_219 : decode cL_areTotalsSo 219 = .ok (.ifCond .eq 25, 3) := by decide +kernel
theorem dL_areTotalsSo_222 : decode cL_areTotalsSo 222 = .ok (.iload_n 3, 1) := by decide +kernel
theorem dL_areTotalsSo_223 : decode cL_areTotalsSo 223 = .ok (.iload 6, 2) := by decide +kernel
theorem dL_areTotalsSo_225 : decode cL_areTotalsSo 225 = .ok (.if_icmp .eq 15, 3) := by decide +kernel
theorem dL_areTotalsSo_228 : decode cL_areTotalsSo 228 = .ok (.aload_n 0, 1) := by decide +kernel
theorem dL_areTotalsSo_229 : decode cL_areTotalsSo 229 = .ok (.aload_n 0, 1) := by decide +kernel
theorem dL_areTotalsSo_230 : decode cL_areTotalsSo 230 = .ok (.iload_n 1, 1) := by decide +kernel
theorem dL_areTotalsSo_231 : decode cL_areTotalsSo 231 = .ok (.invokevirtual 112, 3) := by decide +kernel
theorem dL_areTotalsSo_234 : decode cL_areTotalsSo 234 = .ok (.invokevirtual 21, 3) := by decide +kernel
theorem dL_areTotalsSo_237 : decode cL_areTotalsSo 237 = .ok (.ifCond .ne 7, 3) := by decide +kernel
theorem dL_areTotalsSo_240 : decode cL_areTotalsSo 240 = .ok (.iconst 1, 1) := by decide +kernel
theorem dL_areTotalsSo_241 : decode cL_areTotalsSo 241 = .ok (.goto 4, 3) := by decide +kernel
theorem dL_areTotalsSo_244 : decode cL_areTotalsSo 244 = .ok (.iconst 0, 1) := by decide +kernel
theorem dL_areTotalsSo_245 : decode cL_areTotalsSo 245 = .ok (.ireturn, 1) := by decide +kernel
