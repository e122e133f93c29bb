set_option maxRecDepth 20000 in
theorem ggX0_init_X3_init : GoodIn wsX0_init wsX3_init := goodIn_r _ [11, 12, 2, 3, 13, 14, 15, 16, 17, 18, 19] (by decide +kernel) (by decide +kernel)
set_option maxRecDepth 20000 in
theorem gX0_init_X3_init : GoodIn wsX0_init (wsX3_init) := ggX0_init_X3_init
theorem dX0_init_0 : decode cX0_init 0 = .ok (.aload_n 0, 1) := by decide +kernel
theorem dX0_init_1 : decode cX0_init 1 = .ok (.invokespecial 3, 3) := by decide +kernel
theorem dX0_init_4 : decode cX0_init 4 = .ok (.aload_n 0, 1) := by decide +kernel
theorem dX0_init_5 : decode cX0_init 5 = .ok (.new 9, 3) := by decide +kernel
theorem dX0_init_8 : decode cX0_init 8 = .ok (.dup, 1) := by decide +kernel
theorem dX0_init_9 : decode cX0_init 9 = .ok (.bipush 16, 2) := by decide +kernel
theorem dX0_init_11 : decode cX0_init 11 = .ok (.invokespecial 11, 3) := by decide +kernel
theorem dX0_init_14 : decode cX0_init 14 = .ok (.putfield 14, 3) := by decide +kernel
theorem dX0_init_17 : decode cX0_init 17 = .ok (.aload_n 0, 1) := by decide +kernel
theorem dX0_init_18 : decode cX0_init 18 = .ok (.aload_n 1, 1) := by decide +kernel
theorem dX0_init_19 : decode cX0_init 19 = .ok (.putfield 20, 3) := by decide +kernel
theorem dX0_init_22 : decode cX0_init 22 = .ok (.return_, 1) := by decide +kernel
set_option maxRecDepth 20000 in
theorem ggX0_left_X0_holding : GoodIn wsX0_left wsX0_holding := goodIn_r _ [5, 6, 7, 8, 9, 10, 11, 12, 13, 14, 15, 16, 17, 18, 19, 20, 21, 22, 23, 24, 25, 26, 27, 28, 29, 30, 31, 32, 33, 34, 35, 36, 37, 38] (by decide +kernel) (by decide +kernel)
set_option maxRecDepth 20000 in
theorem gX0_left_X0_holding : GoodIn wsX0_left (wsV RX0 24 RX0 yX0_holding wsX0_holding) := goodIn_app (goodIn_of _ (by decide +kernel)) ggX0_left_X0_holding
theorem dX0_left_0 : decode cX0_left 0 = .ok (.iload_n 1, 1) := by decide +kernel
theorem dX0_left_1 : decode cX0_left 1 = .ok (.istore 4, 2) := by decide +kernel
theorem dX0_left_3 : decode cX0_left 3 = .ok (.iconst 0, 1) := by decide +kernel
theorem dX0_left_4 : decode cX0_left 4 = .ok (.istore 5, 2) := by decide +kernel
theorem dX0_left_6 : decode cX0_left 6 = .ok (.iload 5, 2) := by decide +kernel
theorem dX0_left_8 : decode cX0_left 8 = .ok (.bipush 16, 2) := by decide +kernel
theorem dX0_left_10 : decode cX0_left 10 = .ok (.if_icmp .gt 33, 3) := by decide +kernel
theorem dX0_left_13 : decode cX0_left 13 = .ok (.aload_n 0, 1) := by decide +kernel
theorem dX0_left_14 : decode cX0_left 14 = .ok (.iload 4, 2) := by decide +kernel
theorem dX0_left_16 : decode cX0_left 16 = .ok (.iload_n 2, 1) := by decide +kernel
theorem dX0_left_17 : decode cX0_left 17 = .ok (.iload_n 3, 1) := by decide +kernel
theorem dX0_left_18 : decode cX0_left 18 = .ok (.invokevirtual 24, 3) := by decide +kernel
theorem dX0_left_21 : decode cX0_left 21 = .ok (.istore 6, 2) := by decide +kernel
theorem dX0_left_23 : decode cX0_left 23 = .ok (.iload 6, 2) := by decide +kernel
theorem dX0_left_25 : decode cX0_left 25 = .ok (.iload 4, 2) := by decide +kernel
theorem dX0_left_27 : decode cX0_left 27 = .ok (.if_icmp .ne 6, 3) := by decide +kernel
theorem dX0_left_30 : decode cX0_left 30 = .ok (.iload 4, 2) := by decide +kernel
theorem dX0_left_32 : decode cX0_left 32 = .ok (.ireturn, 1) := by decide +kernel
theorem dX0_left_33 : decode cX0_left 33 = .ok (.iload 6, 2) := by decide +kernel
theorem dX0_left_35 : decode cX0_left 35 = .ok (.istore 4, 2) := by decide +kernel
theorem dX0_left_37 : decode cX0_left 37 = .ok (.iinc 5 1, 3) := by decide +kernel
theorem dX0_left_40 : decode cX0_left 40 = .ok (.goto (-34), 3) := by decide +kernel
theorem dX0_left_43 : decode cX0_left 43 = .ok (.iload 4, 2) := by decide +kernel
theorem dX0_left_45 : decode cX0_left 45 = .ok (.ireturn, 1) := by decide +kernel
set_option maxRecDepth 20000 in
theorem ggX0_holding_X7_in : GoodIn wsX0_holding wsX7_in := goodIn_r _ [4] (by decide +kernel) (by decide +kernel)
set_option maxRecDepth 20000 in
theorem gX0_holding_X7_in_n28 : GoodIn wsX0_holding (wsX7_in) := ggX0_holding_X7_in
set_option maxRecDepth 20000 in
theorem ggX0_holding_X5_around : GoodIn wsX0_holding wsX5_around := goodIn_r _ [9, 10, 11, 12, 13, 14, 15, 16, 30, 31, 32, 33] (by decide +kernel) (by decide +kernel)
set_option maxRecDepth 20000 in
theorem gX0_holding_X5_around : GoodIn wsX0_holding (wsV RX0 32 RX5 yX5_around wsX5_around) := goodIn_app (goodIn_of _ (by decide +kernel)) ggX0_holding_X5_around
set_option maxRecDepth 20000 in
theorem ggX0_holding_X7_bits : GoodIn wsX0_holding wsX7_bits := goodIn_r _ [18, 19, 20, 21, 22, 23, 24, 25] (by decide +kernel) (by decide +kernel)
set_option maxRecDepth 20000 in
theorem gX0_holding_X7_bits_n38 : GoodIn wsX0_holding (wsX7_bits) := ggX0_holding_X7_bits
set_option maxRecDepth 20000 in
theorem ggX0_holding_X7_bit : GoodIn wsX0_holding wsX7_bit := goodIn_r _ [27] (by decide +kernel) (by decide +kernel)
set_option maxRecDepth 20000 in
theorem gX0_holding_X7_bit_n41 : GoodIn wsX0_holding (wsX7_bit) := ggX0_holding_X7_bit
theorem dX0_holding_0 : decode cX0_holding 0 = .ok (.iload_n 1, 1) := by decide +kernel
theorem dX0_holding_1 : decode cX0_holding 1 = .ok (.iload_n 2, 1) := by decide +kernel
theorem dX0_holding_2 : decode cX0_holding 2 = .ok (.iand, 1) := by decide +kernel
theorem dX0_holding_3 : decode cX0_holding 3 = .ok (.istore 4, 2) := by decide +kernel
theorem dX0_holding_5 : decode cX0_holding 5 = .ok (.iconst 0, 1) := by decide +kernel
theorem dX0_holding_6 : decode cX0_holding 6 = .ok (.istore 5, 2) := by decide +kernel
theorem dX0_holding_8 : decode cX0_holding 8 = .ok (.iload 5, 2) := by decide +kernel
theorem dX0_holding_10 : decode cX0_holding 10 = .ok (.bipush 16, 2) := by decide +kernel
theorem dX0_holding_12 : decode cX0_holding 12 = .ok (.if_icmp .ge 46, 3) := by decide +kernel
theorem dX0_holding_15 : decode cX0_holding 15 = .ok (.iload_n 1, 1) := by decide +kernel
theorem dX0_holding_16 : decode cX0_holding 16 = .ok (.iload 5, 2) := by decide +kernel
theorem dX0_holding_18 : decode cX0_holding 18 = .ok (.invokestatic 28, 3) := by decide +kernel
theorem dX0_holding_21 : decode cX0_holding 21 = .ok (.ifCond .eq 31, 3) := by decide +kernel
theorem dX0_holding_24 : decode cX0_holding 24 = .ok (.aload_n 0, 1) := by decide +kernel
theorem dX0_holding_25 : decode cX0_holding 25 = .ok (.getfield 20, 3) := by decide +kernel
theorem dX0_holding_28 : decode cX0_holding 28 = .ok (.iload 5, 2) := by decide +kernel
theorem dX0_holding_30 : decode cX0_holding 30 = .ok (.invokevirtual 32, 3) := by decide +kernel
theorem dX0_holding_33 : decode cX0_holding 33 = .ok (.iload_n 1, 1) := by decide +kernel
theorem dX0_holding_34 : decode cX0_holding 34 = .ok (.iand, 1) := by decide +kernel
theorem dX0_holding_35 : decode cX0_holding 35 = .ok (.invokestatic 38, 3) := by decide +kernel
theorem dX0_holding_38 : decode cX0_holding 38 = .ok (.iload_n 3, 1) := by decide +kernel
theorem dX0_holding_39 : decode cX0_holding 39 = .ok (.if_icmp .lt 13, 3) := by decide +kernel
theorem dX0_holding_42 : decode cX0_holding 42 = .ok (.iload 4, 2) := by decide +kernel
theorem dX0_holding_44 : decode cX0_holding 44 = .ok (.iload 5, 2) := by decide +kernel
theorem dX0_holding_46 : decode cX0_holding 46 = .ok (.invokestatic 41, 3) := by decide +kernel
theorem dX0_holding_49 : decode cX0_holding 49 = .ok (.ior, 1) := by decide +kernel
theorem dX0_holding_50 : decode cX0_holding 50 = .ok (.istore 4, 2) := by decide +kernel
theorem dX0_holding_52 : decode cX0_holding 52 = .ok (.iinc 5 1, 3) := by decide +kernel
theorem dX0_holding_55 : decode cX0_holding 55 = .ok (.goto (-47), 3) := by decide +kernel
theorem dX0_holding_58 : decode cX0_holding 58 = .ok (.iload 4, 2) := by decide +kernel
theorem dX0_holding_60 : decode cX0_holding 60 = .ok (.ireturn, 1) := by decide +kernel
set_option maxRecDepth 20000 in
theorem ggX0_numberByPeeling_X5_plants : GoodIn wsX0_numberByPeeling wsX5_plants := goodIn_r _ [6, 7, 8, 9, 10, 44, 45, 46] (by decide +kernel) (by decide +kernel)
set_option maxRecDepth 20000 in
theorem gX0_numberByPeeling_X5_plants : GoodIn wsX0_numberByPeeling (wsV RX0 44 RX5 yX5_plants wsX5_plants) := goodIn_app (goodIn_of _ (by decide +kernel)) ggX0_numberByPeeling_X5_plants
set_option maxRecDepth 20000 in
theorem ggX0_numberByPeeling_X0_left : GoodIn wsX0_numberByPeeling wsX0_left := goodIn_r _ [15, 16, 17, 18, 14, 19, 1, 20, 9, 21, 22, 23, 24, 5, 25, 26, 27, 28, 29, 30, 31, 32, 33, 34, 35, 36, 37, 38, 39, 40, 41, 8, 10, 42, 43, 44, 45, 46, 47] (by decide +kernel) (by decide +kernel)
set_option maxRecDepth 20000 in
theorem gX0_numberByPeeling_X0_left : GoodIn wsX0_numberByPeeling (wsV RX0 52 RX0 yX0_left wsX0_left) := goodIn_app (goodIn_of _ (by decide +kernel)) ggX0_numberByPeeling_X0_left
set_option maxRecDepth 20000 in
theorem ggX0_numberByPeeling_X7_in : GoodIn wsX0_numberByPeeling wsX7_in := goodIn_r _ [21] (by decide +kernel) (by decide +kernel)
set_option maxRecDepth 20000 in
theorem gX0_numberByPeeling_X7_in_n28 : GoodIn wsX0_numberByPeeling (wsX7_in) := ggX0_numberByPeeling_X7_in
theorem dX0_numberByPeeling_0 : decode cX0_numberByPeeling 0 = .ok (.bipush 15, 2) := by decide +kernel
theorem dX0_numberByPeeling_2 : decode cX0_numberByPeeling 2 = .ok (.istore_n 2, 1) := by decide +kernel
theorem dX0_numberByPeeling_3 : decode cX0_numberByPeeling 3 = .ok (.iload_n 2, 1) := by decide +kernel
theorem dX0_numberByPeeling_4 : decode cX0_numberByPeeling 4 = .ok (.ifCond .le 37, 3) := by decide +kernel
theorem dX0_numberByPeeling_7 : decode cX0_numberByPeeling 7 = .ok (.aload_n 0, 1) := by decide +kernel
theorem dX0_numberByPeeling_8 : decode cX0_numberByPeeling 8 = .ok (.aload_n 0, 1) := by decide +kernel
theorem dX0_numberByPeeling_9 : decode cX0_numberByPeeling 9 = .ok (.getfield 20, 3) := by decide +kernel
theorem dX0_numberByPeeling_12 : decode cX0_numberByPeeling 12 = .ok (.invokevirtual 44, 3) := by decide +kernel
theorem dX0_numberByPeeling_15 : decode cX0_numberByPeeling 15 = .ok (.aload_n 0, 1) := by decide +kernel
theorem dX0_numberByPeeling_16 : decode cX0_numberByPeeling 16 = .ok (.getfield 20, 3) := by decide +kernel
theorem dX0_numberByPeeling_19 : decode cX0_numberByPeeling 19 = .ok (.getfield 48, 3) := by decide +kernel
theorem dX0_numberByPeeling_22 : decode cX0_numberByPeeling 22 = .ok (.iload_n 2, 1) := by decide +kernel
theorem dX0_numberByPeeling_23 : decode cX0_numberByPeeling 23 = .ok (.invokevirtual 52, 3) := by decide +kernel
theorem dX0_numberByPeeling_26 : decode cX0_numberByPeeling 26 = .ok (.iload_n 1, 1) := by decide +kernel
theorem dX0_numberByPeeling_27 : decode cX0_numberByPeeling 27 = .ok (.invokestatic 28, 3) := by decide +kernel
theorem dX0_numberByPeeling_30 : decode cX0_numberByPeeling 30 = .ok (.ifCond .eq 5, 3) := by decide +kernel
theorem dX0_numberByPeeling_33 : decode cX0_numberByPeeling 33 = .ok (.iload_n 2, 1) := by decide +kernel
theorem dX0_numberByPeeling_34 : decode cX0_numberByPeeling 34 = .ok (.ireturn, 1) := by decide +kernel
theorem dX0_numberByPeeling_35 : decode cX0_numberByPeeling 35 = .ok (.iinc 2 (-1), 3) := by decide +kernel
theorem dX0_numberByPeeling_38 : decode cX0_numberByPeeling 38 = .ok (.goto (-35), 3) := by decide +kernel
theorem dX0_numberByPeeling_41 : decode cX0_numberByPeeling 41 = .ok (.iconst 0, 1) := by decide +kernel
theorem dX0_numberByPeeling_42 : decode cX0_numberByPeeling 42 = .ok (.ireturn, 1) := by decide +kernel
set_option maxRecDepth 20000 in
theorem ggX0_greatestUnpropped_X5_plants : GoodIn wsX0_greatestUnpropped wsX5_plants := goodIn_r _ [6, 7, 8, 9, 10, 44, 45, 46] (by decide +kernel) (by decide +kernel)
set_option maxRecDepth 20000 in
theorem gX0_greatestUnpropped_X5_plants : GoodIn wsX0_greatestUnpropped (wsV RX0 44 RX5 yX5_plants wsX5_plants) := goodIn_app (goodIn_of _ (by decide +kernel)) ggX0_greatestUnpropped_X5_plants
set_option maxRecDepth 20000 in
theorem ggX0_greatestUnpropped_X0_left : GoodIn wsX0_greatestUnpropped wsX0_left := goodIn_r _ [15, 16, 17, 18, 14, 19, 1, 20, 9, 21, 22, 23, 24, 5, 25, 26, 27, 28, 29, 30, 31, 32, 33, 34, 35, 36, 37, 38, 39, 40, 41, 8, 10, 42, 43, 44, 45, 46, 47] (by decide +kernel) (by decide +kernel)
set_option maxRecDepth 20000 in
theorem gX0_greatestUnpropped_X0_left : GoodIn wsX0_greatestUnpropped (wsV RX0 52 RX0 yX0_left wsX0_left) := goodIn_app (goodIn_of _ (by decide +kernel)) ggX0_greatestUnpropped_X0_left
theorem dX0_greatestUnpropped_0 : decode cX0_greatestUnpropped 0 = .ok (.bipush 15, 2) := by decide +kernel
theorem dX0_greatestUnpropped_2 : decode cX0_greatestUnpropped 2 = .ok (.istore_n 1, 1) := by decide +kernel
theorem dX0_greatestUnpropped_3 : decode cX0_greatestUnpropped 3 = .ok (.iload_n 1, 1) := by decide +kernel
theorem dX0_greatestUnpropped_4 : decode cX0_greatestUnpropped 4 = .ok (.ifCond .le 43, 3) := by decide +kernel
theorem dX0_greatestUnpropped_7 : decode cX0_greatestUnpropped 7 = .ok (.aload_n 0, 1) := by decide +kernel
theorem dX0_greatestUnpropped_8 : decode cX0_greatestUnpropped 8 = .ok (.aload_n 0, 1) := by decide +kernel
theorem dX0_greatestUnpropped_9 : decode cX0_greatestUnpropped 9 = .ok (.getfield 20, 3) := by decide +kernel
theorem dX0_greatestUnpropped_12 : decode cX0_greatestUnpropped 12 = .ok (.invokevirtual 44, 3) := by decide +kernel
theorem dX0_greatestUnpropped_15 : decode cX0_greatestUnpropped 15 = .ok (.aload_n 0, 1) := by decide +kernel
theorem dX0_greatestUnpropped_16 : decode cX0_greatestUnpropped 16 = .ok (.getfield 20, 3) := by decide +kernel
theorem dX0_greatestUnpropped_19 : decode cX0_greatestUnpropped 19 = .ok (.getfield 48, 3) := by decide +kernel
theorem dX0_greatestUnpropped_22 : decode cX0_greatestUnpropped 22 = .ok (.iload_n 1, 1) := by decide +kernel
theorem dX0_greatestUnpropped_23 : decode cX0_greatestUnpropped 23 = .ok (.invokevirtual 52, 3) := by decide +kernel
theorem dX0_greatestUnpropped_26 : decode cX0_greatestUnpropped 26 = .ok (.aload_n 0, 1) := by decide +kernel
theorem dX0_greatestUnpropped_27 : decode cX0_greatestUnpropped 27 = .ok (.getfield 20, 3) := by decide +kernel
theorem dX0_greatestUnpropped_30 : decode cX0_greatestUnpropped 30 = .ok (.getfield 48, 3) := by decide +kernel
theorem dX0_greatestUnpropped_33 : decode cX0_greatestUnpropped 33 = .ok (.iconst (-1), 1) := by decide +kernel
theorem dX0_greatestUnpropped_34 : decode cX0_greatestUnpropped 34 = .ok (.ixor, 1) := by decide +kernel
theorem dX0_greatestUnpropped_35 : decode cX0_greatestUnpropped 35 = .ok (.iand, 1) := by decide +kernel
theorem dX0_greatestUnpropped_36 : decode cX0_greatestUnpropped 36 = .ok (.ifCond .eq 5, 3) := by decide +kernel
theorem dX0_greatestUnpropped_39 : decode cX0_greatestUnpropped 39 = .ok (.iload_n 1, 1) := by decide +kernel
theorem dX0_greatestUnpropped_40 : decode cX0_greatestUnpropped 40 = .ok (.ireturn, 1) := by decide +kernel
theorem dX0_greatestUnpropped_41 : decode cX0_greatestUnpropped 41 = .ok (.iinc 1 (-1), 3) := by decide +kernel
theorem dX0_greatestUnpropped_44 : decode cX0_greatestUnpropped 44 = .ok (.goto (-41), 3) := by decide +kernel
theorem dX0_greatestUnpropped_47 : decode cX0_greatestUnpropped 47 = .ok (.iconst 0, 1) := by decide +kernel
theorem dX0_greatestUnpropped_48 : decode cX0_greatestUnpropped 48 = .ok (.ireturn, 1) := by decide +kernel
set_option maxRecDepth 20000 in
theorem ggX0_numberByRounds_X5_hasProp : GoodIn wsX0_numberByRounds wsX5_hasProp := goodIn_r _ [7, 8, 9, 10, 11, 6, 12, 13, 14, 15, 16, 61, 62, 63] (by decide +kernel) (by decide +kernel)
set_option maxRecDepth 20000 in
theorem gX0_numberByRounds_X5_hasProp : GoodIn wsX0_numberByRounds (wsV RX0 58 RX5 yX5_hasProp wsX5_hasProp) := goodIn_app (goodIn_of _ (by decide +kernel)) ggX0_numberByRounds_X5_hasProp
set_option maxRecDepth 20000 in
theorem ggX0_numberByRounds_X5_held : GoodIn wsX0_numberByRounds wsX5_held := goodIn_r _ [20, 21, 22, 23, 24, 25, 26, 27, 28, 15, 29, 30, 31, 32, 33, 34, 35, 36, 61, 62, 63, 64] (by decide +kernel) (by decide +kernel)
set_option maxRecDepth 20000 in
theorem gX0_numberByRounds_X5_held : GoodIn wsX0_numberByRounds (wsV RX0 62 RX5 yX5_held wsX5_held) := goodIn_app (goodIn_of _ (by decide +kernel)) ggX0_numberByRounds_X5_held
set_option maxRecDepth 20000 in
theorem ggX0_numberByRounds_X3_put : GoodIn wsX0_numberByRounds wsX3_put := goodIn_r _ [40, 27, 64] (by decide +kernel) (by decide +kernel)
set_option maxRecDepth 20000 in
theorem gX0_numberByRounds_X3_put : GoodIn wsX0_numberByRounds (wsV RX0 65 RX3 yX3_put wsX3_put) := goodIn_app (goodIn_of _ (by decide +kernel)) ggX0_numberByRounds_X3_put
set_option maxRecDepth 20000 in
theorem ggX0_numberByRounds_X0_lowerNumbers : GoodIn wsX0_numberByRounds wsX0_lowerNumbers := goodIn_r _ [45, 1, 2, 3, 4, 5, 6, 7, 8, 9, 10, 11, 12, 13, 14, 15, 16, 46, 47, 48, 44, 49, 50, 23, 24, 25, 26, 27, 51, 52, 53, 54, 55, 56, 57, 58, 21, 22, 37, 38, 39, 40, 59, 60, 61, 62, 63, 64] (by decide +kernel) (by decide +kernel)
set_option maxRecDepth 20000 in
theorem gX0_numberByRounds_X0_lowerNumbers : GoodIn wsX0_numberByRounds (wsV RX0 69 RX0 yX0_lowerNumbers wsX0_lowerNumbers) := goodIn_app (goodIn_of _ (by decide +kernel)) ggX0_numberByRounds_X0_lowerNumbers
set_option maxRecDepth 20000 in
theorem ggX0_numberByRounds_X3_at : GoodIn wsX0_numberByRounds wsX3_at := goodIn_r _ [26, 27, 64] (by decide +kernel) (by decide +kernel)
set_option maxRecDepth 20000 in
theorem gX0_numberByRounds_X3_at : GoodIn wsX0_numberByRounds (wsV RX0 73 RX3 yX3_at wsX3_at) := goodIn_app (goodIn_of _ (by decide +kernel)) ggX0_numberByRounds_X3_at
theorem dX0_numberByRounds_0 : decode cX0_numberByRounds 0 = .ok (.iconst 0, 1) := by decide +kernel
theorem dX0_numberByRounds_1 : decode cX0_numberByRounds 1 = .ok (.istore_n 2, 1) := by decide +kernel
theorem dX0_numberByRounds_2 : decode cX0_numberByRounds 2 = .ok (.iload_n 2, 1) := by decide +kernel
theorem dX0_numberByRounds_3 : decode cX0_numberByRounds 3 = .ok (.aload_n 0, 1) := by decide +kernel
theorem dX0_numberByRounds_4 : decode cX0_numberByRounds 4 = .ok (.getfield 20, 3) := by decide +kernel
theorem dX0_numberByRounds_7 : decode cX0_numberByRounds 7 = .ok (.getfield 55, 3) := by decide +kernel
theorem dX0_numberByRounds_10 : decode cX0_numberByRounds 10 = .ok (.if_icmp .ge 41, 3) := by decide +kernel
theorem dX0_numberByRounds_13 : decode cX0_numberByRounds 13 = .ok (.aload_n 0, 1) := by decide +kernel
theorem dX0_numberByRounds_14 : decode cX0_numberByRounds 14 = .ok (.getfield 14, 3) := by decide +kernel
theorem dX0_numberByRounds_17 : decode cX0_numberByRounds 17 = .ok (.iload_n 2, 1) := by decide +kernel
theorem dX0_numberByRounds_18 : decode cX0_numberByRounds 18 = .ok (.aload_n 0, 1) := by decide +kernel
theorem dX0_numberByRounds_19 : decode cX0_numberByRounds 19 = .ok (.getfield 20, 3) := by decide +kernel
theorem dX0_numberByRounds_22 : decode cX0_numberByRounds 22 = .ok (.iload_n 2, 1) := by decide +kernel
theorem dX0_numberByRounds_23 : decode cX0_numberByRounds 23 = .ok (.invokevirtual 58, 3) := by decide +kernel
theorem dX0_numberByRounds_26 : decode cX0_numberByRounds 26 = .ok (.ifCond .eq 8, 3) := by decide +kernel
theorem dX0_numberByRounds_29 : decode cX0_numberByRounds 29 = .ok (.bipush 15, 2) := by decide +kernel
theorem dX0_numberByRounds_31 : decode cX0_numberByRounds 31 = .ok (.goto 11, 3) := by decide +kernel
theorem dX0_numberByRounds_34 : decode cX0_numberByRounds 34 = .ok (.aload_n 0, 1) := by decide +kernel
theorem dX0_numberByRounds_35 : decode cX0_numberByRounds 35 = .ok (.getfield 20, 3) := by decide +kernel
theorem dX0_numberByRounds_38 : decode cX0_numberByRounds 38 = .ok (.iload_n 2, 1) := by decide +kernel
theorem dX0_numberByRounds_39 : decode cX0_numberByRounds 39 = .ok (.invokevirtual 62, 3) := by decide +kernel
theorem dX0_numberByRounds_42 : decode cX0_numberByRounds 42 = .ok (.invokevirtual 65, 3) := by decide +kernel
theorem dX0_numberByRounds_45 : decode cX0_numberByRounds 45 = .ok (.iinc 2 1, 3) := by decide +kernel
theorem dX0_numberByRounds_48 : decode cX0_numberByRounds 48 = .ok (.goto (-46), 3) := by decide +kernel
theorem dX0_numberByRounds_51 : decode cX0_numberByRounds 51 = .ok (.iconst 0, 1) := by decide +kernel
theorem dX0_numberByRounds_52 : decode cX0_numberByRounds 52 = .ok (.istore_n 2, 1) := by decide +kernel
theorem dX0_numberByRounds_53 : decode cX0_numberByRounds 53 = .ok (.iload_n 2, 1) := by decide +kernel
theorem dX0_numberByRounds_54 : decode cX0_numberByRounds 54 = .ok (.sipush 240, 3) := by decide +kernel
theorem dX0_numberByRounds_57 : decode cX0_numberByRounds 57 = .ok (.if_icmp .gt 19, 3) := by decide +kernel
theorem dX0_numberByRounds_60 : decode cX0_numberByRounds 60 = .ok (.aload_n 0, 1) := by decide +kernel
theorem dX0_numberByRounds_61 : decode cX0_numberByRounds 61 = .ok (.invokevirtual 69, 3) := by decide +kernel
theorem dX0_numberByRounds_64 : decode cX0_numberByRounds 64 = .ok (.ifCond .ne 6, 3) := by decide +kernel
theorem dX0_numberByRounds_67 : decode cX0_numberByRounds 67 = .ok (.goto 9, 3) := by decide +kernel
theorem dX0_numberByRounds_70 : decode cX0_numberByRounds 70 = .ok (.iinc 2 1, 3) := by decide +kernel
theorem dX0_numberByRounds_73 : decode cX0_numberByRounds 73 = .ok (.goto (-20), 3) := by decide +kernel
theorem dX0_numberByRounds_76 : decode cX0_numberByRounds 76 = .ok (.aload_n 0, 1) := by decide +kernel
theorem dX0_numberByRounds_77 : decode cX0_numberByRounds 77 = .ok (.getfield 14, 3) := by decide +kernel
theorem dX0_numberByRounds_80 : decode cX0_numberByRounds 80 = .ok (.iload_n 1, 1) := by decide +kernel
theorem dX0_numberByRounds_81 : decode cX0_numberByRounds 81 = .ok (.invokevirtual 73, 3) := by decide +kernel
theorem dX0_numberByRounds_84 : decode cX0_numberByRounds 84 = .ok (.ireturn, 1) := by decide +kernel
set_option maxRecDepth 20000 in
theorem ggX0_lowerNumbers_X5_hasProp : GoodIn wsX0_lowerNumbers wsX5_hasProp := goodIn_r _ [7, 8, 9, 10, 11, 6, 12, 13, 14, 15, 16, 44, 45, 46] (by decide +kernel) (by decide +kernel)
set_option maxRecDepth 20000 in
theorem gX0_lowerNumbers_X5_hasProp : GoodIn wsX0_lowerNumbers (wsV RX0 58 RX5 yX5_hasProp wsX5_hasProp) := goodIn_app (goodIn_of _ (by decide +kernel)) ggX0_lowerNumbers_X5_hasProp
set_option maxRecDepth 20000 in
theorem ggX0_lowerNumbers_X0_greatestHeld : GoodIn wsX0_lowerNumbers wsX0_greatestHeld := goodIn_r _ [21, 2, 22, 23, 24, 25, 26, 27, 28, 29, 30, 20, 31, 1, 32, 33, 34, 6, 35, 36, 9, 10, 11, 12, 13, 37, 14, 15, 16, 42, 43, 47, 44, 45, 46] (by decide +kernel) (by decide +kernel)
set_option maxRecDepth 20000 in
theorem gX0_lowerNumbers_X0_greatestHeld : GoodIn wsX0_lowerNumbers (wsV RX0 76 RX0 yX0_greatestHeld wsX0_greatestHeld) := goodIn_app (goodIn_of _ (by decide +kernel)) ggX0_lowerNumbers_X0_greatestHeld
set_option maxRecDepth 20000 in
theorem ggX0_lowerNumbers_X3_at : GoodIn wsX0_lowerNumbers wsX3_at := goodIn_r _ [26, 27, 47] (by decide +kernel) (by decide +kernel)
set_option maxRecDepth 20000 in
theorem gX0_lowerNumbers_X3_at : GoodIn wsX0_lowerNumbers (wsV RX0 73 RX3 yX3_at wsX3_at) := goodIn_app (goodIn_of _ (by decide +kernel)) ggX0_lowerNumbers_X3_at
set_option maxRecDepth 20000 in
theorem ggX0_lowerNumbers_X3_put : GoodIn wsX0_lowerNumbers wsX3_put := goodIn_r _ [41, 27, 47] (by decide +kernel) (by decide +kernel)
set_option maxRecDepth 20000 in
theorem gX0_lowerNumbers_X3_put : GoodIn wsX0_lowerNumbers (wsV RX0 65 RX3 yX3_put wsX3_put) := goodIn_app (goodIn_of _ (by decide +kernel)) ggX0_lowerNumbers_X3_put
theorem dX0_lowerNumbers_0 : decode cX0_lowerNumbers 0 = .ok (.iconst 0, 1) := by decide +kernel
theorem dX0_lowerNumbers_1 : decode cX0_lowerNumbers 1 = .ok (.istore_n 1, 1) := by decide +kernel
theorem dX0_lowerNumbers_2 : decode cX0_lowerNumbers 2 = .ok (.iconst 0, 1) := by decide +kernel
theorem dX0_lowerNumbers_3 : decode cX0_lowerNumbers 3 = .ok (.istore_n 2, 1) := by decide +kernel
theorem dX0_lowerNumbers_4 : decode cX0_lowerNumbers 4 = .ok (.iload_n 2, 1) := by decide +kernel
theorem dX0_lowerNumbers_5 : decode cX0_lowerNumbers 5 = .ok (.aload_n 0, 1) := by decide +kernel
theorem dX0_lowerNumbers_6 : decode cX0_lowerNumbers 6 = .ok (.getfield 20, 3) := by decide +kernel
theorem dX0_lowerNumbers_9 : decode cX0_lowerNumbers 9 = .ok (.getfield 55, 3) := by decide +kernel
theorem dX0_lowerNumbers_12 : decode cX0_lowerNumbers 12 = .ok (.if_icmp .ge 57, 3) := by decide +kernel
theorem dX0_lowerNumbers_15 : decode cX0_lowerNumbers 15 = .ok (.aload_n 0, 1) := by decide +kernel
theorem dX0_lowerNumbers_16 : decode cX0_lowerNumbers 16 = .ok (.getfield 20, 3) := by decide +kernel
theorem dX0_lowerNumbers_19 : decode cX0_lowerNumbers 19 = .ok (.iload_n 2, 1) := by decide +kernel
theorem dX0_lowerNumbers_20 : decode cX0_lowerNumbers 20 = .ok (.invokevirtual 58, 3) := by decide +kernel
theorem dX0_lowerNumbers_23 : decode cX0_lowerNumbers 23 = .ok (.ifCond .ne 40, 3) := by decide +kernel
theorem dX0_lowerNumbers_26 : decode cX0_lowerNumbers 26 = .ok (.aload_n 0, 1) := by decide +kernel
theorem dX0_lowerNumbers_27 : decode cX0_lowerNumbers 27 = .ok (.iload_n 2, 1) := by decide +kernel
theorem dX0_lowerNumbers_28 : decode cX0_lowerNumbers 28 = .ok (.invokevirtual 76, 3) := by decide +kernel
theorem dX0_lowerNumbers_31 : decode cX0_lowerNumbers 31 = .ok (.istore_n 3, 1) := by decide +kernel
theorem dX0_lowerNumbers_32 : decode cX0_lowerNumbers 32 = .ok (.iload_n 1, 1) := by decide +kernel
theorem dX0_lowerNumbers_33 : decode cX0_lowerNumbers 33 = .ok (.ifCond .ne 15, 3) := by decide +kernel
theorem dX0_lowerNumbers_36 : decode cX0_lowerNumbers 36 = .ok (.iload_n 3, 1) := by decide +kernel
theorem dX0_lowerNumbers_37 : decode cX0_lowerNumbers 37 = .ok (.aload_n 0, 1) := by decide +kernel
theorem dX0_lowerNumbers_38 : decode cX0_lowerNumbers 38 = .ok (.getfield 14, 3) := by decide +kernel
theorem dX0_lowerNumbers_41 : decode cX0_lowerNumbers 41 = .ok (.iload_n 2, 1) := by decide +kernel
theorem dX0_lowerNumbers_42 : decode cX0_lowerNumbers 42 = .ok (.invokevirtual 73, 3) := by decide +kernel
theorem dX0_lowerNumbers_45 : decode cX0_lowerNumbers 45 = .ok (.if_icmp .eq 7, 3) := by decide +kernel
theorem dX0_lowerNumbers_48 : decode cX0_lowerNumbers 48 = .ok (.iconst 1, 1) := by decide +kernel
theorem dX0_lowerNumbers_49 : decode cX0_lowerNumbers 49 = .ok (.goto 4, 3) := by decide +kernel
theorem dX0_lowerNumbers_52 : decode cX0_lowerNumbers 52 = .ok (.iconst 0, 1) := by decide +kernel
theorem dX0_lowerNumbers_53 : decode cX0_lowerNumbers 53 = .ok (.istore_n 1, 1) := by decide +kernel
theorem dX0_lowerNumbers_54 : decode cX0_lowerNumbers 54 = .ok (.aload_n 0, 1) := by decide +kernel
theorem dX0_lowerNumbers_55 : decode cX0_lowerNumbers 55 = .ok (.getfield 14, 3) := by decide +kernel
theorem dX0_lowerNumbers_58 : decode cX0_lowerNumbers 58 = .ok (.iload_n 2, 1) := by decide +kernel
theorem dX0_lowerNumbers_59 : decode cX0_lowerNumbers 59 = .ok (.iload_n 3, 1) := by decide +kernel
theorem dX0_lowerNumbers_60 : decode cX0_lowerNumbers 60 = .ok (.invokevirtual 65, 3) := by decide +kernel
theorem dX0_lowerNumbers_63 : decode cX0_lowerNumbers 63 = .ok (.iinc 2 1, 3) := by decide +kernel
theorem dX0_lowerNumbers_66 : decode cX0_lowerNumbers 66 = .ok (.goto (-62), 3) := by decide +kernel
theorem dX0_lowerNumbers_69 : decode cX0_lowerNumbers 69 = .ok (.iload_n 1, 1) := by decide +kernel
theorem dX0_lowerNumbers_70 : decode cX0_lowerNumbers 70 = .ok (.ireturn, 1) := by decide +kernel
set_option maxRecDepth 20000 in
theorem ggX0_greatestHeld_X3_at : GoodIn wsX0_greatestHeld wsX3_at := goodIn_r _ [6, 7, 31] (by decide +kernel) (by decide +kernel)
set_option maxRecDepth 20000 in
theorem gX0_greatestHeld_X3_at : GoodIn wsX0_greatestHeld (wsV RX0 73 RX3 yX3_at wsX3_at) := goodIn_app (goodIn_of _ (by decide +kernel)) ggX0_greatestHeld_X3_at
set_option maxRecDepth 20000 in
theorem ggX0_greatestHeld_X0_neighborsFrom : GoodIn wsX0_greatestHeld wsX0_neighborsFrom := goodIn_r _ [12, 13, 1, 14, 15, 16, 17, 18, 19, 20, 21, 22, 23, 24, 25, 3, 4, 5, 6, 7, 26, 27, 28, 2, 29, 30, 32, 33, 34, 31] (by decide +kernel) (by decide +kernel)
set_option maxRecDepth 20000 in
theorem gX0_greatestHeld_X0_neighborsFrom : GoodIn wsX0_greatestHeld (wsV RX0 79 RX0 yX0_neighborsFrom wsX0_neighborsFrom) := goodIn_app (goodIn_of _ (by decide +kernel)) ggX0_greatestHeld_X0_neighborsFrom
theorem dX0_greatestHeld_0 : decode cX0_greatestHeld 0 = .ok (.aload_n 0, 1) := by decide +kernel
theorem dX0_greatestHeld_1 : decode cX0_greatestHeld 1 = .ok (.getfield 14, 3) := by decide +kernel
theorem dX0_greatestHeld_4 : decode cX0_greatestHeld 4 = .ok (.iload_n 1, 1) := by decide +kernel
theorem dX0_greatestHeld_5 : decode cX0_greatestHeld 5 = .ok (.invokevirtual 73, 3) := by decide +kernel
theorem dX0_greatestHeld_8 : decode cX0_greatestHeld 8 = .ok (.istore_n 2, 1) := by decide +kernel
theorem dX0_greatestHeld_9 : decode cX0_greatestHeld 9 = .ok (.iload_n 2, 1) := by decide +kernel
theorem dX0_greatestHeld_10 : decode cX0_greatestHeld 10 = .ok (.ifCond .le 21, 3) := by decide +kernel
theorem dX0_greatestHeld_13 : decode cX0_greatestHeld 13 = .ok (.aload_n 0, 1) := by decide +kernel
theorem dX0_greatestHeld_14 : decode cX0_greatestHeld 14 = .ok (.iload_n 1, 1) := by decide +kernel
theorem dX0_greatestHeld_15 : decode cX0_greatestHeld 15 = .ok (.iload_n 2, 1) := by decide +kernel
theorem dX0_greatestHeld_16 : decode cX0_greatestHeld 16 = .ok (.invokevirtual 79, 3) := by decide +kernel
theorem dX0_greatestHeld_19 : decode cX0_greatestHeld 19 = .ok (.iload_n 2, 1) := by decide +kernel
theorem dX0_greatestHeld_20 : decode cX0_greatestHeld 20 = .ok (.if_icmp .lt 5, 3) := by decide +kernel
theorem dX0_greatestHeld_23 : decode cX0_greatestHeld 23 = .ok (.iload_n 2, 1) := by decide +kernel
theorem dX0_greatestHeld_24 : decode cX0_greatestHeld 24 = .ok (.ireturn, 1) := by decide +kernel
theorem dX0_greatestHeld_25 : decode cX0_greatestHeld 25 = .ok (.iinc 2 (-1), 3) := by decide +kernel
theorem dX0_greatestHeld_28 : decode cX0_greatestHeld 28 = .ok (.goto (-19), 3) := by decide +kernel
theorem dX0_greatestHeld_31 : decode cX0_greatestHeld 31 = .ok (.iconst 0, 1) := by decide +kernel
theorem dX0_greatestHeld_32 : decode cX0_greatestHeld 32 = .ok (.ireturn, 1) := by decide +kernel
set_option maxRecDepth 20000 in
theorem ggX0_neighborsFrom_X5_isBound : GoodIn wsX0_neighborsFrom wsX5_isBound := goodIn_r _ [7, 8, 9, 10, 11, 6, 12, 13, 14, 15, 16, 17, 18, 19, 20, 21, 22, 26, 27, 28, 29] (by decide +kernel) (by decide +kernel)
set_option maxRecDepth 20000 in
theorem gX0_neighborsFrom_X5_isBound : GoodIn wsX0_neighborsFrom (wsV RX0 83 RX5 yX5_isBound wsX5_isBound) := goodIn_app (goodIn_of _ (by decide +kernel)) ggX0_neighborsFrom_X5_isBound
set_option maxRecDepth 20000 in
theorem ggX0_neighborsFrom_X3_at : GoodIn wsX0_neighborsFrom wsX3_at := goodIn_r _ [18, 19, 29] (by decide +kernel) (by decide +kernel)
set_option maxRecDepth 20000 in
theorem gX0_neighborsFrom_X3_at : GoodIn wsX0_neighborsFrom (wsV RX0 73 RX3 yX3_at wsX3_at) := goodIn_app (goodIn_of _ (by decide +kernel)) ggX0_neighborsFrom_X3_at
theorem dX0_neighborsFrom_0 : decode cX0_neighborsFrom 0 = .ok (.iconst 0, 1) := by decide +kernel
theorem dX0_neighborsFrom_1 : decode cX0_neighborsFrom 1 = .ok (.istore_n 3, 1) := by decide +kernel
theorem dX0_neighborsFrom_2 : decode cX0_neighborsFrom 2 = .ok (.iconst 0, 1) := by decide +kernel
theorem dX0_neighborsFrom_3 : decode cX0_neighborsFrom 3 = .ok (.istore 4, 2) := by decide +kernel
theorem dX0_neighborsFrom_5 : decode cX0_neighborsFrom 5 = .ok (.iload 4, 2) := by decide +kernel
theorem dX0_neighborsFrom_7 : decode cX0_neighborsFrom 7 = .ok (.aload_n 0, 1) := by decide +kernel
theorem dX0_neighborsFrom_8 : decode cX0_neighborsFrom 8 = .ok (.getfield 20, 3) := by decide +kernel
theorem dX0_neighborsFrom_11 : decode cX0_neighborsFrom 11 = .ok (.getfield 55, 3) := by decide +kernel
theorem dX0_neighborsFrom_14 : decode cX0_neighborsFrom 14 = .ok (.if_icmp .ge 38, 3) := by decide +kernel
theorem dX0_neighborsFrom_17 : decode cX0_neighborsFrom 17 = .ok (.aload_n 0, 1) := by decide +kernel
theorem dX0_neighborsFrom_18 : decode cX0_neighborsFrom 18 = .ok (.getfield 20, 3) := by decide +kernel
theorem dX0_neighborsFrom_21 : decode cX0_neighborsFrom 21 = .ok (.iload_n 1, 1) := by decide +kernel
theorem dX0_neighborsFrom_22 : decode cX0_neighborsFrom 22 = .ok (.iload 4, 2) := by decide +kernel
theorem dX0_neighborsFrom_24 : decode cX0_neighborsFrom 24 = .ok (.invokevirtual 83, 3) := by decide +kernel
theorem dX0_neighborsFrom_27 : decode cX0_neighborsFrom 27 = .ok (.ifCond .eq 19, 3) := by decide +kernel
theorem dX0_neighborsFrom_30 : decode cX0_neighborsFrom 30 = .ok (.aload_n 0, 1) := by decide +kernel
theorem dX0_neighborsFrom_31 : decode cX0_neighborsFrom 31 = .ok (.getfield 14, 3) := by decide +kernel
theorem dX0_neighborsFrom_34 : decode cX0_neighborsFrom 34 = .ok (.iload 4, 2) := by decide +kernel
theorem dX0_neighborsFrom_36 : decode cX0_neighborsFrom 36 = .ok (.invokevirtual 73, 3) := by decide +kernel
theorem dX0_neighborsFrom_39 : decode cX0_neighborsFrom 39 = .ok (.iload_n 2, 1) := by decide +kernel
theorem dX0_neighborsFrom_40 : decode cX0_neighborsFrom 40 = .ok (.if_icmp .lt 6, 3) := by decide +kernel
theorem dX0_neighborsFrom_43 : decode cX0_neighborsFrom 43 = .ok (.iinc 3 1, 3) := by decide +kernel
theorem dX0_neighborsFrom_46 : decode cX0_neighborsFrom 46 = .ok (.iinc 4 1, 3) := by decide +kernel
theorem dX0_neighborsFrom_49 : decode cX0_neighborsFrom 49 = .ok (.goto (-44), 3) := by decide +kernel
theorem dX0_neighborsFrom_52 : decode cX0_neighborsFrom 52 = .ok (.iload_n 3, 1) := by decide +kernel
theorem dX0_neighborsFrom_53 : decode cX0_neighborsFrom 53 = .ok (.ireturn, 1) := by decide +kernel
set_option maxRecDepth 20000 in
theorem ggX0_pieces_X7_in : GoodIn wsX0_pieces wsX7_in := goodIn_r _ [3] (by decide +kernel) (by decide +kernel)
set_option maxRecDepth 20000 in
theorem gX0_pieces_X7_in_n28 : GoodIn wsX0_pieces (wsX7_in) := ggX0_pieces_X7_in
set_option maxRecDepth 20000 in
theorem ggX0_pieces_X0_pieceOf : GoodIn wsX0_pieces wsX0_pieceOf := goodIn_r _ [8, 9, 10, 2, 11, 1, 3, 12, 13, 14, 15, 16, 17, 18, 19, 20, 21, 22, 23, 24, 25, 26, 27, 28, 29] (by decide +kernel) (by decide +kernel)
set_option maxRecDepth 20000 in
theorem gX0_pieces_X0_pieceOf : GoodIn wsX0_pieces (wsV RX0 86 RX0 yX0_pieceOf wsX0_pieceOf) := goodIn_app (goodIn_of _ (by decide +kernel)) ggX0_pieces_X0_pieceOf
theorem dX0_pieces_0 : decode cX0_pieces 0 = .ok (.iconst 0, 1) := by decide +kernel
theorem dX0_pieces_1 : decode cX0_pieces 1 = .ok (.istore_n 2, 1) := by decide +kernel
theorem dX0_pieces_2 : decode cX0_pieces 2 = .ok (.iload_n 1, 1) := by decide +kernel
theorem dX0_pieces_3 : decode cX0_pieces 3 = .ok (.istore_n 3, 1) := by decide +kernel
theorem dX0_pieces_4 : decode cX0_pieces 4 = .ok (.iconst 0, 1) := by decide +kernel
theorem dX0_pieces_5 : decode cX0_pieces 5 = .ok (.istore 4, 2) := by decide +kernel
theorem dX0_pieces_7 : decode cX0_pieces 7 = .ok (.iload 4, 2) := by decide +kernel
theorem dX0_pieces_9 : decode cX0_pieces 9 = .ok (.bipush 16, 2) := by decide +kernel
theorem dX0_pieces_11 : decode cX0_pieces 11 = .ok (.if_icmp .ge 33, 3) := by decide +kernel
theorem dX0_pieces_14 : decode cX0_pieces 14 = .ok (.iload_n 3, 1) := by decide +kernel
theorem dX0_pieces_15 : decode cX0_pieces 15 = .ok (.iload 4, 2) := by decide +kernel
theorem dX0_pieces_17 : decode cX0_pieces 17 = .ok (.invokestatic 28, 3) := by decide +kernel
theorem dX0_pieces_20 : decode cX0_pieces 20 = .ok (.ifCond .eq 18, 3) := by decide +kernel
theorem dX0_pieces_23 : decode cX0_pieces 23 = .ok (.iinc 2 1, 3) := by decide +kernel
theorem dX0_pieces_26 : decode cX0_pieces 26 = .ok (.iload_n 3, 1) := by decide +kernel
theorem dX0_pieces_27 : decode cX0_pieces 27 = .ok (.aload_n 0, 1) := by decide +kernel
theorem dX0_pieces_28 : decode cX0_pieces 28 = .ok (.iload 4, 2) := by decide +kernel
theorem dX0_pieces_30 : decode cX0_pieces 30 = .ok (.iload_n 1, 1) := by decide +kernel
theorem dX0_pieces_31 : decode cX0_pieces 31 = .ok (.invokevirtual 86, 3) := by decide +kernel
theorem dX0_pieces_34 : decode cX0_pieces 34 = .ok (.iconst (-1), 1) := by decide +kernel
theorem dX0_pieces_35 : decode cX0_pieces 35 = .ok (.ixor, 1) := by decide +kernel
theorem dX0_pieces_36 : decode cX0_pieces 36 = .ok (.iand, 1) := by decide +kernel
theorem dX0_pieces_37 : decode cX0_pieces 37 = .ok (.istore_n 3, 1) := by decide +kernel
theorem dX0_pieces_38 : decode cX0_pieces 38 = .ok (.iinc 4 1, 3) := by decide +kernel
theorem dX0_pieces_41 : decode cX0_pieces 41 = .ok (.goto (-34), 3) := by decide +kernel
theorem dX0_pieces_44 : decode cX0_pieces 44 = .ok (.iload_n 2, 1) := by decide +kernel
theorem dX0_pieces_45 : decode cX0_pieces 45 = .ok (.ireturn, 1) := by decide +kernel
set_option maxRecDepth 20000 in
theorem ggX0_pieceOf_X7_bit : GoodIn wsX0_pieceOf wsX7_bit := goodIn_r _ [4] (by decide +kernel) (by decide +kernel)
set_option maxRecDepth 20000 in
theorem gX0_pieceOf_X7_bit_n41 : GoodIn wsX0_pieceOf (wsX7_bit) := ggX0_pieceOf_X7_bit
set_option maxRecDepth 20000 in
theorem ggX0_pieceOf_X7_in : GoodIn wsX0_pieceOf wsX7_in := goodIn_r _ [6] (by decide +kernel) (by decide +kernel)
set_option maxRecDepth 20000 in
theorem gX0_pieceOf_X7_in_n28 : GoodIn wsX0_pieceOf (wsX7_in) := ggX0_pieceOf_X7_in
set_option maxRecDepth 20000 in
theorem ggX0_pieceOf_X5_around : GoodIn wsX0_pieceOf wsX5_around := goodIn_r _ [11, 12, 13, 14, 15, 16, 17, 18, 21, 22, 23, 24] (by decide +kernel) (by decide +kernel)
set_option maxRecDepth 20000 in
theorem gX0_pieceOf_X5_around : GoodIn wsX0_pieceOf (wsV RX0 32 RX5 yX5_around wsX5_around) := goodIn_app (goodIn_of _ (by decide +kernel)) ggX0_pieceOf_X5_around
theorem dX0_pieceOf_0 : decode cX0_pieceOf 0 = .ok (.iload_n 1, 1) := by decide +kernel
theorem dX0_pieceOf_1 : decode cX0_pieceOf 1 = .ok (.invokestatic 41, 3) := by decide +kernel
theorem dX0_pieceOf_4 : decode cX0_pieceOf 4 = .ok (.istore_n 3, 1) := by decide +kernel
theorem dX0_pieceOf_5 : decode cX0_pieceOf 5 = .ok (.iconst 0, 1) := by decide +kernel
theorem dX0_pieceOf_6 : decode cX0_pieceOf 6 = .ok (.istore 4, 2) := by decide +kernel
theorem dX0_pieceOf_8 : decode cX0_pieceOf 8 = .ok (.iload 4, 2) := by decide +kernel
theorem dX0_pieceOf_10 : decode cX0_pieceOf 10 = .ok (.bipush 16, 2) := by decide +kernel
theorem dX0_pieceOf_12 : decode cX0_pieceOf 12 = .ok (.if_icmp .ge 65, 3) := by decide +kernel
theorem dX0_pieceOf_15 : decode cX0_pieceOf 15 = .ok (.iload_n 3, 1) := by decide +kernel
theorem dX0_pieceOf_16 : decode cX0_pieceOf 16 = .ok (.istore 5, 2) := by decide +kernel
theorem dX0_pieceOf_18 : decode cX0_pieceOf 18 = .ok (.iconst 0, 1) := by decide +kernel
theorem dX0_pieceOf_19 : decode cX0_pieceOf 19 = .ok (.istore 6, 2) := by decide +kernel
theorem dX0_pieceOf_21 : decode cX0_pieceOf 21 = .ok (.iload 6, 2) := by decide +kernel
theorem dX0_pieceOf_23 : decode cX0_pieceOf 23 = .ok (.bipush 16, 2) := by decide +kernel
theorem dX0_pieceOf_25 : decode cX0_pieceOf 25 = .ok (.if_icmp .ge 34, 3) := by decide +kernel
theorem dX0_pieceOf_28 : decode cX0_pieceOf 28 = .ok (.iload_n 3, 1) := by decide +kernel
theorem dX0_pieceOf_29 : decode cX0_pieceOf 29 = .ok (.iload 6, 2) := by decide +kernel
theorem dX0_pieceOf_31 : decode cX0_pieceOf 31 = .ok (.invokestatic 28, 3) := by decide +kernel
theorem dX0_pieceOf_34 : decode cX0_pieceOf 34 = .ok (.ifCond .eq 19, 3) := by decide +kernel
theorem dX0_pieceOf_37 : decode cX0_pieceOf 37 = .ok (.iload 5, 2) := by decide +kernel
theorem dX0_pieceOf_39 : decode cX0_pieceOf 39 = .ok (.aload_n 0, 1) := by decide +kernel
theorem dX0_pieceOf_40 : decode cX0_pieceOf 40 = .ok (.getfield 20, 3) := by decide +kernel
theorem dX0_pieceOf_43 : decode cX0_pieceOf 43 = .ok (.iload 6, 2) := by decide +kernel
theorem dX0_pieceOf_45 : decode cX0_pieceOf 45 = .ok (.invokevirtual 32, 3) := by decide +kernel
theorem dX0_pieceOf_48 : decode cX0_pieceOf 48 = .ok (.iload_n 2, 1) := by decide +kernel
theorem dX0_pieceOf_49 : decode cX0_pieceOf 49 = .ok (.iand, 1) := by decide +kernel
theorem dX0_pieceOf_50 : decode cX0_pieceOf 50 = .ok (.ior, 1) := by decide +kernel
theorem dX0_pieceOf_51 : decode cX0_pieceOf 51 = .ok (.istore 5, 2) := by decide +kernel
theorem dX0_pieceOf_53 : decode cX0_pieceOf 53 = .ok (.iinc 6 1, 3) := by decide +kernel
theorem dX0_pieceOf_56 : decode cX0_pieceOf 56 = .ok (.goto (-35), 3) := by decide +kernel
theorem dX0_pieceOf_59 : decode cX0_pieceOf 59 = .ok (.iload 5, 2) := by decide +kernel
theorem dX0_pieceOf_61 : decode cX0_pieceOf 61 = .ok (.iload_n 3, 1) := by decide +kernel
theorem dX0_pieceOf_62 : decode cX0_pieceOf 62 = .ok (.if_icmp .ne 6, 3) := by decide +kernel
theorem dX0_pieceOf_65 : decode cX0_pieceOf 65 = .ok (.goto 12, 3) := by decide +kernel
theorem dX0_pieceOf_68 : decode cX0_pieceOf 68 = .ok (.iload 5, 2) := by decide +kernel
theorem dX0_pieceOf_70 : decode cX0_pieceOf 70 = .ok (.istore_n 3, 1) := by decide +kernel
theorem dX0_pieceOf_71 : decode cX0_pieceOf 71 = .ok (.iinc 4 1, 3) := by decide +kernel
theorem dX0_pieceOf_74 : decode cX0_pieceOf 74 = .ok (.goto (-66), 3) := by decide +kernel
theorem dX0_pieceOf_77 : decode cX0_pieceOf 77 = .ok (.iload_n 3, 1) := by decide +kernel
theorem dX0_pieceOf_78 : decode cX0_pieceOf 78 = .ok (.ireturn, 1) := by decide +kernel
set_option maxRecDepth 20000 in
theorem ggX0_bestToProp_X5_hasProp : GoodIn wsX0_bestToProp wsX5_hasProp := goodIn_r _ [6, 7, 8, 9, 10, 5, 11, 12, 13, 14, 15, 53, 54, 55] (by decide +kernel) (by decide +kernel)
set_option maxRecDepth 20000 in
theorem gX0_bestToProp_X5_hasProp : GoodIn wsX0_bestToProp (wsV RX0 58 RX5 yX5_hasProp wsX5_hasProp) := goodIn_app (goodIn_of _ (by decide +kernel)) ggX0_bestToProp_X5_hasProp
set_option maxRecDepth 20000 in
theorem ggX0_bestToProp_X5_plants : GoodIn wsX0_bestToProp wsX5_plants := goodIn_r _ [19, 12, 20, 14, 21, 53, 54, 55] (by decide +kernel) (by decide +kernel)
set_option maxRecDepth 20000 in
theorem gX0_bestToProp_X5_plants : GoodIn wsX0_bestToProp (wsV RX0 44 RX5 yX5_plants wsX5_plants) := goodIn_app (goodIn_of _ (by decide +kernel)) ggX0_bestToProp_X5_plants
set_option maxRecDepth 20000 in
theorem ggX0_bestToProp_X7_bit : GoodIn wsX0_bestToProp wsX7_bit := goodIn_r _ [21] (by decide +kernel) (by decide +kernel)
set_option maxRecDepth 20000 in
theorem gX0_bestToProp_X7_bit_n41 : GoodIn wsX0_bestToProp (wsX7_bit) := ggX0_bestToProp_X7_bit
set_option maxRecDepth 20000 in
theorem ggX0_bestToProp_X0_left : GoodIn wsX0_bestToProp wsX0_left := goodIn_r _ [26, 27, 28, 29, 25, 30, 1, 13, 14, 15, 31, 32, 33, 5, 34, 35, 36, 37, 38, 39, 40, 41, 42, 43, 44, 45, 46, 47, 48, 49, 50, 20, 21, 51, 52, 53, 54, 55, 56] (by decide +kernel) (by decide +kernel)
set_option maxRecDepth 20000 in
theorem gX0_bestToProp_X0_left : GoodIn wsX0_bestToProp (wsV RX0 52 RX0 yX0_left wsX0_left) := goodIn_app (goodIn_of _ (by decide +kernel)) ggX0_bestToProp_X0_left
set_option maxRecDepth 20000 in
theorem ggX0_bestToProp_X7_bits : GoodIn wsX0_bestToProp wsX7_bits := goodIn_r _ [43, 44, 45, 46, 47, 48, 49, 50] (by decide +kernel) (by decide +kernel)
set_option maxRecDepth 20000 in
theorem gX0_bestToProp_X7_bits_n38 : GoodIn wsX0_bestToProp (wsX7_bits) := ggX0_bestToProp_X7_bits
theorem dX0_bestToProp_0 : decode cX0_bestToProp 0 = .ok (.iconst 0, 1) := by decide +kernel
theorem dX0_bestToProp_1 : decode cX0_bestToProp 1 = .ok (.istore_n 2, 1) := by decide +kernel
theorem dX0_bestToProp_2 : decode cX0_bestToProp 2 = .ok (.iconst (-1), 1) := by decide +kernel
theorem dX0_bestToProp_3 : decode cX0_bestToProp 3 = .ok (.istore_n 3, 1) := by decide +kernel
theorem dX0_bestToProp_4 : decode cX0_bestToProp 4 = .ok (.iconst 0, 1) := by decide +kernel
theorem dX0_bestToProp_5 : decode cX0_bestToProp 5 = .ok (.istore 4, 2) := by decide +kernel
theorem dX0_bestToProp_7 : decode cX0_bestToProp 7 = .ok (.iload 4, 2) := by decide +kernel
theorem dX0_bestToProp_9 : decode cX0_bestToProp 9 = .ok (.aload_n 0, 1) := by decide +kernel
theorem dX0_bestToProp_10 : decode cX0_bestToProp 10 = .ok (.getfield 20, 3) := by decide +kernel
theorem dX0_bestToProp_13 : decode cX0_bestToProp 13 = .ok (.getfield 55, 3) := by decide +kernel
theorem dX0_bestToProp_16 : decode cX0_bestToProp 16 = .ok (.if_icmp .ge 63, 3) := by decide +kernel
theorem dX0_bestToProp_19 : decode cX0_bestToProp 19 = .ok (.aload_n 0, 1) := by decide +kernel
theorem dX0_bestToProp_20 : decode cX0_bestToProp 20 = .ok (.getfield 20, 3) := by decide +kernel
theorem dX0_bestToProp_23 : decode cX0_bestToProp 23 = .ok (.iload 4, 2) := by decide +kernel
theorem dX0_bestToProp_25 : decode cX0_bestToProp 25 = .ok (.invokevirtual 58, 3) := by decide +kernel
theorem dX0_bestToProp_28 : decode cX0_bestToProp 28 = .ok (.ifCond .ne 45, 3) := by decide +kernel
theorem dX0_bestToProp_31 : decode cX0_bestToProp 31 = .ok (.aload_n 0, 1) := by decide +kernel
theorem dX0_bestToProp_32 : decode cX0_bestToProp 32 = .ok (.aload_n 0, 1) := by decide +kernel
theorem dX0_bestToProp_33 : decode cX0_bestToProp 33 = .ok (.getfield 20, 3) := by decide +kernel
theorem dX0_bestToProp_36 : decode cX0_bestToProp 36 = .ok (.invokevirtual 44, 3) := by decide +kernel
theorem dX0_bestToProp_39 : decode cX0_bestToProp 39 = .ok (.aload_n 0, 1) := by decide +kernel
theorem dX0_bestToProp_40 : decode cX0_bestToProp 40 = .ok (.getfield 20, 3) := by decide +kernel
theorem dX0_bestToProp_43 : decode cX0_bestToProp 43 = .ok (.getfield 48, 3) := by decide +kernel
theorem dX0_bestToProp_46 : decode cX0_bestToProp 46 = .ok (.iload 4, 2) := by decide +kernel
theorem dX0_bestToProp_48 : decode cX0_bestToProp 48 = .ok (.invokestatic 41, 3) := by decide +kernel
theorem dX0_bestToProp_51 : decode cX0_bestToProp 51 = .ok (.ior, 1) := by decide +kernel
theorem dX0_bestToProp_52 : decode cX0_bestToProp 52 = .ok (.iload_n 1, 1) := by decide +kernel
theorem dX0_bestToProp_53 : decode cX0_bestToProp 53 = .ok (.invokevirtual 52, 3) := by decide +kernel
theorem dX0_bestToProp_56 : decode cX0_bestToProp 56 = .ok (.invokestatic 38, 3) := by decide +kernel
theorem dX0_bestToProp_59 : decode cX0_bestToProp 59 = .ok (.istore 5, 2) := by decide +kernel
theorem dX0_bestToProp_61 : decode cX0_bestToProp 61 = .ok (.iload 5, 2) := by decide +kernel
theorem dX0_bestToProp_63 : decode cX0_bestToProp 63 = .ok (.iload_n 3, 1) := by decide +kernel
theorem dX0_bestToProp_64 : decode cX0_bestToProp 64 = .ok (.if_icmp .le 9, 3) := by decide +kernel
theorem dX0_bestToProp_67 : decode cX0_bestToProp 67 = .ok (.iload 4, 2) := by decide +kernel
theorem dX0_bestToProp_69 : decode cX0_bestToProp 69 = .ok (.istore_n 2, 1) := by decide +kernel
theorem dX0_bestToProp_70 : decode cX0_bestToProp 70 = .ok (.iload 5, 2) := by decide +kernel
theorem dX0_bestToProp_72 : decode cX0_bestToProp 72 = .ok (.istore_n 3, 1) := by decide +kernel
theorem dX0_bestToProp_73 : decode cX0_bestToProp 73 = .ok (.iinc 4 1, 3) := by decide +kernel
theorem dX0_bestToProp_76 : decode cX0_bestToProp 76 = .ok (.goto (-69), 3) := by decide +kernel
theorem dX0_bestToProp_79 : decode cX0_bestToProp 79 = .ok (.iload_n 2, 1) := by decide +kernel
theorem dX0_bestToProp_80 : decode cX0_bestToProp 80 = .ok (.ireturn, 1) := by decide +kernel
set_option maxRecDepth 20000 in
theorem ggX1_init_X3_init : GoodIn wsX1_init wsX3_init := goodIn_r _ [12, 13, 2, 3, 14, 15, 16, 17, 18, 19, 20] (by decide +kernel) (by decide +kernel)
set_option maxRecDepth 20000 in
theorem gX1_init_X3_init : GoodIn wsX1_init (wsX3_init) := ggX1_init_X3_init
theorem dX1_init_0 : decode cX1_init 0 = .ok (.aload_n 0, 1) := by decide +kernel
theorem dX1_init_1 : decode cX1_init 1 = .ok (.invokespecial 3, 3) := by decide +kernel
theorem dX1_init_4 : decode cX1_init 4 = .ok (.aload_n 0, 1) := by decide +kernel
theorem dX1_init_5 : decode cX1_init 5 = .ok (.new 9, 3) := by decide +kernel
theorem dX1_init_8 : decode cX1_init 8 = .ok (.dup, 1) := by decide +kernel
theorem dX1_init_9 : decode cX1_init 9 = .ok (.bipush 16, 2) := by decide +kernel
theorem dX1_init_11 : decode cX1_init 11 = .ok (.invokespecial 11, 3) := by decide +kernel
theorem dX1_init_14 : decode cX1_init 14 = .ok (.putfield 14, 3) := by decide +kernel
theorem dX1_init_17 : decode cX1_init 17 = .ok (.aload_n 0, 1) := by decide +kernel
theorem dX1_init_18 : decode cX1_init 18 = .ok (.new 9, 3) := by decide +kernel
theorem dX1_init_21 : decode cX1_init 21 = .ok (.dup, 1) := by decide +kernel
theorem dX1_init_22 : decode cX1_init 22 = .ok (.bipush 16, 2) := by decide +kernel
theorem dX1_init_24 : decode cX1_init 24 = .ok (.invokespecial 11, 3) := by decide +kernel
theorem dX1_init_27 : decode cX1_init 27 = .ok (.putfield 20, 3) := by decide +kernel
theorem dX1_init_30 : decode cX1_init 30 = .ok (.aload_n 0, 1) := by decide +kernel
theorem dX1_init_31 : decode cX1_init 31 = .ok (.aload_n 1, 1) := by decide +kernel
theorem dX1_init_32 : decode cX1_init 32 = .ok (.putfield 23, 3) := by decide +kernel
theorem dX1_init_35 : decode cX1_init 35 = .ok (.return_, 1) := by decide +kernel
set_option maxRecDepth 20000 in
theorem ggX1_place_X1_findOrder : GoodIn wsX1_place wsX1_findOrder := goodIn_r _ [7, 1, 2, 8, 9, 10, 11, 12, 13, 14, 15, 16, 17, 18, 19, 6, 20, 21, 22, 23, 24, 25, 26, 27, 28, 29, 30, 31, 32, 33, 34, 35, 36, 37, 38, 39, 40, 41, 42, 43, 44, 45, 46, 48, 49, 50, 51, 52, 53, 54] (by decide +kernel) (by decide +kernel)
set_option maxRecDepth 20000 in
theorem gX1_place_X1_findOrder : GoodIn wsX1_place (wsV RX1 27 RX1 yX1_findOrder wsX1_findOrder) := goodIn_app (goodIn_of _ (by decide +kernel)) ggX1_place_X1_findOrder
set_option maxRecDepth 20000 in
theorem ggX1_place_X3_at : GoodIn wsX1_place wsX3_at := goodIn_r _ [30, 31, 54] (by decide +kernel) (by decide +kernel)
set_option maxRecDepth 20000 in
theorem gX1_place_X3_at : GoodIn wsX1_place (wsV RX1 36 RX3 yX3_at wsX3_at) := goodIn_app (goodIn_of _ (by decide +kernel)) ggX1_place_X3_at
theorem dX1_place_0 : decode cX1_place 0 = .ok (.aload_n 0, 1) := by decide +kernel
theorem dX1_place_1 : decode cX1_place 1 = .ok (.invokevirtual 27, 3) := by decide +kernel
theorem dX1_place_4 : decode cX1_place 4 = .ok (.iconst 0, 1) := by decide +kernel
theorem dX1_place_5 : decode cX1_place 5 = .ok (.istore_n 2, 1) := by decide +kernel
theorem dX1_place_6 : decode cX1_place 6 = .ok (.iload_n 2, 1) := by decide +kernel
theorem dX1_place_7 : decode cX1_place 7 = .ok (.aload_n 0, 1) := by decide +kernel
theorem dX1_place_8 : decode cX1_place 8 = .ok (.getfield 23, 3) := by decide +kernel
theorem dX1_place_11 : decode cX1_place 11 = .ok (.getfield 30, 3) := by decide +kernel
theorem dX1_place_14 : decode cX1_place 14 = .ok (.if_icmp .ge 23, 3) := by decide +kernel
theorem dX1_place_17 : decode cX1_place 17 = .ok (.aload_n 0, 1) := by decide +kernel
theorem dX1_place_18 : decode cX1_place 18 = .ok (.getfield 14, 3) := by decide +kernel
theorem dX1_place_21 : decode cX1_place 21 = .ok (.iload_n 2, 1) := by decide +kernel
theorem dX1_place_22 : decode cX1_place 22 = .ok (.invokevirtual 36, 3) := by decide +kernel
theorem dX1_place_25 : decode cX1_place 25 = .ok (.iload_n 1, 1) := by decide +kernel
theorem dX1_place_26 : decode cX1_place 26 = .ok (.if_icmp .ne 5, 3) := by decide +kernel
theorem dX1_place_29 : decode cX1_place 29 = .ok (.iload_n 2, 1) := by decide +kernel
theorem dX1_place_30 : decode cX1_place 30 = .ok (.ireturn, 1) := by decide +kernel
theorem dX1_place_31 : decode cX1_place 31 = .ok (.iinc 2 1, 3) := by decide +kernel
theorem dX1_place_34 : decode cX1_place 34 = .ok (.goto (-28), 3) := by decide +kernel
theorem dX1_place_37 : decode cX1_place 37 = .ok (.iconst 0, 1) := by decide +kernel
theorem dX1_place_38 : decode cX1_place 38 = .ok (.ireturn, 1) := by decide +kernel
set_option maxRecDepth 20000 in
theorem ggX1_color_X1_giveColors : GoodIn wsX1_color wsX1_giveColors := goodIn_r _ [6, 7, 8, 1, 9, 10, 11, 5, 12, 13, 14, 15, 16, 17, 18, 19, 20, 21, 22, 23, 24, 25, 26, 27, 28, 29, 30, 31, 32, 33, 34, 35, 36, 37, 38, 39, 40, 41, 42, 43, 44, 45, 46, 47, 48, 49, 50, 51, 52, 53, 54, 55, 56, 57, 58, 59, 60, 61, 62, 63] (by decide +kernel) (by decide +kernel)
set_option maxRecDepth 20000 in
theorem gX1_color_X1_giveColors : GoodIn wsX1_color (wsV RX1 40 RX1 yX1_giveColors wsX1_giveColors) := goodIn_app (goodIn_of _ (by decide +kernel)) ggX1_color_X1_giveColors
set_option maxRecDepth 20000 in
theorem ggX1_color_X3_at : GoodIn wsX1_color wsX3_at := goodIn_r _ [35, 36, 63] (by decide +kernel) (by decide +kernel)
set_option maxRecDepth 20000 in
theorem gX1_color_X3_at : GoodIn wsX1_color (wsV RX1 36 RX3 yX3_at wsX3_at) := goodIn_app (goodIn_of _ (by decide +kernel)) ggX1_color_X3_at
theorem dX1_color_0 : decode cX1_color 0 = .ok (.aload_n 0, 1) := by decide +kernel
theorem dX1_color_1 : decode cX1_color 1 = .ok (.invokevirtual 40, 3) := by decide +kernel
theorem dX1_color_4 : decode cX1_color 4 = .ok (.aload_n 0, 1) := by decide +kernel
theorem dX1_color_5 : decode cX1_color 5 = .ok (.getfield 20, 3) := by decide +kernel
theorem dX1_color_8 : decode cX1_color 8 = .ok (.iload_n 1, 1) := by decide +kernel
theorem dX1_color_9 : decode cX1_color 9 = .ok (.invokevirtual 36, 3) := by decide +kernel
theorem dX1_color_12 : decode cX1_color 12 = .ok (.ireturn, 1) := by decide +kernel
set_option maxRecDepth 20000 in
theorem ggX1_colorCount_X1_giveColors : GoodIn wsX1_colorCount wsX1_giveColors := goodIn_r _ [11, 1, 12, 2, 13, 14, 15, 10, 16, 17, 18, 19, 20, 21, 22, 23, 24, 25, 26, 27, 28, 29, 30, 31, 32, 33, 34, 35, 36, 37, 38, 39, 40, 41, 42, 43, 44, 45, 46, 47, 48, 49, 50, 51, 52, 53, 54, 55, 56, 57, 58, 59, 60, 61, 62, 63, 64, 65, 66, 67] (by decide +kernel) (by decide +kernel)
set_option maxRecDepth 20000 in
theorem gX1_colorCount_X1_giveColors : GoodIn wsX1_colorCount (wsV RX1 40 RX1 yX1_giveColors wsX1_giveColors) := goodIn_app (goodIn_of _ (by decide +kernel)) ggX1_colorCount_X1_giveColors
set_option maxRecDepth 20000 in
theorem ggX1_colorCount_X3_at : GoodIn wsX1_colorCount wsX3_at := goodIn_r _ [39, 40, 67] (by decide +kernel) (by decide +kernel)
set_option maxRecDepth 20000 in
theorem gX1_colorCount_X3_at : GoodIn wsX1_colorCount (wsV RX1 36 RX3 yX3_at wsX3_at) := goodIn_app (goodIn_of _ (by decide +kernel)) ggX1_colorCount_X3_at
theorem dX1_colorCount_0 : decode cX1_colorCount 0 = .ok (.aload_n 0, 1) := by decide +kernel
theorem dX1_colorCount_1 : decode cX1_colorCount 1 = .ok (.invokevirtual 40, 3) := by decide +kernel
theorem dX1_colorCount_4 : decode cX1_colorCount 4 = .ok (.iconst 0, 1) := by decide +kernel
theorem dX1_colorCount_5 : decode cX1_colorCount 5 = .ok (.istore_n 1, 1) := by decide +kernel
theorem dX1_colorCount_6 : decode cX1_colorCount 6 = .ok (.iconst 0, 1) := by decide +kernel
theorem dX1_colorCount_7 : decode cX1_colorCount 7 = .ok (.istore_n 2, 1) := by decide +kernel
theorem dX1_colorCount_8 : decode cX1_colorCount 8 = .ok (.iload_n 2, 1) := by decide +kernel
theorem dX1_colorCount_9 : decode cX1_colorCount 9 = .ok (.aload_n 0, 1) := by decide +kernel
theorem dX1_colorCount_10 : decode cX1_colorCount 10 = .ok (.getfield 23, 3) := by decide +kernel
theorem dX1_colorCount_13 : decode cX1_colorCount 13 = .ok (.getfield 30, 3) := by decide +kernel
theorem dX1_colorCount_16 : decode cX1_colorCount 16 = .ok (.if_icmp .ge 24, 3) := by decide +kernel
theorem dX1_colorCount_19 : decode cX1_colorCount 19 = .ok (.iload_n 1, 1) := by decide +kernel
theorem dX1_colorCount_20 : decode cX1_colorCount 20 = .ok (.aload_n 0, 1) := by decide +kernel
theorem dX1_colorCount_21 : decode cX1_colorCount 21 = .ok (.getfield 20, 3) := by decide +kernel
theorem dX1_colorCount_24 : decode cX1_colorCount 24 = .ok (.iload_n 2, 1) := by decide +kernel
theorem dX1_colorCount_25 : decode cX1_colorCount 25 = .ok (.invokevirtual 36, 3) := by decide +kernel
theorem dX1_colorCount_28 : decode cX1_colorCount 28 = .ok (.iconst 1, 1) := by decide +kernel
theorem dX1_colorCount_29 : decode cX1_colorCount 29 = .ok (.iadd, 1) := by decide +kernel
theorem dX1_colorCount_30 : decode cX1_colorCount 30 = .ok (.invokestatic 43, 3) := by decide +kernel
theorem dX1_colorCount_33 : decode cX1_colorCount 33 = .ok (.istore_n 1, 1) := by decide +kernel
theorem dX1_colorCount_34 : decode cX1_colorCount 34 = .ok (.iinc 2 1, 3) := by decide +kernel
theorem dX1_colorCount_37 : decode cX1_colorCount 37 = .ok (.goto (-29), 3) := by decide +kernel
theorem dX1_colorCount_40 : decode cX1_colorCount 40 = .ok (.iload_n 1, 1) := by decide +kernel
theorem dX1_colorCount_41 : decode cX1_colorCount 41 = .ok (.ireturn, 1) := by decide +kernel
set_option maxRecDepth 20000 in
theorem ggX1_findOrder_X5_plants : GoodIn wsX1_findOrder wsX5_plants := goodIn_r _ [7, 8, 9, 10, 11, 46, 47, 48] (by decide +kernel) (by decide +kernel)
set_option maxRecDepth 20000 in
theorem gX1_findOrder_X5_plants : GoodIn wsX1_findOrder (wsV RX1 49 RX5 yX5_plants wsX5_plants) := goodIn_app (goodIn_of _ (by decide +kernel)) ggX1_findOrder_X5_plants
set_option maxRecDepth 20000 in
theorem ggX1_findOrder_X1_nextToFall : GoodIn wsX1_findOrder wsX1_nextToFall := goodIn_r _ [16, 1, 17, 18, 19, 6, 20, 21, 22, 23, 24, 25, 26, 27, 28, 10, 29, 30, 31, 32, 33, 34, 35, 36, 37, 38, 43, 44, 45, 46, 47, 48, 49] (by decide +kernel) (by decide +kernel)
set_option maxRecDepth 20000 in
theorem gX1_findOrder_X1_nextToFall : GoodIn wsX1_findOrder (wsV RX1 53 RX1 yX1_nextToFall wsX1_nextToFall) := goodIn_app (goodIn_of _ (by decide +kernel)) ggX1_findOrder_X1_nextToFall
set_option maxRecDepth 20000 in
theorem ggX1_findOrder_X3_put : GoodIn wsX1_findOrder wsX3_put := goodIn_r _ [42, 27, 49] (by decide +kernel) (by decide +kernel)
set_option maxRecDepth 20000 in
theorem gX1_findOrder_X3_put : GoodIn wsX1_findOrder (wsV RX1 56 RX3 yX3_put wsX3_put) := goodIn_app (goodIn_of _ (by decide +kernel)) ggX1_findOrder_X3_put
set_option maxRecDepth 20000 in
theorem ggX1_findOrder_X7_bit : GoodIn wsX1_findOrder wsX7_bit := goodIn_r _ [11] (by decide +kernel) (by decide +kernel)
set_option maxRecDepth 20000 in
theorem gX1_findOrder_X7_bit_n60 : GoodIn wsX1_findOrder (wsX7_bit) := ggX1_findOrder_X7_bit
theorem dX1_findOrder_0 : decode cX1_findOrder 0 = .ok (.aload_n 0, 1) := by decide +kernel
theorem dX1_findOrder_1 : decode cX1_findOrder 1 = .ok (.getfield 23, 3) := by decide +kernel
theorem dX1_findOrder_4 : decode cX1_findOrder 4 = .ok (.invokevirtual 49, 3) := by decide +kernel
theorem dX1_findOrder_7 : decode cX1_findOrder 7 = .ok (.istore_n 1, 1) := by decide +kernel
theorem dX1_findOrder_8 : decode cX1_findOrder 8 = .ok (.iconst 0, 1) := by decide +kernel
theorem dX1_findOrder_9 : decode cX1_findOrder 9 = .ok (.istore_n 2, 1) := by decide +kernel
theorem dX1_findOrder_10 : decode cX1_findOrder 10 = .ok (.iload_n 2, 1) := by decide +kernel
theorem dX1_findOrder_11 : decode cX1_findOrder 11 = .ok (.aload_n 0, 1) := by decide +kernel
theorem dX1_findOrder_12 : decode cX1_findOrder 12 = .ok (.getfield 23, 3) := by decide +kernel
theorem dX1_findOrder_15 : decode cX1_findOrder 15 = .ok (.getfield 30, 3) := by decide +kernel
theorem dX1_findOrder_18 : decode cX1_findOrder 18 = .ok (.if_icmp .ge 33, 3) := by decide +kernel
theorem dX1_findOrder_21 : decode cX1_findOrder 21 = .ok (.aload_n 0, 1) := by decide +kernel
theorem dX1_findOrder_22 : decode cX1_findOrder 22 = .ok (.iload_n 1, 1) := by decide +kernel
theorem dX1_findOrder_23 : decode cX1_findOrder 23 = .ok (.invokevirtual 53, 3) := by decide +kernel
theorem dX1_findOrder_26 : decode cX1_findOrder 26 = .ok (.istore_n 3, 1) := by decide +kernel
theorem dX1_findOrder_27 : decode cX1_findOrder 27 = .ok (.aload_n 0, 1) := by decide +kernel
theorem dX1_findOrder_28 : decode cX1_findOrder 28 = .ok (.getfield 14, 3) := by decide +kernel
theorem dX1_findOrder_31 : decode cX1_findOrder 31 = .ok (.iload_n 2, 1) := by decide +kernel
theorem dX1_findOrder_32 : decode cX1_findOrder 32 = .ok (.iload_n 3, 1) := by decide +kernel
theorem dX1_findOrder_33 : decode cX1_findOrder 33 = .ok (.invokevirtual 56, 3) := by decide +kernel
theorem dX1_findOrder_36 : decode cX1_findOrder 36 = .ok (.iload_n 1, 1) := by decide +kernel
theorem dX1_findOrder_37 : decode cX1_findOrder 37 = .ok (.iload_n 3, 1) := by decide +kernel
theorem dX1_findOrder_38 : decode cX1_findOrder 38 = .ok (.invokestatic 60, 3) := by decide +kernel
theorem dX1_findOrder_41 : decode cX1_findOrder 41 = .ok (.iconst (-1), 1) := by decide +kernel
theorem dX1_findOrder_42 : decode cX1_findOrder 42 = .ok (.ixor, 1) := by decide +kernel
theorem dX1_findOrder_43 : decode cX1_findOrder 43 = .ok (.iand, 1) := by decide +kernel
theorem dX1_findOrder_44 : decode cX1_findOrder 44 = .ok (.istore_n 1, 1) := by decide +kernel
theorem dX1_findOrder_45 : decode cX1_findOrder 45 = .ok (.iinc 2 1, 3) := by decide +kernel
theorem dX1_findOrder_48 : decode cX1_findOrder 48 = .ok (.goto (-38), 3) := by decide +kernel
theorem dX1_findOrder_51 : decode cX1_findOrder 51 = .ok (.return_, 1) := by decide +kernel
set_option maxRecDepth 20000 in
theorem ggX1_nextToFall_X5_around : GoodIn wsX1_nextToFall wsX5_around := goodIn_r _ [6, 7, 8, 9, 10, 11, 12, 13, 29, 30, 31, 32] (by decide +kernel) (by decide +kernel)
set_option maxRecDepth 20000 in
theorem gX1_nextToFall_X5_around : GoodIn wsX1_nextToFall (wsV RX1 66 RX5 yX5_around wsX5_around) := goodIn_app (goodIn_of _ (by decide +kernel)) ggX1_nextToFall_X5_around
set_option maxRecDepth 20000 in
theorem ggX1_nextToFall_X7_bits : GoodIn wsX1_nextToFall wsX7_bits := goodIn_r _ [16, 17, 18, 19, 20, 21, 22, 23] (by decide +kernel) (by decide +kernel)
set_option maxRecDepth 20000 in
theorem gX1_nextToFall_X7_bits_n69 : GoodIn wsX1_nextToFall (wsX7_bits) := ggX1_nextToFall_X7_bits
set_option maxRecDepth 20000 in
theorem ggX1_nextToFall_X7_in : GoodIn wsX1_nextToFall wsX7_in := goodIn_r _ [25] (by decide +kernel) (by decide +kernel)
set_option maxRecDepth 20000 in
theorem gX1_nextToFall_X7_in_n72 : GoodIn wsX1_nextToFall (wsX7_in) := ggX1_nextToFall_X7_in
theorem dX1_nextToFall_0 : decode cX1_nextToFall 0 = .ok (.iload_n 1, 1) := by decide +kernel
theorem dX1_nextToFall_1 : decode cX1_nextToFall 1 = .ok (.aload_n 0, 1) := by decide +kernel
theorem dX1_nextToFall_2 : decode cX1_nextToFall 2 = .ok (.getfield 23, 3) := by decide +kernel
theorem dX1_nextToFall_5 : decode cX1_nextToFall 5 = .ok (.getfield 63, 3) := by decide +kernel
theorem dX1_nextToFall_8 : decode cX1_nextToFall 8 = .ok (.iconst (-1), 1) := by decide +kernel
theorem dX1_nextToFall_9 : decode cX1_nextToFall 9 = .ok (.ixor, 1) := by decide +kernel
theorem dX1_nextToFall_10 : decode cX1_nextToFall 10 = .ok (.iand, 1) := by decide +kernel
theorem dX1_nextToFall_11 : decode cX1_nextToFall 11 = .ok (.istore_n 2, 1) := by decide +kernel
theorem dX1_nextToFall_12 : decode cX1_nextToFall 12 = .ok (.iload_n 2, 1) := by decide +kernel
theorem dX1_nextToFall_13 : decode cX1_nextToFall 13 = .ok (.ifCond .eq 7, 3) := by decide +kernel
theorem dX1_nextToFall_16 : decode cX1_nextToFall 16 = .ok (.iload_n 2, 1) := by decide +kernel
theorem dX1_nextToFall_17 : decode cX1_nextToFall 17 = .ok (.goto 4, 3) := by decide +kernel
theorem dX1_nextToFall_20 : decode cX1_nextToFall 20 = .ok (.iload_n 1, 1) := by decide +kernel
theorem dX1_nextToFall_21 : decode cX1_nextToFall 21 = .ok (.istore_n 3, 1) := by decide +kernel
theorem dX1_nextToFall_22 : decode cX1_nextToFall 22 = .ok (.iconst 0, 1) := by decide +kernel
theorem dX1_nextToFall_23 : decode cX1_nextToFall 23 = .ok (.istore 4, 2) := by decide +kernel
theorem dX1_nextToFall_25 : decode cX1_nextToFall 25 = .ok (.bipush 16, 2) := by decide +kernel
theorem dX1_nextToFall_27 : decode cX1_nextToFall 27 = .ok (.istore 5, 2) := by decide +kernel
theorem dX1_nextToFall_29 : decode cX1_nextToFall 29 = .ok (.iconst 0, 1) := by decide +kernel
theorem dX1_nextToFall_30 : decode cX1_nextToFall 30 = .ok (.istore 6, 2) := by decide +kernel
theorem dX1_nextToFall_32 : decode cX1_nextToFall 32 = .ok (.iload 6, 2) := by decide +kernel
theorem dX1_nextToFall_34 : decode cX1_nextToFall 34 = .ok (.aload_n 0, 1) := by decide +kernel
theorem dX1_nextToFall_35 : decode cX1_nextToFall 35 = .ok (.getfield 23, 3) := by decide +kernel
theorem dX1_nextToFall_38 : decode cX1_nextToFall 38 = .ok (.getfield 30, 3) := by decide +kernel
theorem dX1_nextToFall_41 : decode cX1_nextToFall 41 = .ok (.if_icmp .ge 57, 3) := by decide +kernel
theorem dX1_nextToFall_44 : decode cX1_nextToFall 44 = .ok (.iload_n 2, 1) := by decide +kernel
theorem dX1_nextToFall_45 : decode cX1_nextToFall 45 = .ok (.ifCond .eq 20, 3) := by decide +kernel
theorem dX1_nextToFall_48 : decode cX1_nextToFall 48 = .ok (.aload_n 0, 1) := by decide +kernel
theorem dX1_nextToFall_49 : decode cX1_nextToFall 49 = .ok (.getfield 23, 3) := by decide +kernel
theorem dX1_nextToFall_52 : decode cX1_nextToFall 52 = .ok (.iload 6, 2) := by decide +kernel
theorem dX1_nextToFall_54 : decode cX1_nextToFall 54 = .ok (.invokevirtual 66, 3) := by decide +kernel
theorem dX1_nextToFall_57 : decode cX1_nextToFall 57 = .ok (.iload_n 1, 1) := by decide +kernel
theorem dX1_nextToFall_58 : decode cX1_nextToFall 58 = .ok (.iand, 1) := by decide +kernel
theorem dX1_nextToFall_59 : decode cX1_nextToFall 59 = .ok (.invokestatic 69, 3) := by decide +kernel
theorem dX1_nextToFall_62 : decode cX1_nextToFall 62 = .ok (.goto 4, 3) := by decide +kernel
theorem dX1_nextToFall_65 : decode cX1_nextToFall 65 = .ok (.iconst 0, 1) := by decide +kernel
theorem dX1_nextToFall_66 : decode cX1_nextToFall 66 = .ok (.istore 7, 2) := by decide +kernel
theorem dX1_nextToFall_68 : decode cX1_nextToFall 68 = .ok (.iload_n 3, 1) := by decide +kernel
theorem dX1_nextToFall_69 : decode cX1_nextToFall 69 = .ok (.iload 6, 2) := by decide +kernel
theorem dX1_nextToFall_71 : decode cX1_nextToFall 71 = .ok (.invokestatic 72, 3) := by decide +kernel
theorem dX1_nextToFall_74 : decode cX1_nextToFall 74 = .ok (.ifCond .eq 18, 3) := by decide +kernel
theorem dX1_nextToFall_77 : decode cX1_nextToFall 77 = .ok (.iload 7, 2) := by decide +kernel
theorem dX1_nextToFall_79 : decode cX1_nextToFall 79 = .ok (.iload 5, 2) := by decide +kernel
theorem dX1_nextToFall_81 : decode cX1_nextToFall 81 = .ok (.if_icmp .ge 11, 3) := by decide +kernel
theorem dX1_nextToFall_84 : decode cX1_nextToFall 84 = .ok (.iload 6, 2) := by decide +kernel
theorem dX1_nextToFall_86 : decode cX1_nextToFall 86 = .ok (.istore 4, 2) := by decide +kernel
theorem dX1_nextToFall_88 : decode cX1_nextToFall 88 = .ok (.iload 7, 2) := by decide +kernel
theorem dX1_nextToFall_90 : decode cX1_nextToFall 90 = .ok (.istore 5, 2) := by decide +kernel
theorem dX1_nextToFall_92 : decode cX1_nextToFall 92 = .ok (.iinc 6 1, 3) := by decide +kernel
theorem dX1_nextToFall_95 : decode cX1_nextToFall 95 = .ok (.goto (-63), 3) := by decide +kernel
theorem dX1_nextToFall_98 : decode cX1_nextToFall 98 = .ok (.iload 4, 2) := by decide +kernel
theorem dX1_nextToFall_100 : decode cX1_nextToFall 100 = .ok (.ireturn, 1) := by decide +kernel
set_option maxRecDepth 20000 in
theorem ggX1_giveColors_X1_findOrder : GoodIn wsX1_giveColors wsX1_findOrder := goodIn_r _ [8, 1, 2, 9, 10, 11, 12, 13, 14, 15, 16, 17, 18, 19, 20, 7, 21, 22, 23, 24, 25, 26, 27, 28, 29, 30, 31, 32, 33, 34, 35, 36, 37, 38, 39, 40, 41, 42, 43, 44, 45, 46, 47, 53, 54, 55, 56, 57, 58, 59] (by decide +kernel) (by decide +kernel)
set_option maxRecDepth 20000 in
theorem gX1_giveColors_X1_findOrder : GoodIn wsX1_giveColors (wsV RX1 27 RX1 yX1_findOrder wsX1_findOrder) := goodIn_app (goodIn_of _ (by decide +kernel)) ggX1_giveColors_X1_findOrder
set_option maxRecDepth 20000 in
theorem ggX1_giveColors_X3_at : GoodIn wsX1_giveColors wsX3_at := goodIn_r _ [31, 32, 59] (by decide +kernel) (by decide +kernel)
set_option maxRecDepth 20000 in
theorem gX1_giveColors_X3_at : GoodIn wsX1_giveColors (wsV RX1 36 RX3 yX3_at wsX3_at) := goodIn_app (goodIn_of _ (by decide +kernel)) ggX1_giveColors_X3_at
set_option maxRecDepth 20000 in
theorem ggX1_giveColors_X5_around : GoodIn wsX1_giveColors wsX5_around := goodIn_r _ [25, 26, 27, 28, 29, 30, 31, 32, 56, 57, 58, 59] (by decide +kernel) (by decide +kernel)
set_option maxRecDepth 20000 in
theorem gX1_giveColors_X5_around : GoodIn wsX1_giveColors (wsV RX1 66 RX5 yX5_around wsX5_around) := goodIn_app (goodIn_of _ (by decide +kernel)) ggX1_giveColors_X5_around
set_option maxRecDepth 20000 in
theorem ggX1_giveColors_X1_leastColor : GoodIn wsX1_giveColors wsX1_leastColor := goodIn_r _ [52, 1, 3, 42, 16, 43, 48, 28, 29, 30, 31, 32, 15, 17, 53, 54, 55, 56, 57, 58, 59] (by decide +kernel) (by decide +kernel)
set_option maxRecDepth 20000 in
theorem gX1_giveColors_X1_leastColor : GoodIn wsX1_giveColors (wsV RX1 76 RX1 yX1_leastColor wsX1_leastColor) := goodIn_app (goodIn_of _ (by decide +kernel)) ggX1_giveColors_X1_leastColor
set_option maxRecDepth 20000 in
theorem ggX1_giveColors_X3_put : GoodIn wsX1_giveColors wsX3_put := goodIn_r _ [47, 32, 59] (by decide +kernel) (by decide +kernel)
set_option maxRecDepth 20000 in
theorem gX1_giveColors_X3_put : GoodIn wsX1_giveColors (wsV RX1 56 RX3 yX3_put wsX3_put) := goodIn_app (goodIn_of _ (by decide +kernel)) ggX1_giveColors_X3_put
set_option maxRecDepth 20000 in
theorem ggX1_giveColors_X7_bit : GoodIn wsX1_giveColors wsX7_bit := goodIn_r _ [17] (by decide +kernel) (by decide +kernel)
set_option maxRecDepth 20000 in
theorem gX1_giveColors_X7_bit_n60 : GoodIn wsX1_giveColors (wsX7_bit) := ggX1_giveColors_X7_bit
theorem dX1_giveColors_0 : decode cX1_giveColors 0 = .ok (.aload_n 0, 1) := by decide +kernel
theorem dX1_giveColors_1 : decode cX1_giveColors 1 = .ok (.invokevirtual 27, 3) := by decide +kernel
theorem dX1_giveColors_4 : decode cX1_giveColors 4 = .ok (.iconst 0, 1) := by decide +kernel
theorem dX1_giveColors_5 : decode cX1_giveColors 5 = .ok (.istore_n 1, 1) := by decide +kernel
theorem dX1_giveColors_6 : decode cX1_giveColors 6 = .ok (.aload_n 0, 1) := by decide +kernel
theorem dX1_giveColors_7 : decode cX1_giveColors 7 = .ok (.getfield 23, 3) := by decide +kernel
theorem dX1_giveColors_10 : decode cX1_giveColors 10 = .ok (.getfield 30, 3) := by decide +kernel
theorem dX1_giveColors_13 : decode cX1_giveColors 13 = .ok (.iconst 1, 1) := by decide +kernel
theorem dX1_giveColors_14 : decode cX1_giveColors 14 = .ok (.isub, 1) := by decide +kernel
theorem dX1_giveColors_15 : decode cX1_giveColors 15 = .ok (.istore_n 2, 1) := by decide +kernel
theorem dX1_giveColors_16 : decode cX1_giveColors 16 = .ok (.iload_n 2, 1) := by decide +kernel
theorem dX1_giveColors_17 : decode cX1_giveColors 17 = .ok (.ifCond .lt 47, 3) := by decide +kernel
theorem dX1_giveColors_20 : decode cX1_giveColors 20 = .ok (.aload_n 0, 1) := by decide +kernel
theorem dX1_giveColors_21 : decode cX1_giveColors 21 = .ok (.getfield 14, 3) := by decide +kernel
theorem dX1_giveColors_24 : decode cX1_giveColors 24 = .ok (.iload_n 2, 1) := by decide +kernel
theorem dX1_giveColors_25 : decode cX1_giveColors 25 = .ok (.invokevirtual 36, 3) := by decide +kernel
theorem dX1_giveColors_28 : decode cX1_giveColors 28 = .ok (.istore_n 3, 1) := by decide +kernel
theorem dX1_giveColors_29 : decode cX1_giveColors 29 = .ok (.aload_n 0, 1) := by decide +kernel
theorem dX1_giveColors_30 : decode cX1_giveColors 30 = .ok (.getfield 20, 3) := by decide +kernel
theorem dX1_giveColors_33 : decode cX1_giveColors 33 = .ok (.iload_n 3, 1) := by decide +kernel
theorem dX1_giveColors_34 : decode cX1_giveColors 34 = .ok (.aload_n 0, 1) := by decide +kernel
theorem dX1_giveColors_35 : decode cX1_giveColors 35 = .ok (.aload_n 0, 1) := by decide +kernel
theorem dX1_giveColors_36 : decode cX1_giveColors 36 = .ok (.getfield 23, 3) := by decide +kernel
theorem dX1_giveColors_39 : decode cX1_giveColors 39 = .ok (.iload_n 3, 1) := by decide +kernel
theorem dX1_giveColors_40 : decode cX1_giveColors 40 = .ok (.invokevirtual 66, 3) := by decide +kernel
theorem dX1_giveColors_43 : decode cX1_giveColors 43 = .ok (.iload_n 1, 1) := by decide +kernel
theorem dX1_giveColors_44 : decode cX1_giveColors 44 = .ok (.iand, 1) := by decide +kernel
theorem dX1_giveColors_45 : decode cX1_giveColors 45 = .ok (.invokevirtual 76, 3) := by decide +kernel
theorem dX1_giveColors_48 : decode cX1_giveColors 48 = .ok (.invokevirtual 56, 3) := by decide +kernel
theorem dX1_giveColors_51 : decode cX1_giveColors 51 = .ok (.iload_n 1, 1) := by decide +kernel
theorem dX1_giveColors_52 : decode cX1_giveColors 52 = .ok (.iload_n 3, 1) := by decide +kernel
theorem dX1_giveColors_53 : decode cX1_giveColors 53 = .ok (.invokestatic 60, 3) := by decide +kernel
theorem dX1_giveColors_56 : decode cX1_giveColors 56 = .ok (.ior, 1) := by decide +kernel
theorem dX1_giveColors_57 : decode cX1_giveColors 57 = .ok (.istore_n 1, 1) := by decide +kernel
theorem dX1_giveColors_58 : decode cX1_giveColors 58 = .ok (.iinc 2 (-1), 3) := by decide +kernel
theorem dX1_giveColors_61 : decode cX1_giveColors 61 = .ok (.goto (-45), 3) := by decide +kernel
theorem dX1_giveColors_64 : decode cX1_giveColors 64 = .ok (.return_, 1) := by decide +kernel
set_option maxRecDepth 20000 in
theorem ggX1_leastColor_X7_in : GoodIn wsX1_leastColor wsX7_in := goodIn_r _ [5] (by decide +kernel) (by decide +kernel)
set_option maxRecDepth 20000 in
theorem gX1_leastColor_X7_in_n72 : GoodIn wsX1_leastColor (wsX7_in) := ggX1_leastColor_X7_in
set_option maxRecDepth 20000 in
theorem ggX1_leastColor_X3_at : GoodIn wsX1_leastColor wsX3_at := goodIn_r _ [10, 11, 20] (by decide +kernel) (by decide +kernel)
set_option maxRecDepth 20000 in
theorem gX1_leastColor_X3_at : GoodIn wsX1_leastColor (wsV RX1 36 RX3 yX3_at wsX3_at) := goodIn_app (goodIn_of _ (by decide +kernel)) ggX1_leastColor_X3_at
set_option maxRecDepth 20000 in
theorem ggX1_leastColor_X7_bit : GoodIn wsX1_leastColor wsX7_bit := goodIn_r _ [13] (by decide +kernel) (by decide +kernel)
set_option maxRecDepth 20000 in
theorem gX1_leastColor_X7_bit_n60 : GoodIn wsX1_leastColor (wsX7_bit) := ggX1_leastColor_X7_bit
theorem dX1_leastColor_0 : decode cX1_leastColor 0 = .ok (.iconst 0, 1) := by decide +kernel
theorem dX1_leastColor_1 : decode cX1_leastColor 1 = .ok (.istore_n 2, 1) := by decide +kernel
theorem dX1_leastColor_2 : decode cX1_leastColor 2 = .ok (.iconst 0, 1) := by decide +kernel
theorem dX1_leastColor_3 : decode cX1_leastColor 3 = .ok (.istore_n 3, 1) := by decide +kernel
theorem dX1_leastColor_4 : decode cX1_leastColor 4 = .ok (.iload_n 3, 1) := by decide +kernel
theorem dX1_leastColor_5 : decode cX1_leastColor 5 = .ok (.aload_n 0, 1) := by decide +kernel
theorem dX1_leastColor_6 : decode cX1_leastColor 6 = .ok (.getfield 23, 3) := by decide +kernel
theorem dX1_leastColor_9 : decode cX1_leastColor 9 = .ok (.getfield 30, 3) := by decide +kernel
theorem dX1_leastColor_12 : decode cX1_leastColor 12 = .ok (.if_icmp .ge 31, 3) := by decide +kernel
theorem dX1_leastColor_15 : decode cX1_leastColor 15 = .ok (.iload_n 1, 1) := by decide +kernel
theorem dX1_leastColor_16 : decode cX1_leastColor 16 = .ok (.iload_n 3, 1) := by decide +kernel
theorem dX1_leastColor_17 : decode cX1_leastColor 17 = .ok (.invokestatic 72, 3) := by decide +kernel
theorem dX1_leastColor_20 : decode cX1_leastColor 20 = .ok (.ifCond .eq 17, 3) := by decide +kernel
theorem dX1_leastColor_23 : decode cX1_leastColor 23 = .ok (.iload_n 2, 1) := by decide +kernel
theorem dX1_leastColor_24 : decode cX1_leastColor 24 = .ok (.aload_n 0, 1) := by decide +kernel
theorem dX1_leastColor_25 : decode cX1_leastColor 25 = .ok (.getfield 20, 3) := by decide +kernel
theorem dX1_leastColor_28 : decode cX1_leastColor 28 = .ok (.iload_n 3, 1) := by decide +kernel
theorem dX1_leastColor_29 : decode cX1_leastColor 29 = .ok (.invokevirtual 36, 3) := by decide +kernel
theorem dX1_leastColor_32 : decode cX1_leastColor 32 = .ok (.invokestatic 60, 3) := by decide +kernel
theorem dX1_leastColor_35 : decode cX1_leastColor 35 = .ok (.ior, 1) := by decide +kernel
theorem dX1_leastColor_36 : decode cX1_leastColor 36 = .ok (.istore_n 2, 1) := by decide +kernel
theorem dX1_leastColor_37 : decode cX1_leastColor 37 = .ok (.iinc 3 1, 3) := by decide +kernel
theorem dX1_leastColor_40 : decode cX1_leastColor 40 = .ok (.goto (-36), 3) := by decide +kernel
theorem dX1_leastColor_43 : decode cX1_leastColor 43 = .ok (.iconst 0, 1) := by decide +kernel
theorem dX1_leastColor_44 : decode cX1_leastColor 44 = .ok (.istore_n 3, 1) := by decide +kernel
theorem dX1_leastColor_45 : decode cX1_leastColor 45 = .ok (.iload_n 3, 1) := by decide +kernel
theorem dX1_leastColor_46 : decode cX1_leastColor 46 = .ok (.bipush 16, 2) := by decide +kernel
theorem dX1_leastColor_48 : decode cX1_leastColor 48 = .ok (.if_icmp .ge 19, 3) := by decide +kernel
theorem dX1_leastColor_51 : decode cX1_leastColor 51 = .ok (.iload_n 2, 1) := by decide +kernel
theorem dX1_leastColor_52 : decode cX1_leastColor 52 = .ok (.iload_n 3, 1) := by decide +kernel
theorem dX1_leastColor_53 : decode cX1_leastColor 53 = .ok (.invokestatic 72, 3) := by decide +kernel
theorem dX1_leastColor_56 : decode cX1_leastColor 56 = .ok (.ifCond .ne 5, 3) := by decide +kernel
theorem dX1_leastColor_59 : decode cX1_leastColor 59 = .ok (.iload_n 3, 1) := by decide +kernel
theorem dX1_leastColor_60 : decode cX1_leastColor 60 = .ok (.ireturn, 1) := by decide +kernel
theorem dX1_leastColor_61 : decode cX1_leastColor 61 = .ok (.iinc 3 1, 3) := by decide +kernel
theorem dX1_leastColor_64 : decode cX1_leastColor 64 = .ok (.goto (-19), 3) := by decide +kernel
theorem dX1_leastColor_67 : decode cX1_leastColor 67 = .ok (.iconst 0, 1) := by decide +kernel
theorem dX1_leastColor_68 : decode cX1_leastColor 68 = .ok (.ireturn, 1) := by decide +kernel
set_option maxRecDepth 20000 in
theorem ggX2_init_X3_init : GoodIn wsX2_init wsX3_init := goodIn_r _ [12, 13, 2, 3, 14, 15, 16, 17, 18, 19, 20] (by decide +kernel) (by decide +kernel)
set_option maxRecDepth 20000 in
theorem gX2_init_X3_init : GoodIn wsX2_init (wsX3_init) := ggX2_init_X3_init
theorem dX2_init_0 : decode cX2_init 0 = .ok (.aload_n 0, 1) := by decide +kernel
theorem dX2_init_1 : decode cX2_init 1 = .ok (.invokespecial 3, 3) := by decide +kernel
theorem dX2_init_4 : decode cX2_init 4 = .ok (.aload_n 0, 1) := by decide +kernel
theorem dX2_init_5 : decode cX2_init 5 = .ok (.new 9, 3) := by decide +kernel
theorem dX2_init_8 : decode cX2_init 8 = .ok (.dup, 1) := by decide +kernel
theorem dX2_init_9 : decode cX2_init 9 = .ok (.bipush 108, 2) := by decide +kernel
theorem dX2_init_11 : decode cX2_init 11 = .ok (.invokespecial 13, 3) := by decide +kernel
theorem dX2_init_14 : decode cX2_init 14 = .ok (.putfield 16, 3) := by decide +kernel
theorem dX2_init_17 : decode cX2_init 17 = .ok (.aload_n 0, 1) := by decide +kernel
theorem dX2_init_18 : decode cX2_init 18 = .ok (.iconst 0, 1) := by decide +kernel
theorem dX2_init_19 : decode cX2_init 19 = .ok (.putfield 22, 3) := by decide +kernel
theorem dX2_init_22 : decode cX2_init 22 = .ok (.aload_n 0, 1) := by decide +kernel
theorem dX2_init_23 : decode cX2_init 23 = .ok (.iconst 0, 1) := by decide +kernel
theorem dX2_init_24 : decode cX2_init 24 = .ok (.putfield 26, 3) := by decide +kernel
theorem dX2_init_27 : decode cX2_init 27 = .ok (.return_, 1) := by decide +kernel
set_option maxRecDepth 20000 in
theorem ggX2_remember_X2_start : GoodIn wsX2_remember wsX2_start := goodIn_r _ [8, 2, 27, 28, 29] (by decide +kernel) (by decide +kernel)
set_option maxRecDepth 20000 in
theorem gX2_remember_X2_start : GoodIn wsX2_remember (wsV RX2 29 RX2 yX2_start wsX2_start) := goodIn_app (goodIn_of _ (by decide +kernel)) ggX2_remember_X2_start
set_option maxRecDepth 20000 in
theorem ggX2_remember_X5_writeTo : GoodIn wsX2_remember wsX5_writeTo := goodIn_r _ [13, 14, 15, 16, 17, 18, 19, 20, 21, 22, 23, 24, 25, 26, 30, 31, 32, 33] (by decide +kernel) (by decide +kernel)
set_option maxRecDepth 20000 in
theorem gX2_remember_X5_writeTo : GoodIn wsX2_remember (wsV RX2 33 RX5 yX5_writeTo wsX5_writeTo) := goodIn_app (goodIn_of _ (by decide +kernel)) ggX2_remember_X5_writeTo
theorem dX2_remember_0 : decode cX2_remember 0 = .ok (.aload_n 0, 1) := by decide +kernel
theorem dX2_remember_1 : decode cX2_remember 1 = .ok (.getfield 26, 3) := by decide +kernel
theorem dX2_remember_4 : decode cX2_remember 4 = .ok (.bipush 6, 2) := by decide +kernel
theorem dX2_remember_6 : decode cX2_remember 6 = .ok (.if_icmp .ne 26, 3) := by decide +kernel
theorem dX2_remember_9 : decode cX2_remember 9 = .ok (.aload_n 0, 1) := by decide +kernel
theorem dX2_remember_10 : decode cX2_remember 10 = .ok (.aload_n 0, 1) := by decide +kernel
theorem dX2_remember_11 : decode cX2_remember 11 = .ok (.getfield 22, 3) := by decide +kernel
theorem dX2_remember_14 : decode cX2_remember 14 = .ok (.iconst 1, 1) := by decide +kernel
theorem dX2_remember_15 : decode cX2_remember 15 = .ok (.iadd, 1) := by decide +kernel
theorem dX2_remember_16 : decode cX2_remember 16 = .ok (.bipush 6, 2) := by decide +kernel
theorem dX2_remember_18 : decode cX2_remember 18 = .ok (.irem, 1) := by decide +kernel
theorem dX2_remember_19 : decode cX2_remember 19 = .ok (.putfield 22, 3) := by decide +kernel
theorem dX2_remember_22 : decode cX2_remember 22 = .ok (.aload_n 0, 1) := by decide +kernel
theorem dX2_remember_23 : decode cX2_remember 23 = .ok (.dup, 1) := by decide +kernel
theorem dX2_remember_24 : decode cX2_remember 24 = .ok (.getfield 26, 3) := by decide +kernel
theorem dX2_remember_27 : decode cX2_remember 27 = .ok (.iconst 1, 1) := by decide +kernel
theorem dX2_remember_28 : decode cX2_remember 28 = .ok (.isub, 1) := by decide +kernel
theorem dX2_remember_29 : decode cX2_remember 29 = .ok (.putfield 26, 3) := by decide +kernel
theorem dX2_remember_32 : decode cX2_remember 32 = .ok (.aload_n 1, 1) := by decide +kernel
theorem dX2_remember_33 : decode cX2_remember 33 = .ok (.aload_n 0, 1) := by decide +kernel
theorem dX2_remember_34 : decode cX2_remember 34 = .ok (.getfield 16, 3) := by decide +kernel
theorem dX2_remember_37 : decode cX2_remember 37 = .ok (.aload_n 0, 1) := by decide +kernel
theorem dX2_remember_38 : decode cX2_remember 38 = .ok (.aload_n 0, 1) := by decide +kernel
theorem dX2_remember_39 : decode cX2_remember 39 = .ok (.getfield 26, 3) := by decide +kernel
theorem dX2_remember_42 : decode cX2_remember 42 = .ok (.invokevirtual 29, 3) := by decide +kernel
theorem dX2_remember_45 : decode cX2_remember 45 = .ok (.invokevirtual 33, 3) := by decide +kernel
theorem dX2_remember_48 : decode cX2_remember 48 = .ok (.aload_n 0, 1) := by decide +kernel
theorem dX2_remember_49 : decode cX2_remember 49 = .ok (.dup, 1) := by decide +kernel
theorem dX2_remember_50 : decode cX2_remember 50 = .ok (.getfield 26, 3) := by decide +kernel
theorem dX2_remember_53 : decode cX2_remember 53 = .ok (.iconst 1, 1) := by decide +kernel
theorem dX2_remember_54 : decode cX2_remember 54 = .ok (.iadd, 1) := by decide +kernel
theorem dX2_remember_55 : decode cX2_remember 55 = .ok (.putfield 26, 3) := by decide +kernel
theorem dX2_remember_58 : decode cX2_remember 58 = .ok (.return_, 1) := by decide +kernel
theorem dX2_start_0 : decode cX2_start 0 = .ok (.aload_n 0, 1) := by decide +kernel
theorem dX2_start_1 : decode cX2_start 1 = .ok (.getfield 22, 3) := by decide +kernel
theorem dX2_start_4 : decode cX2_start 4 = .ok (.iload_n 1, 1) := by decide +kernel
theorem dX2_start_5 : decode cX2_start 5 = .ok (.iadd, 1) := by decide +kernel
theorem dX2_start_6 : decode cX2_start 6 = .ok (.bipush 6, 2) := by decide +kernel
theorem dX2_start_8 : decode cX2_start 8 = .ok (.irem, 1) := by decide +kernel
theorem dX2_start_9 : decode cX2_start 9 = .ok (.bipush 18, 2) := by decide +kernel
theorem dX2_start_11 : decode cX2_start 11 = .ok (.imul, 1) := by decide +kernel
theorem dX2_start_12 : decode cX2_start 12 = .ok (.ireturn, 1) := by decide +kernel
theorem dX3_init_0 : decode cX3_init 0 = .ok (.aload_n 0, 1) := by decide +kernel
theorem dX3_init_1 : decode cX3_init 1 = .ok (.invokespecial 1, 3) := by decide +kernel
theorem dX3_init_4 : decode cX3_init 4 = .ok (.aload_n 0, 1) := by decide +kernel
theorem dX3_init_5 : decode cX3_init 5 = .ok (.iconst 0, 1) := by decide +kernel
theorem dX3_init_6 : decode cX3_init 6 = .ok (.iload_n 1, 1) := by decide +kernel
theorem dX3_init_7 : decode cX3_init 7 = .ok (.invokestatic 7, 3) := by decide +kernel
theorem dX3_init_10 : decode cX3_init 10 = .ok (.newarray .int, 2) := by decide +kernel
theorem dX3_init_12 : decode cX3_init 12 = .ok (.putfield 13, 3) := by decide +kernel
theorem dX3_init_15 : decode cX3_init 15 = .ok (.return_, 1) := by decide +kernel
theorem dX3_at_0 : decode cX3_at 0 = .ok (.iload_n 1, 1) := by decide +kernel
theorem dX3_at_1 : decode cX3_at 1 = .ok (.ifCond .lt 21, 3) := by decide +kernel
theorem dX3_at_4 : decode cX3_at 4 = .ok (.iload_n 1, 1) := by decide +kernel
theorem dX3_at_5 : decode cX3_at 5 = .ok (.aload_n 0, 1) := by decide +kernel
theorem dX3_at_6 : decode cX3_at 6 = .ok (.getfield 13, 3) := by decide +kernel
theorem dX3_at_9 : decode cX3_at 9 = .ok (.arraylength, 1) := by decide +kernel
theorem dX3_at_10 : decode cX3_at 10 = .ok (.if_icmp .ge 12, 3) := by decide +kernel
theorem dX3_at_13 : decode cX3_at 13 = .ok (.aload_n 0, 1) := by decide +kernel
theorem dX3_at_14 : decode cX3_at 14 = .ok (.getfield 13, 3) := by decide +kernel
theorem dX3_at_17 : decode cX3_at 17 = .ok (.iload_n 1, 1) := by decide +kernel
theorem dX3_at_18 : decode cX3_at 18 = .ok (.iaload, 1) := by decide +kernel
theorem dX3_at_19 : decode cX3_at 19 = .ok (.goto 4, 3) := by decide +kernel
theorem dX3_at_22 : decode cX3_at 22 = .ok (.iconst 0, 1) := by decide +kernel
theorem dX3_at_23 : decode cX3_at 23 = .ok (.ireturn, 1) := by decide +kernel
theorem dX3_put_0 : decode cX3_put 0 = .ok (.iload_n 1, 1) := by decide +kernel
theorem dX3_put_1 : decode cX3_put 1 = .ok (.ifCond .lt 19, 3) := by decide +kernel
theorem dX3_put_4 : decode cX3_put 4 = .ok (.iload_n 1, 1) := by decide +kernel
theorem dX3_put_5 : decode cX3_put 5 = .ok (.aload_n 0, 1) := by decide +kernel
theorem dX3_put_6 : decode cX3_put 6 = .ok (.getfield 13, 3) := by decide +kernel
theorem dX3_put_9 : decode cX3_put 9 = .ok (.arraylength, 1) := by decide +kernel
theorem dX3_put_10 : decode cX3_put 10 = .ok (.if_icmp .ge 10, 3) := by decide +kernel
theorem dX3_put_13 : decode cX3_put 13 = .ok (.aload_n 0, 1) := by decide +kernel
theorem dX3_put_14 : decode cX3_put 14 = .ok (.getfield 13, 3) := by decide +kernel
theorem dX3_put_17 : decode cX3_put 17 = .ok (.iload_n 1, 1) := by decide +kernel
theorem dX3_put_18 : decode cX3_put 18 = .ok (.iload_n 2, 1) := by decide +kernel
theorem dX3_put_19 : decode cX3_put 19 = .ok (.iastore, 1) := by decide +kernel
theorem dX3_put_20 : decode cX3_put 20 = .ok (.return_, 1) := by decide +kernel
set_option maxRecDepth 20000 in
theorem ggX4_init_X3_init : GoodIn wsX4_init wsX3_init := goodIn_r _ [11, 12, 2, 3, 13, 14, 15, 16, 17, 18, 19] (by decide +kernel) (by decide +kernel)
set_option maxRecDepth 20000 in
theorem gX4_init_X3_init : GoodIn wsX4_init (wsX3_init) := ggX4_init_X3_init
theorem dX4_init_0 : decode cX4_init 0 = .ok (.aload_n 0, 1) := by decide +kernel
theorem dX4_init_1 : decode cX4_init 1 = .ok (.invokespecial 3, 3) := by decide +kernel
theorem dX4_init_4 : decode cX4_init 4 = .ok (.aload_n 0, 1) := by decide +kernel
theorem dX4_init_5 : decode cX4_init 5 = .ok (.new 9, 3) := by decide +kernel
theorem dX4_init_8 : decode cX4_init 8 = .ok (.dup, 1) := by decide +kernel
theorem dX4_init_9 : decode cX4_init 9 = .ok (.bipush 60, 2) := by decide +kernel
theorem dX4_init_11 : decode cX4_init 11 = .ok (.invokespecial 11, 3) := by decide +kernel
theorem dX4_init_14 : decode cX4_init 14 = .ok (.putfield 14, 3) := by decide +kernel
theorem dX4_init_17 : decode cX4_init 17 = .ok (.aload_n 0, 1) := by decide +kernel
theorem dX4_init_18 : decode cX4_init 18 = .ok (.iconst 0, 1) := by decide +kernel
theorem dX4_init_19 : decode cX4_init 19 = .ok (.putfield 20, 3) := by decide +kernel
theorem dX4_init_22 : decode cX4_init 22 = .ok (.return_, 1) := by decide +kernel
set_option maxRecDepth 20000 in
theorem ggX5_init_X3_init : GoodIn wsX5_init wsX3_init := goodIn_r _ [12, 13, 2, 3, 14, 15, 16, 17, 18, 19, 23] (by decide +kernel) (by decide +kernel)
set_option maxRecDepth 20000 in
theorem gX5_init_X3_init : GoodIn wsX5_init (wsX3_init) := ggX5_init_X3_init
theorem dX5_init_0 : decode cX5_init 0 = .ok (.aload_n 0, 1) := by decide +kernel
theorem dX5_init_1 : decode cX5_init 1 = .ok (.invokespecial 3, 3) := by decide +kernel
theorem dX5_init_4 : decode cX5_init 4 = .ok (.aload_n 0, 1) := by decide +kernel
theorem dX5_init_5 : decode cX5_init 5 = .ok (.iconst 0, 1) := by decide +kernel
theorem dX5_init_6 : decode cX5_init 6 = .ok (.putfield 9, 3) := by decide +kernel
theorem dX5_init_9 : decode cX5_init 9 = .ok (.aload_n 0, 1) := by decide +kernel
theorem dX5_init_10 : decode cX5_init 10 = .ok (.iconst 0, 1) := by decide +kernel
theorem dX5_init_11 : decode cX5_init 11 = .ok (.putfield 15, 3) := by decide +kernel
theorem dX5_init_14 : decode cX5_init 14 = .ok (.aload_n 0, 1) := by decide +kernel
theorem dX5_init_15 : decode cX5_init 15 = .ok (.new 18, 3) := by decide +kernel
theorem dX5_init_18 : decode cX5_init 18 = .ok (.dup, 1) := by decide +kernel
theorem dX5_init_19 : decode cX5_init 19 = .ok (.bipush 16, 2) := by decide +kernel
theorem dX5_init_21 : decode cX5_init 21 = .ok (.invokespecial 20, 3) := by decide +kernel
theorem dX5_init_24 : decode cX5_init 24 = .ok (.putfield 23, 3) := by decide +kernel
theorem dX5_init_27 : decode cX5_init 27 = .ok (.return_, 1) := by decide +kernel
theorem dX5_has_0 : decode cX5_has 0 = .ok (.iload_n 1, 1) := by decide +kernel
theorem dX5_has_1 : decode cX5_has 1 = .ok (.ifCond .lt 15, 3) := by decide +kernel
theorem dX5_has_4 : decode cX5_has 4 = .ok (.iload_n 1, 1) := by decide +kernel
theorem dX5_has_5 : decode cX5_has 5 = .ok (.aload_n 0, 1) := by decide +kernel
theorem dX5_has_6 : decode cX5_has 6 = .ok (.getfield 9, 3) := by decide +kernel
theorem dX5_has_9 : decode cX5_has 9 = .ok (.if_icmp .ge 7, 3) := by decide +kernel
theorem dX5_has_12 : decode cX5_has 12 = .ok (.iconst 1, 1) := by decide +kernel
theorem dX5_has_13 : decode cX5_has 13 = .ok (.goto 4, 3) := by decide +kernel
theorem dX5_has_16 : decode cX5_has 16 = .ok (.iconst 0, 1) := by decide +kernel
theorem dX5_has_17 : decode cX5_has 17 = .ok (.ireturn, 1) := by decide +kernel
theorem dX5_isFull_0 : decode cX5_isFull 0 = .ok (.aload_n 0, 1) := by decide +kernel
theorem dX5_isFull_1 : decode cX5_isFull 1 = .ok (.getfield 9, 3) := by decide +kernel
theorem dX5_isFull_4 : decode cX5_isFull 4 = .ok (.bipush 16, 2) := by decide +kernel
theorem dX5_isFull_6 : decode cX5_isFull 6 = .ok (.if_icmp .lt 7, 3) := by decide +kernel
theorem dX5_isFull_9 : decode cX5_isFull 9 = .ok (.iconst 1, 1) := by decide +kernel
theorem dX5_isFull_10 : decode cX5_isFull 10 = .ok (.goto 4, 3) := by decide +kernel
theorem dX5_isFull_13 : decode cX5_isFull 13 = .ok (.iconst 0, 1) := by decide +kernel
theorem dX5_isFull_14 : decode cX5_isFull 14 = .ok (.ireturn, 1) := by decide +kernel
set_option maxRecDepth 20000 in
theorem ggX5_plants_X7_bit : GoodIn wsX5_plants wsX7_bit := goodIn_r _ [4] (by decide +kernel) (by decide +kernel)
set_option maxRecDepth 20000 in
theorem gX5_plants_X7_bit_n27 : GoodIn wsX5_plants (wsX7_bit) := ggX5_plants_X7_bit
theorem dX5_plants_0 : decode cX5_plants 0 = .ok (.aload_n 0, 1) := by decide +kernel
theorem dX5_plants_1 : decode cX5_plants 1 = .ok (.getfield 9, 3) := by decide +kernel
theorem dX5_plants_4 : decode cX5_plants 4 = .ok (.invokestatic 27, 3) := by decide +kernel
theorem dX5_plants_7 : decode cX5_plants 7 = .ok (.iconst 1, 1) := by decide +kernel
theorem dX5_plants_8 : decode cX5_plants 8 = .ok (.isub, 1) := by decide +kernel
theorem dX5_plants_9 : decode cX5_plants 9 = .ok (.ireturn, 1) := by decide +kernel
set_option maxRecDepth 20000 in
theorem ggX5_around_X3_at : GoodIn wsX5_around wsX3_at := goodIn_r _ [6, 7, 11] (by decide +kernel) (by decide +kernel)
set_option maxRecDepth 20000 in
theorem gX5_around_X3_at : GoodIn wsX5_around (wsV RX5 31 RX3 yX3_at wsX3_at) := goodIn_app (goodIn_of _ (by decide +kernel)) ggX5_around_X3_at
theorem dX5_around_0 : decode cX5_around 0 = .ok (.aload_n 0, 1) := by decide +kernel
theorem dX5_around_1 : decode cX5_around 1 = .ok (.getfield 23, 3) := by decide +kernel
theorem dX5_around_4 : decode cX5_around 4 = .ok (.iload_n 1, 1) := by decide +kernel
theorem dX5_around_5 : decode cX5_around 5 = .ok (.invokevirtual 31, 3) := by decide +kernel
theorem dX5_around_8 : decode cX5_around 8 = .ok (.ireturn, 1) := by decide +kernel
set_option maxRecDepth 20000 in
theorem ggX5_aroundBoth_X3_at : GoodIn wsX5_aroundBoth wsX3_at := goodIn_r _ [6, 7, 11] (by decide +kernel) (by decide +kernel)
set_option maxRecDepth 20000 in
theorem gX5_aroundBoth_X3_at : GoodIn wsX5_aroundBoth (wsV RX5 31 RX3 yX3_at wsX3_at) := goodIn_app (goodIn_of _ (by decide +kernel)) ggX5_aroundBoth_X3_at
theorem dX5_aroundBoth_0 : decode cX5_aroundBoth 0 = .ok (.aload_n 0, 1) := by decide +kernel
theorem dX5_aroundBoth_1 : decode cX5_aroundBoth 1 = .ok (.getfield 23, 3) := by decide +kernel
theorem dX5_aroundBoth_4 : decode cX5_aroundBoth 4 = .ok (.iload_n 1, 1) := by decide +kernel
theorem dX5_aroundBoth_5 : decode cX5_aroundBoth 5 = .ok (.invokevirtual 31, 3) := by decide +kernel
theorem dX5_aroundBoth_8 : decode cX5_aroundBoth 8 = .ok (.aload_n 0, 1) := by decide +kernel
theorem dX5_aroundBoth_9 : decode cX5_aroundBoth 9 = .ok (.getfield 23, 3) := by decide +kernel
theorem dX5_aroundBoth_12 : decode cX5_aroundBoth 12 = .ok (.iload_n 2, 1) := by decide +kernel
theorem dX5_aroundBoth_13 : decode cX5_aroundBoth 13 = .ok (.invokevirtual 31, 3) := by decide +kernel
theorem dX5_aroundBoth_16 : decode cX5_aroundBoth 16 = .ok (.iand, 1) := by decide +kernel
theorem dX5_aroundBoth_17 : decode cX5_aroundBoth 17 = .ok (.ireturn, 1) := by decide +kernel
set_option maxRecDepth 20000 in
theorem ggX5_held_X3_at : GoodIn wsX5_held wsX3_at := goodIn_r _ [6, 7, 21] (by decide +kernel) (by decide +kernel)
set_option maxRecDepth 20000 in
theorem gX5_held_X3_at : GoodIn wsX5_held (wsV RX5 31 RX3 yX3_at wsX3_at) := goodIn_app (goodIn_of _ (by decide +kernel)) ggX5_held_X3_at
set_option maxRecDepth 20000 in
theorem ggX5_held_X7_bits : GoodIn wsX5_held wsX7_bits := goodIn_r _ [10, 11, 12, 13, 14, 15, 16, 17] (by decide +kernel) (by decide +kernel)
set_option maxRecDepth 20000 in
theorem gX5_held_X7_bits_n34 : GoodIn wsX5_held (wsX7_bits) := ggX5_held_X7_bits
theorem dX5_held_0 : decode cX5_held 0 = .ok (.aload_n 0, 1) := by decide +kernel
theorem dX5_held_1 : decode cX5_held 1 = .ok (.getfield 23, 3) := by decide +kernel
theorem dX5_held_4 : decode cX5_held 4 = .ok (.iload_n 1, 1) := by decide +kernel
theorem dX5_held_5 : decode cX5_held 5 = .ok (.invokevirtual 31, 3) := by decide +kernel
theorem dX5_held_8 : decode cX5_held 8 = .ok (.invokestatic 34, 3) := by decide +kernel
theorem dX5_held_11 : decode cX5_held 11 = .ok (.ireturn, 1) := by decide +kernel
set_option maxRecDepth 20000 in
theorem ggX5_hasProp_X5_has : GoodIn wsX5_hasProp wsX5_has := goodIn_r _ [6, 7, 11, 12, 13] (by decide +kernel) (by decide +kernel)
set_option maxRecDepth 20000 in
theorem gX5_hasProp_X5_has : GoodIn wsX5_hasProp (wsV RX5 37 RX5 yX5_has wsX5_has) := goodIn_app (goodIn_of _ (by decide +kernel)) ggX5_hasProp_X5_has
set_option maxRecDepth 20000 in
theorem ggX5_hasProp_X7_in : GoodIn wsX5_hasProp wsX7_in := goodIn_r _ [10] (by decide +kernel) (by decide +kernel)
set_option maxRecDepth 20000 in
theorem gX5_hasProp_X7_in_n41 : GoodIn wsX5_hasProp (wsX7_in) := ggX5_hasProp_X7_in
theorem dX5_hasProp_0 : decode cX5_hasProp 0 = .ok (.aload_n 0, 1) := by decide +kernel
theorem dX5_hasProp_1 : decode cX5_hasProp 1 = .ok (.iload_n 1, 1) := by decide +kernel
theorem dX5_hasProp_2 : decode cX5_hasProp 2 = .ok (.invokevirtual 37, 3) := by decide +kernel
theorem dX5_hasProp_5 : decode cX5_hasProp 5 = .ok (.ifCond .eq 18, 3) := by decide +kernel
theorem dX5_hasProp_8 : decode cX5_hasProp 8 = .ok (.aload_n 0, 1) := by decide +kernel
theorem dX5_hasProp_9 : decode cX5_hasProp 9 = .ok (.getfield 15, 3) := by decide +kernel
theorem dX5_hasProp_12 : decode cX5_hasProp 12 = .ok (.iload_n 1, 1) := by decide +kernel
theorem dX5_hasProp_13 : decode cX5_hasProp 13 = .ok (.invokestatic 41, 3) := by decide +kernel
theorem dX5_hasProp_16 : decode cX5_hasProp 16 = .ok (.ifCond .eq 7, 3) := by decide +kernel
theorem dX5_hasProp_19 : decode cX5_hasProp 19 = .ok (.iconst 1, 1) := by decide +kernel
theorem dX5_hasProp_20 : decode cX5_hasProp 20 = .ok (.goto 4, 3) := by decide +kernel
theorem dX5_hasProp_23 : decode cX5_hasProp 23 = .ok (.iconst 0, 1) := by decide +kernel
theorem dX5_hasProp_24 : decode cX5_hasProp 24 = .ok (.ireturn, 1) := by decide +kernel
set_option maxRecDepth 20000 in
theorem ggX5_isBound_X5_has : GoodIn wsX5_isBound wsX5_has := goodIn_r _ [6, 7, 17, 18, 19] (by decide +kernel) (by decide +kernel)
set_option maxRecDepth 20000 in
theorem gX5_isBound_X5_has : GoodIn wsX5_isBound (wsV RX5 37 RX5 yX5_has wsX5_has) := goodIn_app (goodIn_of _ (by decide +kernel)) ggX5_isBound_X5_has
set_option maxRecDepth 20000 in
theorem ggX5_isBound_X3_at : GoodIn wsX5_isBound wsX3_at := goodIn_r _ [12, 13, 20] (by decide +kernel) (by decide +kernel)
set_option maxRecDepth 20000 in
theorem gX5_isBound_X3_at : GoodIn wsX5_isBound (wsV RX5 31 RX3 yX3_at wsX3_at) := goodIn_app (goodIn_of _ (by decide +kernel)) ggX5_isBound_X3_at
set_option maxRecDepth 20000 in
theorem ggX5_isBound_X7_in : GoodIn wsX5_isBound wsX7_in := goodIn_r _ [16] (by decide +kernel) (by decide +kernel)
set_option maxRecDepth 20000 in
theorem gX5_isBound_X7_in_n41 : GoodIn wsX5_isBound (wsX7_in) := ggX5_isBound_X7_in
theorem dX5_isBound_0 : decode cX5_isBound 0 = .ok (.aload_n 0, 1) := by decide +kernel
theorem dX5_isBound_1 : decode cX5_isBound 1 = .ok (.iload_n 1, 1) := by decide +kernel
theorem dX5_isBound_2 : decode cX5_isBound 2 = .ok (.invokevirtual 37, 3) := by decide +kernel
theorem dX5_isBound_5 : decode cX5_isBound 5 = .ok (.ifCond .eq 30, 3) := by decide +kernel
theorem dX5_isBound_8 : decode cX5_isBound 8 = .ok (.aload_n 0, 1) := by decide +kernel
theorem dX5_isBound_9 : decode cX5_isBound 9 = .ok (.iload_n 2, 1) := by decide +kernel
theorem dX5_isBound_10 : decode cX5_isBound 10 = .ok (.invokevirtual 37, 3) := by decide +kernel
theorem dX5_isBound_13 : decode cX5_isBound 13 = .ok (.ifCond .eq 22, 3) := by decide +kernel
theorem dX5_isBound_16 : decode cX5_isBound 16 = .ok (.aload_n 0, 1) := by decide +kernel
theorem dX5_isBound_17 : decode cX5_isBound 17 = .ok (.getfield 23, 3) := by decide +kernel
theorem dX5_isBound_20 : decode cX5_isBound 20 = .ok (.iload_n 1, 1) := by decide +kernel
theorem dX5_isBound_21 : decode cX5_isBound 21 = .ok (.invokevirtual 31, 3) := by decide +kernel
theorem dX5_isBound_24 : decode cX5_isBound 24 = .ok (.iload_n 2, 1) := by decide +kernel
theorem dX5_isBound_25 : decode cX5_isBound 25 = .ok (.invokestatic 41, 3) := by decide +kernel
theorem dX5_isBound_28 : decode cX5_isBound 28 = .ok (.ifCond .eq 7, 3) := by decide +kernel
theorem dX5_isBound_31 : decode cX5_isBound 31 = .ok (.iconst 1, 1) := by decide +kernel
theorem dX5_isBound_32 : decode cX5_isBound 32 = .ok (.goto 4, 3) := by decide +kernel
theorem dX5_isBound_35 : decode cX5_isBound 35 = .ok (.iconst 0, 1) := by decide +kernel
theorem dX5_isBound_36 : decode cX5_isBound 36 = .ok (.ireturn, 1) := by decide +kernel
set_option maxRecDepth 20000 in
theorem ggX5_isTriangle_X5_isBound : GoodIn wsX5_isTriangle wsX5_isBound := goodIn_r _ [5, 6, 7, 8, 9, 4, 10, 11, 12, 13, 14, 15, 16, 17, 18, 19, 20, 21, 22, 23, 24] (by decide +kernel) (by decide +kernel)
set_option maxRecDepth 20000 in
theorem gX5_isTriangle_X5_isBound : GoodIn wsX5_isTriangle (wsV RX5 45 RX5 yX5_isBound wsX5_isBound) := goodIn_app (goodIn_of _ (by decide +kernel)) ggX5_isTriangle_X5_isBound
theorem dX5_isTriangle_0 : decode cX5_isTriangle 0 = .ok (.aload_n 0, 1) := by decide +kernel
theorem dX5_isTriangle_1 : decode cX5_isTriangle 1 = .ok (.iload_n 1, 1) := by decide +kernel
theorem dX5_isTriangle_2 : decode cX5_isTriangle 2 = .ok (.iload_n 2, 1) := by decide +kernel
theorem dX5_isTriangle_3 : decode cX5_isTriangle 3 = .ok (.invokevirtual 45, 3) := by decide +kernel
theorem dX5_isTriangle_6 : decode cX5_isTriangle 6 = .ok (.ifCond .eq 25, 3) := by decide +kernel
theorem dX5_isTriangle_9 : decode cX5_isTriangle 9 = .ok (.aload_n 0, 1) := by decide +kernel
theorem dX5_isTriangle_10 : decode cX5_isTriangle 10 = .ok (.iload_n 1, 1) := by decide +kernel
theorem dX5_isTriangle_11 : decode cX5_isTriangle 11 = .ok (.iload_n 3, 1) := by decide +kernel
theorem dX5_isTriangle_12 : decode cX5_isTriangle 12 = .ok (.invokevirtual 45, 3) := by decide +kernel
theorem dX5_isTriangle_15 : decode cX5_isTriangle 15 = .ok (.ifCond .eq 16, 3) := by decide +kernel
theorem dX5_isTriangle_18 : decode cX5_isTriangle 18 = .ok (.aload_n 0, 1) := by decide +kernel
theorem dX5_isTriangle_19 : decode cX5_isTriangle 19 = .ok (.iload_n 2, 1) := by decide +kernel
theorem dX5_isTriangle_20 : decode cX5_isTriangle 20 = .ok (.iload_n 3, 1) := by decide +kernel
theorem dX5_isTriangle_21 : decode cX5_isTriangle 21 = .ok (.invokevirtual 45, 3) := by decide +kernel
theorem dX5_isTriangle_24 : decode cX5_isTriangle 24 = .ok (.ifCond .eq 7, 3) := by decide +kernel
theorem dX5_isTriangle_27 : decode cX5_isTriangle 27 = .ok (.iconst 1, 1) := by decide +kernel
theorem dX5_isTriangle_28 : decode cX5_isTriangle 28 = .ok (.goto 4, 3) := by decide +kernel
theorem dX5_isTriangle_31 : decode cX5_isTriangle 31 = .ok (.iconst 0, 1) := by decide +kernel
theorem dX5_isTriangle_32 : decode cX5_isTriangle 32 = .ok (.ireturn, 1) := by decide +kernel
set_option maxRecDepth 20000 in
theorem ggX5_allThorns_X5_held : GoodIn wsX5_allThorns wsX5_held := goodIn_r _ [6, 7, 8, 9, 10, 11, 12, 13, 14, 15, 16, 17, 18, 19, 20, 21, 22, 23, 24, 25, 26, 27] (by decide +kernel) (by decide +kernel)
set_option maxRecDepth 20000 in
theorem gX5_allThorns_X5_held : GoodIn wsX5_allThorns (wsV RX5 48 RX5 yX5_held wsX5_held) := goodIn_app (goodIn_of _ (by decide +kernel)) ggX5_allThorns_X5_held
theorem dX5_allThorns_0 : decode cX5_allThorns 0 = .ok (.iconst 0, 1) := by decide +kernel
theorem dX5_allThorns_1 : decode cX5_allThorns 1 = .ok (.istore_n 1, 1) := by decide +kernel
theorem dX5_allThorns_2 : decode cX5_allThorns 2 = .ok (.iconst 0, 1) := by decide +kernel
theorem dX5_allThorns_3 : decode cX5_allThorns 3 = .ok (.istore_n 2, 1) := by decide +kernel
theorem dX5_allThorns_4 : decode cX5_allThorns 4 = .ok (.iload_n 2, 1) := by decide +kernel
theorem dX5_allThorns_5 : decode cX5_allThorns 5 = .ok (.aload_n 0, 1) := by decide +kernel
theorem dX5_allThorns_6 : decode cX5_allThorns 6 = .ok (.getfield 9, 3) := by decide +kernel
theorem dX5_allThorns_9 : decode cX5_allThorns 9 = .ok (.if_icmp .ge 17, 3) := by decide +kernel
theorem dX5_allThorns_12 : decode cX5_allThorns 12 = .ok (.iload_n 1, 1) := by decide +kernel
theorem dX5_allThorns_13 : decode cX5_allThorns 13 = .ok (.aload_n 0, 1) := by decide +kernel
theorem dX5_allThorns_14 : decode cX5_allThorns 14 = .ok (.iload_n 2, 1) := by decide +kernel
theorem dX5_allThorns_15 : decode cX5_allThorns 15 = .ok (.invokevirtual 48, 3) := by decide +kernel
theorem dX5_allThorns_18 : decode cX5_allThorns 18 = .ok (.iadd, 1) := by decide +kernel
theorem dX5_allThorns_19 : decode cX5_allThorns 19 = .ok (.istore_n 1, 1) := by decide +kernel
theorem dX5_allThorns_20 : decode cX5_allThorns 20 = .ok (.iinc 2 1, 3) := by decide +kernel
theorem dX5_allThorns_23 : decode cX5_allThorns 23 = .ok (.goto (-19), 3) := by decide +kernel
theorem dX5_allThorns_26 : decode cX5_allThorns 26 = .ok (.iload_n 1, 1) := by decide +kernel
theorem dX5_allThorns_27 : decode cX5_allThorns 27 = .ok (.iconst 2, 1) := by decide +kernel
theorem dX5_allThorns_28 : decode cX5_allThorns 28 = .ok (.idiv, 1) := by decide +kernel
theorem dX5_allThorns_29 : decode cX5_allThorns 29 = .ok (.ireturn, 1) := by decide +kernel
set_option maxRecDepth 20000 in
theorem ggX5_grow_X5_isFull : GoodIn wsX5_grow wsX5_isFull := goodIn_r _ [6, 1, 7, 8, 9] (by decide +kernel) (by decide +kernel)
set_option maxRecDepth 20000 in
theorem gX5_grow_X5_isFull : GoodIn wsX5_grow (wsV RX5 51 RX5 yX5_isFull wsX5_isFull) := goodIn_app (goodIn_of _ (by decide +kernel)) ggX5_grow_X5_isFull
theorem dX5_grow_0 : decode cX5_grow 0 = .ok (.aload_n 0, 1) := by decide +kernel
theorem dX5_grow_1 : decode cX5_grow 1 = .ok (.invokevirtual 51, 3) := by decide +kernel
theorem dX5_grow_4 : decode cX5_grow 4 = .ok (.ifCond .eq 5, 3) := by decide +kernel
theorem dX5_grow_7 : decode cX5_grow 7 = .ok (.iconst 0, 1) := by decide +kernel
theorem dX5_grow_8 : decode cX5_grow 8 = .ok (.ireturn, 1) := by decide +kernel
theorem dX5_grow_9 : decode cX5_grow 9 = .ok (.aload_n 0, 1) := by decide +kernel
theorem dX5_grow_10 : decode cX5_grow 10 = .ok (.dup, 1) := by decide +kernel
theorem dX5_grow_11 : decode cX5_grow 11 = .ok (.getfield 9, 3) := by decide +kernel
theorem dX5_grow_14 : decode cX5_grow 14 = .ok (.iconst 1, 1) := by decide +kernel
theorem dX5_grow_15 : decode cX5_grow 15 = .ok (.iadd, 1) := by decide +kernel
theorem dX5_grow_16 : decode cX5_grow 16 = .ok (.putfield 9, 3) := by decide +kernel
theorem dX5_grow_19 : decode cX5_grow 19 = .ok (.iconst 1, 1) := by decide +kernel
theorem dX5_grow_20 : decode cX5_grow 20 = .ok (.ireturn, 1) := by decide +kernel
set_option maxRecDepth 20000 in
theorem ggX5_tie_X5_has : GoodIn wsX5_tie wsX5_has := goodIn_r _ [6, 7, 27, 28, 29] (by decide +kernel) (by decide +kernel)
set_option maxRecDepth 20000 in
theorem gX5_tie_X5_has : GoodIn wsX5_tie (wsV RX5 37 RX5 yX5_has wsX5_has) := goodIn_app (goodIn_of _ (by decide +kernel)) ggX5_tie_X5_has
set_option maxRecDepth 20000 in
theorem ggX5_tie_X5_isBound : GoodIn wsX5_tie wsX5_isBound := goodIn_r _ [11, 1, 2, 3, 4, 5, 6, 7, 12, 13, 14, 15, 16, 17, 18, 19, 20, 27, 28, 29, 30] (by decide +kernel) (by decide +kernel)
set_option maxRecDepth 20000 in
theorem gX5_tie_X5_isBound : GoodIn wsX5_tie (wsV RX5 45 RX5 yX5_isBound wsX5_isBound) := goodIn_app (goodIn_of _ (by decide +kernel)) ggX5_tie_X5_isBound
set_option maxRecDepth 20000 in
theorem ggX5_tie_X3_at : GoodIn wsX5_tie wsX3_at := goodIn_r _ [16, 17, 30] (by decide +kernel) (by decide +kernel)
set_option maxRecDepth 20000 in
theorem gX5_tie_X3_at : GoodIn wsX5_tie (wsV RX5 31 RX3 yX3_at wsX3_at) := goodIn_app (goodIn_of _ (by decide +kernel)) ggX5_tie_X3_at
set_option maxRecDepth 20000 in
theorem ggX5_tie_X7_bit : GoodIn wsX5_tie wsX7_bit := goodIn_r _ [22] (by decide +kernel) (by decide +kernel)
set_option maxRecDepth 20000 in
theorem gX5_tie_X7_bit_n27 : GoodIn wsX5_tie (wsX7_bit) := ggX5_tie_X7_bit
set_option maxRecDepth 20000 in
theorem ggX5_tie_X3_put : GoodIn wsX5_tie wsX3_put := goodIn_r _ [26, 17, 30] (by decide +kernel) (by decide +kernel)
set_option maxRecDepth 20000 in
theorem gX5_tie_X3_put : GoodIn wsX5_tie (wsV RX5 55 RX3 yX3_put wsX3_put) := goodIn_app (goodIn_of _ (by decide +kernel)) ggX5_tie_X3_put
theorem dX5_tie_0 : decode cX5_tie 0 = .ok (.aload_n 0, 1) := by decide +kernel
theorem dX5_tie_1 : decode cX5_tie 1 = .ok (.iload_n 1, 1) := by decide +kernel
theorem dX5_tie_2 : decode cX5_tie 2 = .ok (.invokevirtual 37, 3) := by decide +kernel
theorem dX5_tie_5 : decode cX5_tie 5 = .ok (.ifCond .eq 25, 3) := by decide +kernel
theorem dX5_tie_8 : decode cX5_tie 8 = .ok (.aload_n 0, 1) := by decide +kernel
theorem dX5_tie_9 : decode cX5_tie 9 = .ok (.iload_n 2, 1) := by decide +kernel
theorem dX5_tie_10 : decode cX5_tie 10 = .ok (.invokevirtual 37, 3) := by decide +kernel
theorem dX5_tie_13 : decode cX5_tie 13 = .ok (.ifCond .eq 17, 3) := by decide +kernel
theorem dX5_tie_16 : decode cX5_tie 16 = .ok (.iload_n 1, 1) := by decide +kernel
theorem dX5_tie_17 : decode cX5_tie 17 = .ok (.iload_n 2, 1) := by decide +kernel
theorem dX5_tie_18 : decode cX5_tie 18 = .ok (.if_icmp .eq 12, 3) := by decide +kernel
theorem dX5_tie_21 : decode cX5_tie 21 = .ok (.aload_n 0, 1) := by decide +kernel
theorem dX5_tie_22 : decode cX5_tie 22 = .ok (.iload_n 1, 1) := by decide +kernel
theorem dX5_tie_23 : decode cX5_tie 23 = .ok (.iload_n 2, 1) := by decide +kernel
theorem dX5_tie_24 : decode cX5_tie 24 = .ok (.invokevirtual 45, 3) := by decide +kernel
theorem dX5_tie_27 : decode cX5_tie 27 = .ok (.ifCond .eq 5, 3) := by decide +kernel
theorem dX5_tie_30 : decode cX5_tie 30 = .ok (.iconst 0, 1) := by decide +kernel
theorem dX5_tie_31 : decode cX5_tie 31 = .ok (.ireturn, 1) := by decide +kernel
theorem dX5_tie_32 : decode cX5_tie 32 = .ok (.aload_n 0, 1) := by decide +kernel
theorem dX5_tie_33 : decode cX5_tie 33 = .ok (.getfield 23, 3) := by decide +kernel
theorem dX5_tie_36 : decode cX5_tie 36 = .ok (.iload_n 1, 1) := by decide +kernel
theorem dX5_tie_37 : decode cX5_tie 37 = .ok (.aload_n 0, 1) := by decide +kernel
theorem dX5_tie_38 : decode cX5_tie 38 = .ok (.getfield 23, 3) := by decide +kernel
theorem dX5_tie_41 : decode cX5_tie 41 = .ok (.iload_n 1, 1) := by decide +kernel
theorem dX5_tie_42 : decode cX5_tie 42 = .ok (.invokevirtual 31, 3) := by decide +kernel
theorem dX5_tie_45 : decode cX5_tie 45 = .ok (.iload_n 2, 1) := by decide +kernel
theorem dX5_tie_46 : decode cX5_tie 46 = .ok (.invokestatic 27, 3) := by decide +kernel
theorem dX5_tie_49 : decode cX5_tie 49 = .ok (.ior, 1) := by decide +kernel
theorem dX5_tie_50 : decode cX5_tie 50 = .ok (.invokevirtual 55, 3) := by decide +kernel
theorem dX5_tie_53 : decode cX5_tie 53 = .ok (.aload_n 0, 1) := by decide +kernel
theorem dX5_tie_54 : decode cX5_tie 54 = .ok (.getfield 23, 3) := by decide +kernel
theorem dX5_tie_57 : decode cX5_tie 57 = .ok (.iload_n 2, 1) := by decide +kernel
theorem dX5_tie_58 : decode cX5_tie 58 = .ok (.aload_n 0, 1) := by decide +kernel
theorem dX5_tie_59 : decode cX5_tie 59 = .ok (.getfield 23, 3) := by decide +kernel
theorem dX5_tie_62 : decode cX5_tie 62 = .ok (.iload_n 2, 1) := by decide +kernel
theorem dX5_tie_63 : decode cX5_tie 63 = .ok (.invokevirtual 31, 3) := by decide +kernel
theorem dX5_tie_66 : decode cX5_tie 66 = .ok (.iload_n 1, 1) := by decide +kernel
theorem dX5_tie_67 : decode cX5_tie 67 = .ok (.invokestatic 27, 3) := by decide +kernel
theorem dX5_tie_70 : decode cX5_tie 70 = .ok (.ior, 1) := by decide +kernel
theorem dX5_tie_71 : decode cX5_tie 71 = .ok (.invokevirtual 55, 3) := by decide +kernel
theorem dX5_tie_74 : decode cX5_tie 74 = .ok (.iconst 1, 1) := by decide +kernel
theorem dX5_tie_75 : decode cX5_tie 75 = .ok (.ireturn, 1) := by decide +kernel
set_option maxRecDepth 20000 in
theorem ggX5_untie_X5_isBound : GoodIn wsX5_untie wsX5_isBound := goodIn_r _ [6, 1, 7, 8, 9, 5, 10, 11, 12, 13, 14, 15, 16, 17, 18, 19, 20, 27, 28, 29, 30] (by decide +kernel) (by decide +kernel)
set_option maxRecDepth 20000 in
theorem gX5_untie_X5_isBound : GoodIn wsX5_untie (wsV RX5 45 RX5 yX5_isBound wsX5_isBound) := goodIn_app (goodIn_of _ (by decide +kernel)) ggX5_untie_X5_isBound
set_option maxRecDepth 20000 in
theorem ggX5_untie_X3_at : GoodIn wsX5_untie wsX3_at := goodIn_r _ [16, 17, 30] (by decide +kernel) (by decide +kernel)
set_option maxRecDepth 20000 in
theorem gX5_untie_X3_at : GoodIn wsX5_untie (wsV RX5 31 RX3 yX3_at wsX3_at) := goodIn_app (goodIn_of _ (by decide +kernel)) ggX5_untie_X3_at
set_option maxRecDepth 20000 in
theorem ggX5_untie_X7_bit : GoodIn wsX5_untie wsX7_bit := goodIn_r _ [22] (by decide +kernel) (by decide +kernel)
set_option maxRecDepth 20000 in
theorem gX5_untie_X7_bit_n27 : GoodIn wsX5_untie (wsX7_bit) := ggX5_untie_X7_bit
set_option maxRecDepth 20000 in
theorem ggX5_untie_X3_put : GoodIn wsX5_untie wsX3_put := goodIn_r _ [26, 17, 30] (by decide +kernel) (by decide +kernel)
set_option maxRecDepth 20000 in
theorem gX5_untie_X3_put : GoodIn wsX5_untie (wsV RX5 55 RX3 yX3_put wsX3_put) := goodIn_app (goodIn_of _ (by decide +kernel)) ggX5_untie_X3_put
theorem dX5_untie_0 : decode cX5_untie 0 = .ok (.aload_n 0, 1) := by decide +kernel
theorem dX5_untie_1 : decode cX5_untie 1 = .ok (.iload_n 1, 1) := by decide +kernel
theorem dX5_untie_2 : decode cX5_untie 2 = .ok (.iload_n 2, 1) := by decide +kernel
theorem dX5_untie_3 : decode cX5_untie 3 = .ok (.invokevirtual 45, 3) := by decide +kernel
theorem dX5_untie_6 : decode cX5_untie 6 = .ok (.ifCond .ne 5, 3) := by decide +kernel
theorem dX5_untie_9 : decode cX5_untie 9 = .ok (.iconst 0, 1) := by decide +kernel
theorem dX5_untie_10 : decode cX5_untie 10 = .ok (.ireturn, 1) := by decide +kernel
theorem dX5_untie_11 : decode cX5_untie 11 = .ok (.aload_n 0, 1) := by decide +kernel
theorem dX5_untie_12 : decode cX5_untie 12 = .ok (.getfield 23, 3) := by decide +kernel
theorem dX5_untie_15 : decode cX5_untie 15 = .ok (.iload_n 1, 1) := by decide +kernel
theorem dX5_untie_16 : decode cX5_untie 16 = .ok (.aload_n 0, 1) := by decide +kernel
theorem dX5_untie_17 : decode cX5_untie 17 = .ok (.getfield 23, 3) := by decide +kernel
theorem dX5_untie_20 : decode cX5_untie 20 = .ok (.iload_n 1, 1) := by decide +kernel
theorem dX5_untie_21 : decode cX5_untie 21 = .ok (.invokevirtual 31, 3) := by decide +kernel
theorem dX5_untie_24 : decode cX5_untie 24 = .ok (.iload_n 2, 1) := by decide +kernel
theorem dX5_untie_25 : decode cX5_untie 25 = .ok (.invokestatic 27, 3) := by decide +kernel
theorem dX5_untie_28 : decode cX5_untie 28 = .ok (.iconst (-1), 1) := by decide +kernel
theorem dX5_untie_29 : decode cX5_untie 29 = .ok (.ixor, 1) := by decide +kernel
theorem dX5_untie_30 : decode cX5_untie 30 = .ok (.iand, 1) := by decide +kernel
theorem dX5_untie_31 : decode cX5_untie 31 = .ok (.invokevirtual 55, 3) := by decide +kernel
theorem dX5_untie_34 : decode cX5_untie 34 = .ok (.aload_n 0, 1) := by decide +kernel
theorem dX5_untie_35 : decode cX5_untie 35 = .ok (.getfield 23, 3) := by decide +kernel
theorem dX5_untie_38 : decode cX5_untie 38 = .ok (.iload_n 2, 1) := by decide +kernel
theorem dX5_untie_39 : decode cX5_untie 39 = .ok (.aload_n 0, 1) := by decide +kernel
theorem dX5_untie_40 : decode cX5_untie 40 = .ok (.getfield 23, 3) := by decide +kernel
theorem dX5_untie_43 : decode cX5_untie 43 = .ok (.iload_n 2, 1) := by decide +kernel
theorem dX5_untie_44 : decode cX5_untie 44 = .ok (.invokevirtual 31, 3) := by decide +kernel
theorem dX5_untie_47 : decode cX5_untie 47 = .ok (.iload_n 1, 1) := by decide +kernel
theorem dX5_untie_48 : decode cX5_untie 48 = .ok (.invokestatic 27, 3) := by decide +kernel
theorem dX5_untie_51 : decode cX5_untie 51 = .ok (.iconst (-1), 1) := by decide +kernel
theorem dX5_untie_52 : decode cX5_untie 52 = .ok (.ixor, 1) := by decide +kernel
theorem dX5_untie_53 : decode cX5_untie 53 = .ok (.iand, 1) := by decide +kernel
theorem dX5_untie_54 : decode cX5_untie 54 = .ok (.invokevirtual 55, 3) := by decide +kernel
theorem dX5_untie_57 : decode cX5_untie 57 = .ok (.iconst 1, 1) := by decide +kernel
theorem dX5_untie_58 : decode cX5_untie 58 = .ok (.ireturn, 1) := by decide +kernel
set_option maxRecDepth 20000 in
theorem ggX5_turnProp_X5_has : GoodIn wsX5_turnProp wsX5_has := goodIn_r _ [6, 7, 11, 12, 13] (by decide +kernel) (by decide +kernel)
set_option maxRecDepth 20000 in
theorem gX5_turnProp_X5_has : GoodIn wsX5_turnProp (wsV RX5 37 RX5 yX5_has wsX5_has) := goodIn_app (goodIn_of _ (by decide +kernel)) ggX5_turnProp_X5_has
set_option maxRecDepth 20000 in
theorem ggX5_turnProp_X7_bit : GoodIn wsX5_turnProp wsX7_bit := goodIn_r _ [10] (by decide +kernel) (by decide +kernel)
set_option maxRecDepth 20000 in
theorem gX5_turnProp_X7_bit_n27 : GoodIn wsX5_turnProp (wsX7_bit) := ggX5_turnProp_X7_bit
theorem dX5_turnProp_0 : decode cX5_turnProp 0 = .ok (.aload_n 0, 1) := by decide +kernel
theorem dX5_turnProp_1 : decode cX5_turnProp 1 = .ok (.iload_n 1, 1) := by decide +kernel
theorem dX5_turnProp_2 : decode cX5_turnProp 2 = .ok (.invokevirtual 37, 3) := by decide +kernel
theorem dX5_turnProp_5 : decode cX5_turnProp 5 = .ok (.ifCond .ne 5, 3) := by decide +kernel
theorem dX5_turnProp_8 : decode cX5_turnProp 8 = .ok (.iconst 0, 1) := by decide +kernel
theorem dX5_turnProp_9 : decode cX5_turnProp 9 = .ok (.ireturn, 1) := by decide +kernel
theorem dX5_turnProp_10 : decode cX5_turnProp 10 = .ok (.aload_n 0, 1) := by decide +kernel
theorem dX5_turnProp_11 : decode cX5_turnProp 11 = .ok (.dup, 1) := by decide +kernel
theorem dX5_turnProp_12 : decode cX5_turnProp 12 = .ok (.getfield 15, 3) := by decide +kernel
theorem dX5_turnProp_15 : decode cX5_turnProp 15 = .ok (.iload_n 1, 1) := by decide +kernel
theorem dX5_turnProp_16 : decode cX5_turnProp 16 = .ok (.invokestatic 27, 3) := by decide +kernel
theorem dX5_turnProp_19 : decode cX5_turnProp 19 = .ok (.ixor, 1) := by decide +kernel
theorem dX5_turnProp_20 : decode cX5_turnProp 20 = .ok (.putfield 15, 3) := by decide +kernel
theorem dX5_turnProp_23 : decode cX5_turnProp 23 = .ok (.iconst 1, 1) := by decide +kernel
theorem dX5_turnProp_24 : decode cX5_turnProp 24 = .ok (.ireturn, 1) := by decide +kernel
set_option maxRecDepth 20000 in
theorem ggX5_pullOut_X5_has : GoodIn wsX5_pullOut wsX5_has := goodIn_r _ [8, 3, 25, 26, 27] (by decide +kernel) (by decide +kernel)
set_option maxRecDepth 20000 in
theorem gX5_pullOut_X5_has : GoodIn wsX5_pullOut (wsV RX5 37 RX5 yX5_has wsX5_has) := goodIn_app (goodIn_of _ (by decide +kernel)) ggX5_pullOut_X5_has
set_option maxRecDepth 20000 in
theorem ggX5_pullOut_X3_at : GoodIn wsX5_pullOut wsX3_at := goodIn_r _ [13, 14, 28] (by decide +kernel) (by decide +kernel)
set_option maxRecDepth 20000 in
theorem gX5_pullOut_X3_at : GoodIn wsX5_pullOut (wsV RX5 31 RX3 yX3_at wsX3_at) := goodIn_app (goodIn_of _ (by decide +kernel)) ggX5_pullOut_X3_at
set_option maxRecDepth 20000 in
theorem ggX5_pullOut_X3_put : GoodIn wsX5_pullOut wsX3_put := goodIn_r _ [18, 14, 28] (by decide +kernel) (by decide +kernel)
set_option maxRecDepth 20000 in
theorem gX5_pullOut_X3_put : GoodIn wsX5_pullOut (wsV RX5 55 RX3 yX3_put wsX3_put) := goodIn_app (goodIn_of _ (by decide +kernel)) ggX5_pullOut_X3_put
set_option maxRecDepth 20000 in
theorem ggX5_pullOut_X5_closeGap : GoodIn wsX5_pullOut wsX5_closeGap := goodIn_r _ [21, 22, 23, 24] (by decide +kernel) (by decide +kernel)
set_option maxRecDepth 20000 in
theorem gX5_pullOut_X5_closeGap : GoodIn wsX5_pullOut (va_wsS RX5 59 yX5_closeGap wsX5_closeGap) := goodIn_app (goodIn_of _ (by decide +kernel)) ggX5_pullOut_X5_closeGap
theorem dX5_pullOut_0 : decode cX5_pullOut 0 = .ok (.aload_n 0, 1) := by decide +kernel
theorem dX5_pullOut_1 : decode cX5_pullOut 1 = .ok (.iload_n 1, 1) := by decide +kernel
theorem dX5_pullOut_2 : decode cX5_pullOut 2 = .ok (.invokevirtual 37, 3) := by decide +kernel
theorem dX5_pullOut_5 : decode cX5_pullOut 5 = .ok (.ifCond .ne 4, 3) := by decide +kernel
theorem dX5_pullOut_8 : decode cX5_pullOut 8 = .ok (.return_, 1) := by decide +kernel
theorem dX5_pullOut_9 : decode cX5_pullOut 9 = .ok (.iload_n 1, 1) := by decide +kernel
theorem dX5_pullOut_10 : decode cX5_pullOut 10 = .ok (.istore_n 2, 1) := by decide +kernel
theorem dX5_pullOut_11 : decode cX5_pullOut 11 = .ok (.iload_n 2, 1) := by decide +kernel
theorem dX5_pullOut_12 : decode cX5_pullOut 12 = .ok (.bipush 16, 2) := by decide +kernel
theorem dX5_pullOut_14 : decode cX5_pullOut 14 = .ok (.if_icmp .ge 39, 3) := by decide +kernel
theorem dX5_pullOut_17 : decode cX5_pullOut 17 = .ok (.aload_n 0, 1) := by decide +kernel
theorem dX5_pullOut_18 : decode cX5_pullOut 18 = .ok (.getfield 23, 3) := by decide +kernel
theorem dX5_pullOut_21 : decode cX5_pullOut 21 = .ok (.iload_n 2, 1) := by decide +kernel
theorem dX5_pullOut_22 : decode cX5_pullOut 22 = .ok (.iload_n 2, 1) := by decide +kernel
theorem dX5_pullOut_23 : decode cX5_pullOut 23 = .ok (.iconst 1, 1) := by decide +kernel
theorem dX5_pullOut_24 : decode cX5_pullOut 24 = .ok (.iadd, 1) := by decide +kernel
theorem dX5_pullOut_25 : decode cX5_pullOut 25 = .ok (.bipush 16, 2) := by decide +kernel
theorem dX5_pullOut_27 : decode cX5_pullOut 27 = .ok (.if_icmp .ge 16, 3) := by decide +kernel
theorem dX5_pullOut_30 : decode cX5_pullOut 30 = .ok (.aload_n 0, 1) := by decide +kernel
theorem dX5_pullOut_31 : decode cX5_pullOut 31 = .ok (.getfield 23, 3) := by decide +kernel
theorem dX5_pullOut_34 : decode cX5_pullOut 34 = .ok (.iload_n 2, 1) := by decide +kernel
theorem dX5_pullOut_35 : decode cX5_pullOut 35 = .ok (.iconst 1, 1) := by decide +kernel
theorem dX5_pullOut_36 : decode cX5_pullOut 36 = .ok (.iadd, 1) := by decide +kernel
theorem dX5_pullOut_37 : decode cX5_pullOut 37 = .ok (.invokevirtual 31, 3) := by decide +kernel
theorem dX5_pullOut_40 : decode cX5_pullOut 40 = .ok (.goto 4, 3) := by decide +kernel
