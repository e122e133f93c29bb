theorem dX5_pullOut_43 : decode cX5_pullOut 43 = .ok (.iconst 0, 1) := by decide +kernel
theorem dX5_pullOut_44 : decode cX5_pullOut 44 = .ok (.invokevirtual 55, 3) := by decide +kernel
theorem dX5_pullOut_47 : decode cX5_pullOut 47 = .ok (.iinc 2 1, 3) := by decide +kernel
theorem dX5_pullOut_50 : decode cX5_pullOut 50 = .ok (.goto (-39), 3) := by decide +kernel
theorem dX5_pullOut_53 : decode cX5_pullOut 53 = .ok (.iconst 0, 1) := by decide +kernel
theorem dX5_pullOut_54 : decode cX5_pullOut 54 = .ok (.istore_n 2, 1) := by decide +kernel
theorem dX5_pullOut_55 : decode cX5_pullOut 55 = .ok (.iload_n 2, 1) := by decide +kernel
theorem dX5_pullOut_56 : decode cX5_pullOut 56 = .ok (.bipush 16, 2) := by decide +kernel
theorem dX5_pullOut_58 : decode cX5_pullOut 58 = .ok (.if_icmp .ge 29, 3) := by decide +kernel
theorem dX5_pullOut_61 : decode cX5_pullOut 61 = .ok (.aload_n 0, 1) := by decide +kernel
theorem dX5_pullOut_62 : decode cX5_pullOut 62 = .ok (.getfield 23, 3) := by decide +kernel
theorem dX5_pullOut_65 : decode cX5_pullOut 65 = .ok (.iload_n 2, 1) := by decide +kernel
theorem dX5_pullOut_66 : decode cX5_pullOut 66 = .ok (.aload_n 0, 1) := by decide +kernel
theorem dX5_pullOut_67 : decode cX5_pullOut 67 = .ok (.getfield 23, 3) := by decide +kernel
theorem dX5_pullOut_70 : decode cX5_pullOut 70 = .ok (.iload_n 2, 1) := by decide +kernel
theorem dX5_pullOut_71 : decode cX5_pullOut 71 = .ok (.invokevirtual 31, 3) := by decide +kernel
theorem dX5_pullOut_74 : decode cX5_pullOut 74 = .ok (.iload_n 1, 1) := by decide +kernel
theorem dX5_pullOut_75 : decode cX5_pullOut 75 = .ok (.invokestatic 59, 3) := by decide +kernel
theorem dX5_pullOut_78 : decode cX5_pullOut 78 = .ok (.invokevirtual 55, 3) := by decide +kernel
theorem dX5_pullOut_81 : decode cX5_pullOut 81 = .ok (.iinc 2 1, 3) := by decide +kernel
theorem dX5_pullOut_84 : decode cX5_pullOut 84 = .ok (.goto (-29), 3) := by decide +kernel
theorem dX5_pullOut_87 : decode cX5_pullOut 87 = .ok (.aload_n 0, 1) := by decide +kernel
theorem dX5_pullOut_88 : decode cX5_pullOut 88 = .ok (.aload_n 0, 1) := by decide +kernel
theorem dX5_pullOut_89 : decode cX5_pullOut 89 = .ok (.getfield 15, 3) := by decide +kernel
theorem dX5_pullOut_92 : decode cX5_pullOut 92 = .ok (.iload_n 1, 1) := by decide +kernel
theorem dX5_pullOut_93 : decode cX5_pullOut 93 = .ok (.invokestatic 59, 3) := by decide +kernel
theorem dX5_pullOut_96 : decode cX5_pullOut 96 = .ok (.putfield 15, 3) := by decide +kernel
theorem dX5_pullOut_99 : decode cX5_pullOut 99 = .ok (.aload_n 0, 1) := by decide +kernel
theorem dX5_pullOut_100 : decode cX5_pullOut 100 = .ok (.dup, 1) := by decide +kernel
theorem dX5_pullOut_101 : decode cX5_pullOut 101 = .ok (.getfield 9, 3) := by decide +kernel
theorem dX5_pullOut_104 : decode cX5_pullOut 104 = .ok (.iconst 1, 1) := by decide +kernel
theorem dX5_pullOut_105 : decode cX5_pullOut 105 = .ok (.isub, 1) := by decide +kernel
theorem dX5_pullOut_106 : decode cX5_pullOut 106 = .ok (.putfield 9, 3) := by decide +kernel
theorem dX5_pullOut_109 : decode cX5_pullOut 109 = .ok (.return_, 1) := by decide +kernel
set_option maxRecDepth 20000 in
theorem ggX5_closeGap_X7_bit : GoodIn wsX5_closeGap wsX7_bit := goodIn_r _ [3] (by decide +kernel) (by decide +kernel)
set_option maxRecDepth 20000 in
theorem gX5_closeGap_X7_bit_n27 : GoodIn wsX5_closeGap (wsX7_bit) := ggX5_closeGap_X7_bit
theorem dX5_closeGap_0 : decode cX5_closeGap 0 = .ok (.iload_n 1, 1) := by decide +kernel
theorem dX5_closeGap_1 : decode cX5_closeGap 1 = .ok (.invokestatic 27, 3) := by decide +kernel
theorem dX5_closeGap_4 : decode cX5_closeGap 4 = .ok (.iconst 1, 1) := by decide +kernel
theorem dX5_closeGap_5 : decode cX5_closeGap 5 = .ok (.isub, 1) := by decide +kernel
theorem dX5_closeGap_6 : decode cX5_closeGap 6 = .ok (.istore_n 2, 1) := by decide +kernel
theorem dX5_closeGap_7 : decode cX5_closeGap 7 = .ok (.iload_n 0, 1) := by decide +kernel
theorem dX5_closeGap_8 : decode cX5_closeGap 8 = .ok (.iload_n 2, 1) := by decide +kernel
theorem dX5_closeGap_9 : decode cX5_closeGap 9 = .ok (.iand, 1) := by decide +kernel
theorem dX5_closeGap_10 : decode cX5_closeGap 10 = .ok (.iload_n 0, 1) := by decide +kernel
theorem dX5_closeGap_11 : decode cX5_closeGap 11 = .ok (.iconst 1, 1) := by decide +kernel
theorem dX5_closeGap_12 : decode cX5_closeGap 12 = .ok (.iushr, 1) := by decide +kernel
theorem dX5_closeGap_13 : decode cX5_closeGap 13 = .ok (.iload_n 2, 1) := by decide +kernel
theorem dX5_closeGap_14 : decode cX5_closeGap 14 = .ok (.iconst (-1), 1) := by decide +kernel
theorem dX5_closeGap_15 : decode cX5_closeGap 15 = .ok (.ixor, 1) := by decide +kernel
theorem dX5_closeGap_16 : decode cX5_closeGap 16 = .ok (.iand, 1) := by decide +kernel
theorem dX5_closeGap_17 : decode cX5_closeGap 17 = .ok (.ior, 1) := by decide +kernel
theorem dX5_closeGap_18 : decode cX5_closeGap 18 = .ok (.ireturn, 1) := by decide +kernel
set_option maxRecDepth 20000 in
theorem ggX5_writeTo_X3_put : GoodIn wsX5_writeTo wsX3_put := goodIn_r _ [8, 9, 17] (by decide +kernel) (by decide +kernel)
set_option maxRecDepth 20000 in
theorem gX5_writeTo_X3_put : GoodIn wsX5_writeTo (wsV RX5 55 RX3 yX3_put wsX3_put) := goodIn_app (goodIn_of _ (by decide +kernel)) ggX5_writeTo_X3_put
set_option maxRecDepth 20000 in
theorem ggX5_writeTo_X3_at : GoodIn wsX5_writeTo wsX3_at := goodIn_r _ [13, 9, 17] (by decide +kernel) (by decide +kernel)
set_option maxRecDepth 20000 in
theorem gX5_writeTo_X3_at : GoodIn wsX5_writeTo (wsV RX5 31 RX3 yX3_at wsX3_at) := goodIn_app (goodIn_of _ (by decide +kernel)) ggX5_writeTo_X3_at
theorem dX5_writeTo_0 : decode cX5_writeTo 0 = .ok (.aload_n 1, 1) := by decide +kernel
theorem dX5_writeTo_1 : decode cX5_writeTo 1 = .ok (.iload_n 2, 1) := by decide +kernel
theorem dX5_writeTo_2 : decode cX5_writeTo 2 = .ok (.aload_n 0, 1) := by decide +kernel
theorem dX5_writeTo_3 : decode cX5_writeTo 3 = .ok (.getfield 9, 3) := by decide +kernel
theorem dX5_writeTo_6 : decode cX5_writeTo 6 = .ok (.invokevirtual 55, 3) := by decide +kernel
theorem dX5_writeTo_9 : decode cX5_writeTo 9 = .ok (.aload_n 1, 1) := by decide +kernel
theorem dX5_writeTo_10 : decode cX5_writeTo 10 = .ok (.iload_n 2, 1) := by decide +kernel
theorem dX5_writeTo_11 : decode cX5_writeTo 11 = .ok (.iconst 1, 1) := by decide +kernel
theorem dX5_writeTo_12 : decode cX5_writeTo 12 = .ok (.iadd, 1) := by decide +kernel
theorem dX5_writeTo_13 : decode cX5_writeTo 13 = .ok (.aload_n 0, 1) := by decide +kernel
theorem dX5_writeTo_14 : decode cX5_writeTo 14 = .ok (.getfield 15, 3) := by decide +kernel
theorem dX5_writeTo_17 : decode cX5_writeTo 17 = .ok (.invokevirtual 55, 3) := by decide +kernel
theorem dX5_writeTo_20 : decode cX5_writeTo 20 = .ok (.iconst 0, 1) := by decide +kernel
theorem dX5_writeTo_21 : decode cX5_writeTo 21 = .ok (.istore_n 3, 1) := by decide +kernel
theorem dX5_writeTo_22 : decode cX5_writeTo 22 = .ok (.iload_n 3, 1) := by decide +kernel
theorem dX5_writeTo_23 : decode cX5_writeTo 23 = .ok (.bipush 16, 2) := by decide +kernel
theorem dX5_writeTo_25 : decode cX5_writeTo 25 = .ok (.if_icmp .ge 26, 3) := by decide +kernel
theorem dX5_writeTo_28 : decode cX5_writeTo 28 = .ok (.aload_n 1, 1) := by decide +kernel
theorem dX5_writeTo_29 : decode cX5_writeTo 29 = .ok (.iload_n 2, 1) := by decide +kernel
theorem dX5_writeTo_30 : decode cX5_writeTo 30 = .ok (.iconst 2, 1) := by decide +kernel
theorem dX5_writeTo_31 : decode cX5_writeTo 31 = .ok (.iadd, 1) := by decide +kernel
theorem dX5_writeTo_32 : decode cX5_writeTo 32 = .ok (.iload_n 3, 1) := by decide +kernel
theorem dX5_writeTo_33 : decode cX5_writeTo 33 = .ok (.iadd, 1) := by decide +kernel
theorem dX5_writeTo_34 : decode cX5_writeTo 34 = .ok (.aload_n 0, 1) := by decide +kernel
theorem dX5_writeTo_35 : decode cX5_writeTo 35 = .ok (.getfield 23, 3) := by decide +kernel
theorem dX5_writeTo_38 : decode cX5_writeTo 38 = .ok (.iload_n 3, 1) := by decide +kernel
theorem dX5_writeTo_39 : decode cX5_writeTo 39 = .ok (.invokevirtual 31, 3) := by decide +kernel
theorem dX5_writeTo_42 : decode cX5_writeTo 42 = .ok (.invokevirtual 55, 3) := by decide +kernel
theorem dX5_writeTo_45 : decode cX5_writeTo 45 = .ok (.iinc 3 1, 3) := by decide +kernel
theorem dX5_writeTo_48 : decode cX5_writeTo 48 = .ok (.goto (-26), 3) := by decide +kernel
theorem dX5_writeTo_51 : decode cX5_writeTo 51 = .ok (.return_, 1) := by decide +kernel
set_option maxRecDepth 20000 in
theorem ggX6_init_X3_init : GoodIn wsX6_init wsX3_init := goodIn_r _ [12, 13, 2, 3, 14, 15, 16, 17, 18, 19, 20] (by decide +kernel) (by decide +kernel)
set_option maxRecDepth 20000 in
theorem gX6_init_X3_init : GoodIn wsX6_init (wsX3_init) := ggX6_init_X3_init
theorem dX6_init_0 : decode cX6_init 0 = .ok (.aload_n 0, 1) := by decide +kernel
theorem dX6_init_1 : decode cX6_init 1 = .ok (.invokespecial 3, 3) := by decide +kernel
theorem dX6_init_4 : decode cX6_init 4 = .ok (.aload_n 0, 1) := by decide +kernel
theorem dX6_init_5 : decode cX6_init 5 = .ok (.new 9, 3) := by decide +kernel
theorem dX6_init_8 : decode cX6_init 8 = .ok (.dup, 1) := by decide +kernel
theorem dX6_init_9 : decode cX6_init 9 = .ok (.bipush 16, 2) := by decide +kernel
theorem dX6_init_11 : decode cX6_init 11 = .ok (.invokespecial 11, 3) := by decide +kernel
theorem dX6_init_14 : decode cX6_init 14 = .ok (.putfield 14, 3) := by decide +kernel
theorem dX6_init_17 : decode cX6_init 17 = .ok (.aload_n 0, 1) := by decide +kernel
theorem dX6_init_18 : decode cX6_init 18 = .ok (.new 9, 3) := by decide +kernel
theorem dX6_init_21 : decode cX6_init 21 = .ok (.dup, 1) := by decide +kernel
theorem dX6_init_22 : decode cX6_init 22 = .ok (.sipush 256, 3) := by decide +kernel
theorem dX6_init_25 : decode cX6_init 25 = .ok (.invokespecial 11, 3) := by decide +kernel
theorem dX6_init_28 : decode cX6_init 28 = .ok (.putfield 20, 3) := by decide +kernel
theorem dX6_init_31 : decode cX6_init 31 = .ok (.aload_n 0, 1) := by decide +kernel
theorem dX6_init_32 : decode cX6_init 32 = .ok (.aload_n 1, 1) := by decide +kernel
theorem dX6_init_33 : decode cX6_init 33 = .ok (.putfield 23, 3) := by decide +kernel
theorem dX6_init_36 : decode cX6_init 36 = .ok (.return_, 1) := by decide +kernel
set_option maxRecDepth 20000 in
theorem ggX6_size_X6_takeAllThorns : GoodIn wsX6_size wsX6_takeAllThorns := goodIn_r _ [6, 1, 7, 8, 9, 10, 11, 12, 13, 14, 15, 16, 17, 18, 19, 20, 21, 22, 23, 47, 48, 49, 50, 51, 52, 53] (by decide +kernel) (by decide +kernel)
set_option maxRecDepth 20000 in
theorem gX6_size_X6_takeAllThorns : GoodIn wsX6_size (wsV RX6 27 RX6 yX6_takeAllThorns wsX6_takeAllThorns) := goodIn_app (goodIn_of _ (by decide +kernel)) ggX6_size_X6_takeAllThorns
set_option maxRecDepth 20000 in
theorem ggX6_size_X6_peel : GoodIn wsX6_size wsX6_peel := goodIn_r _ [27, 28, 29, 30, 5, 31, 7, 1, 32, 15, 16, 17, 18, 19, 33, 34, 35, 36, 37, 38, 39, 40, 41, 42, 43, 44, 45, 46, 20, 21, 22, 23, 47, 48, 49, 50, 51, 52, 53] (by decide +kernel) (by decide +kernel)
set_option maxRecDepth 20000 in
theorem gX6_size_X6_peel : GoodIn wsX6_size (wsV RX6 30 RX6 yX6_peel wsX6_peel) := goodIn_app (goodIn_of _ (by decide +kernel)) ggX6_size_X6_peel
set_option maxRecDepth 20000 in
theorem ggX6_size_X3_at : GoodIn wsX6_size wsX3_at := goodIn_r _ [18, 19, 53] (by decide +kernel) (by decide +kernel)
set_option maxRecDepth 20000 in
theorem gX6_size_X3_at : GoodIn wsX6_size (wsV RX6 33 RX3 yX3_at wsX3_at) := goodIn_app (goodIn_of _ (by decide +kernel)) ggX6_size_X3_at
set_option maxRecDepth 20000 in
theorem ggX6_size_X7_bits : GoodIn wsX6_size wsX7_bits := goodIn_r _ [37, 38, 39, 40, 41, 42, 43, 44] (by decide +kernel) (by decide +kernel)
set_option maxRecDepth 20000 in
theorem gX6_size_X7_bits_n37 : GoodIn wsX6_size (wsX7_bits) := ggX6_size_X7_bits
theorem dX6_size_0 : decode cX6_size 0 = .ok (.aload_n 0, 1) := by decide +kernel
theorem dX6_size_1 : decode cX6_size 1 = .ok (.invokevirtual 27, 3) := by decide +kernel
theorem dX6_size_4 : decode cX6_size 4 = .ok (.aload_n 0, 1) := by decide +kernel
theorem dX6_size_5 : decode cX6_size 5 = .ok (.iload_n 1, 1) := by decide +kernel
theorem dX6_size_6 : decode cX6_size 6 = .ok (.invokevirtual 30, 3) := by decide +kernel
theorem dX6_size_9 : decode cX6_size 9 = .ok (.iconst 0, 1) := by decide +kernel
theorem dX6_size_10 : decode cX6_size 10 = .ok (.istore_n 2, 1) := by decide +kernel
theorem dX6_size_11 : decode cX6_size 11 = .ok (.iconst 0, 1) := by decide +kernel
theorem dX6_size_12 : decode cX6_size 12 = .ok (.istore_n 3, 1) := by decide +kernel
theorem dX6_size_13 : decode cX6_size 13 = .ok (.iload_n 3, 1) := by decide +kernel
theorem dX6_size_14 : decode cX6_size 14 = .ok (.bipush 16, 2) := by decide +kernel
theorem dX6_size_16 : decode cX6_size 16 = .ok (.if_icmp .ge 23, 3) := by decide +kernel
theorem dX6_size_19 : decode cX6_size 19 = .ok (.iload_n 2, 1) := by decide +kernel
theorem dX6_size_20 : decode cX6_size 20 = .ok (.aload_n 0, 1) := by decide +kernel
theorem dX6_size_21 : decode cX6_size 21 = .ok (.getfield 14, 3) := by decide +kernel
theorem dX6_size_24 : decode cX6_size 24 = .ok (.iload_n 3, 1) := by decide +kernel
theorem dX6_size_25 : decode cX6_size 25 = .ok (.invokevirtual 33, 3) := by decide +kernel
theorem dX6_size_28 : decode cX6_size 28 = .ok (.invokestatic 37, 3) := by decide +kernel
theorem dX6_size_31 : decode cX6_size 31 = .ok (.iadd, 1) := by decide +kernel
theorem dX6_size_32 : decode cX6_size 32 = .ok (.istore_n 2, 1) := by decide +kernel
theorem dX6_size_33 : decode cX6_size 33 = .ok (.iinc 3 1, 3) := by decide +kernel
theorem dX6_size_36 : decode cX6_size 36 = .ok (.goto (-23), 3) := by decide +kernel
theorem dX6_size_39 : decode cX6_size 39 = .ok (.iload_n 2, 1) := by decide +kernel
theorem dX6_size_40 : decode cX6_size 40 = .ok (.iconst 2, 1) := by decide +kernel
theorem dX6_size_41 : decode cX6_size 41 = .ok (.idiv, 1) := by decide +kernel
theorem dX6_size_42 : decode cX6_size 42 = .ok (.ireturn, 1) := by decide +kernel
set_option maxRecDepth 20000 in
theorem ggX6_numberByPeeling_X6_takeAllThorns : GoodIn wsX6_numberByPeeling wsX6_takeAllThorns := goodIn_r _ [6, 1, 7, 8, 9, 10, 11, 12, 13, 14, 15, 16, 17, 18, 19, 20, 21, 22, 23, 47, 48, 49, 50, 51, 52, 53] (by decide +kernel) (by decide +kernel)
set_option maxRecDepth 20000 in
theorem gX6_numberByPeeling_X6_takeAllThorns : GoodIn wsX6_numberByPeeling (wsV RX6 27 RX6 yX6_takeAllThorns wsX6_takeAllThorns) := goodIn_app (goodIn_of _ (by decide +kernel)) ggX6_numberByPeeling_X6_takeAllThorns
set_option maxRecDepth 20000 in
theorem ggX6_numberByPeeling_X6_peel : GoodIn wsX6_numberByPeeling wsX6_peel := goodIn_r _ [27, 28, 29, 30, 5, 31, 7, 1, 32, 15, 16, 17, 18, 19, 33, 34, 35, 36, 37, 38, 39, 40, 41, 42, 43, 44, 45, 46, 20, 21, 22, 23, 47, 48, 49, 50, 51, 52, 53] (by decide +kernel) (by decide +kernel)
set_option maxRecDepth 20000 in
theorem gX6_numberByPeeling_X6_peel : GoodIn wsX6_numberByPeeling (wsV RX6 30 RX6 yX6_peel wsX6_peel) := goodIn_app (goodIn_of _ (by decide +kernel)) ggX6_numberByPeeling_X6_peel
set_option maxRecDepth 20000 in
theorem ggX6_numberByPeeling_X3_at : GoodIn wsX6_numberByPeeling wsX3_at := goodIn_r _ [18, 19, 53] (by decide +kernel) (by decide +kernel)
set_option maxRecDepth 20000 in
theorem gX6_numberByPeeling_X3_at : GoodIn wsX6_numberByPeeling (wsV RX6 33 RX3 yX3_at wsX3_at) := goodIn_app (goodIn_of _ (by decide +kernel)) ggX6_numberByPeeling_X3_at
set_option maxRecDepth 20000 in
theorem ggX6_numberByPeeling_X7_in : GoodIn wsX6_numberByPeeling wsX7_in := goodIn_r _ [35] (by decide +kernel) (by decide +kernel)
set_option maxRecDepth 20000 in
theorem gX6_numberByPeeling_X7_in_n40 : GoodIn wsX6_numberByPeeling (wsX7_in) := ggX6_numberByPeeling_X7_in
theorem dX6_numberByPeeling_0 : decode cX6_numberByPeeling 0 = .ok (.aload_n 0, 1) := by decide +kernel
theorem dX6_numberByPeeling_1 : decode cX6_numberByPeeling 1 = .ok (.invokevirtual 27, 3) := by decide +kernel
theorem dX6_numberByPeeling_4 : decode cX6_numberByPeeling 4 = .ok (.iconst 0, 1) := by decide +kernel
theorem dX6_numberByPeeling_5 : decode cX6_numberByPeeling 5 = .ok (.istore_n 3, 1) := by decide +kernel
theorem dX6_numberByPeeling_6 : decode cX6_numberByPeeling 6 = .ok (.iload_n 3, 1) := by decide +kernel
theorem dX6_numberByPeeling_7 : decode cX6_numberByPeeling 7 = .ok (.bipush 15, 2) := by decide +kernel
theorem dX6_numberByPeeling_9 : decode cX6_numberByPeeling 9 = .ok (.if_icmp .ge 33, 3) := by decide +kernel
theorem dX6_numberByPeeling_12 : decode cX6_numberByPeeling 12 = .ok (.aload_n 0, 1) := by decide +kernel
theorem dX6_numberByPeeling_13 : decode cX6_numberByPeeling 13 = .ok (.iload_n 3, 1) := by decide +kernel
theorem dX6_numberByPeeling_14 : decode cX6_numberByPeeling 14 = .ok (.iconst 1, 1) := by decide +kernel
theorem dX6_numberByPeeling_15 : decode cX6_numberByPeeling 15 = .ok (.iadd, 1) := by decide +kernel
theorem dX6_numberByPeeling_16 : decode cX6_numberByPeeling 16 = .ok (.invokevirtual 30, 3) := by decide +kernel
theorem dX6_numberByPeeling_19 : decode cX6_numberByPeeling 19 = .ok (.aload_n 0, 1) := by decide +kernel
theorem dX6_numberByPeeling_20 : decode cX6_numberByPeeling 20 = .ok (.getfield 14, 3) := by decide +kernel
theorem dX6_numberByPeeling_23 : decode cX6_numberByPeeling 23 = .ok (.iload_n 1, 1) := by decide +kernel
theorem dX6_numberByPeeling_24 : decode cX6_numberByPeeling 24 = .ok (.invokevirtual 33, 3) := by decide +kernel
theorem dX6_numberByPeeling_27 : decode cX6_numberByPeeling 27 = .ok (.iload_n 2, 1) := by decide +kernel
theorem dX6_numberByPeeling_28 : decode cX6_numberByPeeling 28 = .ok (.invokestatic 40, 3) := by decide +kernel
theorem dX6_numberByPeeling_31 : decode cX6_numberByPeeling 31 = .ok (.ifCond .ne 5, 3) := by decide +kernel
theorem dX6_numberByPeeling_34 : decode cX6_numberByPeeling 34 = .ok (.iload_n 3, 1) := by decide +kernel
theorem dX6_numberByPeeling_35 : decode cX6_numberByPeeling 35 = .ok (.ireturn, 1) := by decide +kernel
theorem dX6_numberByPeeling_36 : decode cX6_numberByPeeling 36 = .ok (.iinc 3 1, 3) := by decide +kernel
theorem dX6_numberByPeeling_39 : decode cX6_numberByPeeling 39 = .ok (.goto (-33), 3) := by decide +kernel
theorem dX6_numberByPeeling_42 : decode cX6_numberByPeeling 42 = .ok (.bipush 15, 2) := by decide +kernel
theorem dX6_numberByPeeling_44 : decode cX6_numberByPeeling 44 = .ok (.ireturn, 1) := by decide +kernel
set_option maxRecDepth 20000 in
theorem ggX6_takeAllThorns_X5_around : GoodIn wsX6_takeAllThorns wsX5_around := goodIn_r _ [7, 8, 9, 10, 11, 12, 13, 14, 22, 23, 24, 25] (by decide +kernel) (by decide +kernel)
set_option maxRecDepth 20000 in
theorem gX6_takeAllThorns_X5_around : GoodIn wsX6_takeAllThorns (wsV RX6 44 RX5 yX5_around wsX5_around) := goodIn_app (goodIn_of _ (by decide +kernel)) ggX6_takeAllThorns_X5_around
set_option maxRecDepth 20000 in
theorem ggX6_takeAllThorns_X3_put : GoodIn wsX6_takeAllThorns wsX3_put := goodIn_r _ [18, 14, 25] (by decide +kernel) (by decide +kernel)
set_option maxRecDepth 20000 in
theorem gX6_takeAllThorns_X3_put : GoodIn wsX6_takeAllThorns (wsV RX6 49 RX3 yX3_put wsX3_put) := goodIn_app (goodIn_of _ (by decide +kernel)) ggX6_takeAllThorns_X3_put
theorem dX6_takeAllThorns_0 : decode cX6_takeAllThorns 0 = .ok (.iconst 0, 1) := by decide +kernel
theorem dX6_takeAllThorns_1 : decode cX6_takeAllThorns 1 = .ok (.istore_n 1, 1) := by decide +kernel
theorem dX6_takeAllThorns_2 : decode cX6_takeAllThorns 2 = .ok (.iload_n 1, 1) := by decide +kernel
theorem dX6_takeAllThorns_3 : decode cX6_takeAllThorns 3 = .ok (.bipush 16, 2) := by decide +kernel
theorem dX6_takeAllThorns_5 : decode cX6_takeAllThorns 5 = .ok (.if_icmp .ge 25, 3) := by decide +kernel
theorem dX6_takeAllThorns_8 : decode cX6_takeAllThorns 8 = .ok (.aload_n 0, 1) := by decide +kernel
theorem dX6_takeAllThorns_9 : decode cX6_takeAllThorns 9 = .ok (.getfield 14, 3) := by decide +kernel
theorem dX6_takeAllThorns_12 : decode cX6_takeAllThorns 12 = .ok (.iload_n 1, 1) := by decide +kernel
theorem dX6_takeAllThorns_13 : decode cX6_takeAllThorns 13 = .ok (.aload_n 0, 1) := by decide +kernel
theorem dX6_takeAllThorns_14 : decode cX6_takeAllThorns 14 = .ok (.getfield 23, 3) := by decide +kernel
theorem dX6_takeAllThorns_17 : decode cX6_takeAllThorns 17 = .ok (.iload_n 1, 1) := by decide +kernel
theorem dX6_takeAllThorns_18 : decode cX6_takeAllThorns 18 = .ok (.invokevirtual 44, 3) := by decide +kernel
theorem dX6_takeAllThorns_21 : decode cX6_takeAllThorns 21 = .ok (.invokevirtual 49, 3) := by decide +kernel
theorem dX6_takeAllThorns_24 : decode cX6_takeAllThorns 24 = .ok (.iinc 1 1, 3) := by decide +kernel
theorem dX6_takeAllThorns_27 : decode cX6_takeAllThorns 27 = .ok (.goto (-25), 3) := by decide +kernel
theorem dX6_takeAllThorns_30 : decode cX6_takeAllThorns 30 = .ok (.return_, 1) := by decide +kernel
set_option maxRecDepth 20000 in
theorem ggX6_peel_X6_dropWeak : GoodIn wsX6_peel wsX6_dropWeak := goodIn_r _ [5, 6, 7, 8, 9, 10, 11, 12, 13, 14, 15, 16, 17, 18, 19, 20, 21, 22, 23, 24, 25, 26, 27, 28, 29, 30, 31, 32, 33, 34, 35, 36, 37, 38] (by decide +kernel) (by decide +kernel)
set_option maxRecDepth 20000 in
theorem gX6_peel_X6_dropWeak : GoodIn wsX6_peel (wsV RX6 53 RX6 yX6_dropWeak wsX6_dropWeak) := goodIn_app (goodIn_of _ (by decide +kernel)) ggX6_peel_X6_dropWeak
theorem dX6_peel_0 : decode cX6_peel 0 = .ok (.iconst 0, 1) := by decide +kernel
theorem dX6_peel_1 : decode cX6_peel 1 = .ok (.istore_n 2, 1) := by decide +kernel
theorem dX6_peel_2 : decode cX6_peel 2 = .ok (.iload_n 2, 1) := by decide +kernel
theorem dX6_peel_3 : decode cX6_peel 3 = .ok (.bipush 120, 2) := by decide +kernel
theorem dX6_peel_5 : decode cX6_peel 5 = .ok (.if_icmp .gt 20, 3) := by decide +kernel
theorem dX6_peel_8 : decode cX6_peel 8 = .ok (.aload_n 0, 1) := by decide +kernel
theorem dX6_peel_9 : decode cX6_peel 9 = .ok (.iload_n 1, 1) := by decide +kernel
theorem dX6_peel_10 : decode cX6_peel 10 = .ok (.invokevirtual 53, 3) := by decide +kernel
theorem dX6_peel_13 : decode cX6_peel 13 = .ok (.ifCond .ne 6, 3) := by decide +kernel
theorem dX6_peel_16 : decode cX6_peel 16 = .ok (.goto 9, 3) := by decide +kernel
theorem dX6_peel_19 : decode cX6_peel 19 = .ok (.iinc 2 1, 3) := by decide +kernel
theorem dX6_peel_22 : decode cX6_peel 22 = .ok (.goto (-20), 3) := by decide +kernel
theorem dX6_peel_25 : decode cX6_peel 25 = .ok (.return_, 1) := by decide +kernel
set_option maxRecDepth 20000 in
theorem ggX6_dropWeak_X3_at : GoodIn wsX6_dropWeak wsX3_at := goodIn_r _ [7, 8, 33] (by decide +kernel) (by decide +kernel)
set_option maxRecDepth 20000 in
theorem gX6_dropWeak_X3_at : GoodIn wsX6_dropWeak (wsV RX6 33 RX3 yX3_at wsX3_at) := goodIn_app (goodIn_of _ (by decide +kernel)) ggX6_dropWeak_X3_at
set_option maxRecDepth 20000 in
theorem ggX6_dropWeak_X7_in : GoodIn wsX6_dropWeak wsX7_in := goodIn_r _ [11] (by decide +kernel) (by decide +kernel)
set_option maxRecDepth 20000 in
theorem gX6_dropWeak_X7_in_n40 : GoodIn wsX6_dropWeak (wsX7_in) := ggX6_dropWeak_X7_in
set_option maxRecDepth 20000 in
theorem ggX6_dropWeak_X7_bits : GoodIn wsX6_dropWeak wsX7_bits := goodIn_r _ [13, 14, 15, 16, 17, 18, 19, 20] (by decide +kernel) (by decide +kernel)
set_option maxRecDepth 20000 in
theorem gX6_dropWeak_X7_bits_n37 : GoodIn wsX6_dropWeak (wsX7_bits) := ggX6_dropWeak_X7_bits
set_option maxRecDepth 20000 in
theorem ggX6_dropWeak_X7_bit : GoodIn wsX6_dropWeak wsX7_bit := goodIn_r _ [22] (by decide +kernel) (by decide +kernel)
set_option maxRecDepth 20000 in
theorem gX6_dropWeak_X7_bit_n61 : GoodIn wsX6_dropWeak (wsX7_bit) := ggX6_dropWeak_X7_bit
set_option maxRecDepth 20000 in
theorem ggX6_dropWeak_X3_put : GoodIn wsX6_dropWeak wsX3_put := goodIn_r _ [26, 8, 33] (by decide +kernel) (by decide +kernel)
set_option maxRecDepth 20000 in
theorem gX6_dropWeak_X3_put : GoodIn wsX6_dropWeak (wsV RX6 49 RX3 yX3_put wsX3_put) := goodIn_app (goodIn_of _ (by decide +kernel)) ggX6_dropWeak_X3_put
theorem dX6_dropWeak_0 : decode cX6_dropWeak 0 = .ok (.iconst 0, 1) := by decide +kernel
theorem dX6_dropWeak_1 : decode cX6_dropWeak 1 = .ok (.istore_n 2, 1) := by decide +kernel
theorem dX6_dropWeak_2 : decode cX6_dropWeak 2 = .ok (.iconst 0, 1) := by decide +kernel
theorem dX6_dropWeak_3 : decode cX6_dropWeak 3 = .ok (.istore_n 3, 1) := by decide +kernel
theorem dX6_dropWeak_4 : decode cX6_dropWeak 4 = .ok (.iload_n 3, 1) := by decide +kernel
theorem dX6_dropWeak_5 : decode cX6_dropWeak 5 = .ok (.aload_n 0, 1) := by decide +kernel
theorem dX6_dropWeak_6 : decode cX6_dropWeak 6 = .ok (.getfield 23, 3) := by decide +kernel
theorem dX6_dropWeak_9 : decode cX6_dropWeak 9 = .ok (.getfield 57, 3) := by decide +kernel
theorem dX6_dropWeak_12 : decode cX6_dropWeak 12 = .ok (.if_icmp .ge 124, 3) := by decide +kernel
theorem dX6_dropWeak_15 : decode cX6_dropWeak 15 = .ok (.iload_n 3, 1) := by decide +kernel
theorem dX6_dropWeak_16 : decode cX6_dropWeak 16 = .ok (.iconst 1, 1) := by decide +kernel
theorem dX6_dropWeak_17 : decode cX6_dropWeak 17 = .ok (.iadd, 1) := by decide +kernel
theorem dX6_dropWeak_18 : decode cX6_dropWeak 18 = .ok (.istore 4, 2) := by decide +kernel
theorem dX6_dropWeak_20 : decode cX6_dropWeak 20 = .ok (.iload 4, 2) := by decide +kernel
theorem dX6_dropWeak_22 : decode cX6_dropWeak 22 = .ok (.aload_n 0, 1) := by decide +kernel
theorem dX6_dropWeak_23 : decode cX6_dropWeak 23 = .ok (.getfield 23, 3) := by decide +kernel
theorem dX6_dropWeak_26 : decode cX6_dropWeak 26 = .ok (.getfield 57, 3) := by decide +kernel
theorem dX6_dropWeak_29 : decode cX6_dropWeak 29 = .ok (.if_icmp .ge 101, 3) := by decide +kernel
theorem dX6_dropWeak_32 : decode cX6_dropWeak 32 = .ok (.aload_n 0, 1) := by decide +kernel
theorem dX6_dropWeak_33 : decode cX6_dropWeak 33 = .ok (.getfield 14, 3) := by decide +kernel
theorem dX6_dropWeak_36 : decode cX6_dropWeak 36 = .ok (.iload_n 3, 1) := by decide +kernel
theorem dX6_dropWeak_37 : decode cX6_dropWeak 37 = .ok (.invokevirtual 33, 3) := by decide +kernel
theorem dX6_dropWeak_40 : decode cX6_dropWeak 40 = .ok (.iload 4, 2) := by decide +kernel
theorem dX6_dropWeak_42 : decode cX6_dropWeak 42 = .ok (.invokestatic 40, 3) := by decide +kernel
theorem dX6_dropWeak_45 : decode cX6_dropWeak 45 = .ok (.ifCond .eq 79, 3) := by decide +kernel
theorem dX6_dropWeak_48 : decode cX6_dropWeak 48 = .ok (.aload_n 0, 1) := by decide +kernel
theorem dX6_dropWeak_49 : decode cX6_dropWeak 49 = .ok (.getfield 14, 3) := by decide +kernel
theorem dX6_dropWeak_52 : decode cX6_dropWeak 52 = .ok (.iload_n 3, 1) := by decide +kernel
theorem dX6_dropWeak_53 : decode cX6_dropWeak 53 = .ok (.invokevirtual 33, 3) := by decide +kernel
theorem dX6_dropWeak_56 : decode cX6_dropWeak 56 = .ok (.aload_n 0, 1) := by decide +kernel
theorem dX6_dropWeak_57 : decode cX6_dropWeak 57 = .ok (.getfield 14, 3) := by decide +kernel
theorem dX6_dropWeak_60 : decode cX6_dropWeak 60 = .ok (.iload 4, 2) := by decide +kernel
theorem dX6_dropWeak_62 : decode cX6_dropWeak 62 = .ok (.invokevirtual 33, 3) := by decide +kernel
theorem dX6_dropWeak_65 : decode cX6_dropWeak 65 = .ok (.iand, 1) := by decide +kernel
theorem dX6_dropWeak_66 : decode cX6_dropWeak 66 = .ok (.invokestatic 37, 3) := by decide +kernel
theorem dX6_dropWeak_69 : decode cX6_dropWeak 69 = .ok (.iload_n 1, 1) := by decide +kernel
theorem dX6_dropWeak_70 : decode cX6_dropWeak 70 = .ok (.if_icmp .ge 54, 3) := by decide +kernel
theorem dX6_dropWeak_73 : decode cX6_dropWeak 73 = .ok (.aload_n 0, 1) := by decide +kernel
theorem dX6_dropWeak_74 : decode cX6_dropWeak 74 = .ok (.getfield 14, 3) := by decide +kernel
theorem dX6_dropWeak_77 : decode cX6_dropWeak 77 = .ok (.iload_n 3, 1) := by decide +kernel
theorem dX6_dropWeak_78 : decode cX6_dropWeak 78 = .ok (.aload_n 0, 1) := by decide +kernel
theorem dX6_dropWeak_79 : decode cX6_dropWeak 79 = .ok (.getfield 14, 3) := by decide +kernel
theorem dX6_dropWeak_82 : decode cX6_dropWeak 82 = .ok (.iload_n 3, 1) := by decide +kernel
theorem dX6_dropWeak_83 : decode cX6_dropWeak 83 = .ok (.invokevirtual 33, 3) := by decide +kernel
theorem dX6_dropWeak_86 : decode cX6_dropWeak 86 = .ok (.iload 4, 2) := by decide +kernel
theorem dX6_dropWeak_88 : decode cX6_dropWeak 88 = .ok (.invokestatic 61, 3) := by decide +kernel
theorem dX6_dropWeak_91 : decode cX6_dropWeak 91 = .ok (.iconst (-1), 1) := by decide +kernel
theorem dX6_dropWeak_92 : decode cX6_dropWeak 92 = .ok (.ixor, 1) := by decide +kernel
theorem dX6_dropWeak_93 : decode cX6_dropWeak 93 = .ok (.iand, 1) := by decide +kernel
theorem dX6_dropWeak_94 : decode cX6_dropWeak 94 = .ok (.invokevirtual 49, 3) := by decide +kernel
theorem dX6_dropWeak_97 : decode cX6_dropWeak 97 = .ok (.aload_n 0, 1) := by decide +kernel
theorem dX6_dropWeak_98 : decode cX6_dropWeak 98 = .ok (.getfield 14, 3) := by decide +kernel
theorem dX6_dropWeak_101 : decode cX6_dropWeak 101 = .ok (.iload 4, 2) := by decide +kernel
theorem dX6_dropWeak_103 : decode cX6_dropWeak 103 = .ok (.aload_n 0, 1) := by decide +kernel
theorem dX6_dropWeak_104 : decode cX6_dropWeak 104 = .ok (.getfield 14, 3) := by decide +kernel
theorem dX6_dropWeak_107 : decode cX6_dropWeak 107 = .ok (.iload 4, 2) := by decide +kernel
theorem dX6_dropWeak_109 : decode cX6_dropWeak 109 = .ok (.invokevirtual 33, 3) := by decide +kernel
theorem dX6_dropWeak_112 : decode cX6_dropWeak 112 = .ok (.iload_n 3, 1) := by decide +kernel
theorem dX6_dropWeak_113 : decode cX6_dropWeak 113 = .ok (.invokestatic 61, 3) := by decide +kernel
theorem dX6_dropWeak_116 : decode cX6_dropWeak 116 = .ok (.iconst (-1), 1) := by decide +kernel
theorem dX6_dropWeak_117 : decode cX6_dropWeak 117 = .ok (.ixor, 1) := by decide +kernel
theorem dX6_dropWeak_118 : decode cX6_dropWeak 118 = .ok (.iand, 1) := by decide +kernel
theorem dX6_dropWeak_119 : decode cX6_dropWeak 119 = .ok (.invokevirtual 49, 3) := by decide +kernel
theorem dX6_dropWeak_122 : decode cX6_dropWeak 122 = .ok (.iconst 1, 1) := by decide +kernel
theorem dX6_dropWeak_123 : decode cX6_dropWeak 123 = .ok (.istore_n 2, 1) := by decide +kernel
theorem dX6_dropWeak_124 : decode cX6_dropWeak 124 = .ok (.iinc 4 1, 3) := by decide +kernel
theorem dX6_dropWeak_127 : decode cX6_dropWeak 127 = .ok (.goto (-107), 3) := by decide +kernel
theorem dX6_dropWeak_130 : decode cX6_dropWeak 130 = .ok (.iinc 3 1, 3) := by decide +kernel
theorem dX6_dropWeak_133 : decode cX6_dropWeak 133 = .ok (.goto (-129), 3) := by decide +kernel
theorem dX6_dropWeak_136 : decode cX6_dropWeak 136 = .ok (.iload_n 2, 1) := by decide +kernel
theorem dX6_dropWeak_137 : decode cX6_dropWeak 137 = .ok (.ireturn, 1) := by decide +kernel
set_option maxRecDepth 20000 in
theorem ggX6_numberByRounds_X5_isBound : GoodIn wsX6_numberByRounds wsX5_isBound := goodIn_r _ [6, 7, 8, 9, 10, 5, 11, 12, 13, 14, 15, 16, 17, 18, 19, 20, 21, 69, 70, 71, 72] (by decide +kernel) (by decide +kernel)
set_option maxRecDepth 20000 in
theorem gX6_numberByRounds_X5_isBound : GoodIn wsX6_numberByRounds (wsV RX6 64 RX5 yX5_isBound wsX5_isBound) := goodIn_app (goodIn_of _ (by decide +kernel)) ggX6_numberByRounds_X5_isBound
set_option maxRecDepth 20000 in
theorem ggX6_numberByRounds_X5_aroundBoth : GoodIn wsX6_numberByRounds wsX5_aroundBoth := goodIn_r _ [25, 7, 13, 14, 15, 16, 17, 18, 69, 70, 71, 72] (by decide +kernel) (by decide +kernel)
set_option maxRecDepth 20000 in
theorem gX6_numberByRounds_X5_aroundBoth : GoodIn wsX6_numberByRounds (wsV RX6 67 RX5 yX5_aroundBoth wsX5_aroundBoth) := goodIn_app (goodIn_of _ (by decide +kernel)) ggX6_numberByRounds_X5_aroundBoth
set_option maxRecDepth 20000 in
theorem ggX6_numberByRounds_X7_bits : GoodIn wsX6_numberByRounds wsX7_bits := goodIn_r _ [27, 28, 29, 30, 31, 32, 33, 34] (by decide +kernel) (by decide +kernel)
set_option maxRecDepth 20000 in
theorem gX6_numberByRounds_X7_bits_n37 : GoodIn wsX6_numberByRounds (wsX7_bits) := ggX6_numberByRounds_X7_bits
set_option maxRecDepth 20000 in
theorem ggX6_numberByRounds_X6_putNumber : GoodIn wsX6_numberByRounds wsX6_putNumber := goodIn_r _ [39, 40, 41, 42, 43, 16, 44, 18, 66, 67, 68, 72] (by decide +kernel) (by decide +kernel)
set_option maxRecDepth 20000 in
theorem gX6_numberByRounds_X6_putNumber : GoodIn wsX6_numberByRounds (wsV RX6 71 RX6 yX6_putNumber wsX6_putNumber) := goodIn_app (goodIn_of _ (by decide +kernel)) ggX6_numberByRounds_X6_putNumber
set_option maxRecDepth 20000 in
theorem ggX6_numberByRounds_X6_lowerNumbers : GoodIn wsX6_numberByRounds wsX6_lowerNumbers := goodIn_r _ [48, 1, 2, 3, 4, 5, 6, 7, 8, 9, 10, 11, 12, 13, 14, 15, 16, 17, 18, 19, 20, 21, 49, 50, 51, 38, 52, 53, 54, 55, 56, 40, 57, 58, 59, 60, 61, 62, 63, 64, 65, 22, 23, 24, 25, 35, 36, 37, 39, 41, 42, 43, 44, 66, 67, 68, 69, 70, 71, 72] (by decide +kernel) (by decide +kernel)
set_option maxRecDepth 20000 in
theorem gX6_numberByRounds_X6_lowerNumbers : GoodIn wsX6_numberByRounds (wsV RX6 75 RX6 yX6_lowerNumbers wsX6_lowerNumbers) := goodIn_app (goodIn_of _ (by decide +kernel)) ggX6_numberByRounds_X6_lowerNumbers
set_option maxRecDepth 20000 in
theorem ggX6_numberByRounds_X6_number : GoodIn wsX6_numberByRounds wsX6_number := goodIn_r _ [56, 40, 57, 14, 15, 16, 17, 18, 66, 67, 68, 72] (by decide +kernel) (by decide +kernel)
set_option maxRecDepth 20000 in
theorem gX6_numberByRounds_X6_number : GoodIn wsX6_numberByRounds (wsV RX6 79 RX6 yX6_number wsX6_number) := goodIn_app (goodIn_of _ (by decide +kernel)) ggX6_numberByRounds_X6_number
theorem dX6_numberByRounds_0 : decode cX6_numberByRounds 0 = .ok (.iconst 0, 1) := by decide +kernel
theorem dX6_numberByRounds_1 : decode cX6_numberByRounds 1 = .ok (.istore_n 3, 1) := by decide +kernel
theorem dX6_numberByRounds_2 : decode cX6_numberByRounds 2 = .ok (.iload_n 3, 1) := by decide +kernel
theorem dX6_numberByRounds_3 : decode cX6_numberByRounds 3 = .ok (.aload_n 0, 1) := by decide +kernel
theorem dX6_numberByRounds_4 : decode cX6_numberByRounds 4 = .ok (.getfield 23, 3) := by decide +kernel
theorem dX6_numberByRounds_7 : decode cX6_numberByRounds 7 = .ok (.getfield 57, 3) := by decide +kernel
theorem dX6_numberByRounds_10 : decode cX6_numberByRounds 10 = .ok (.if_icmp .ge 65, 3) := by decide +kernel
theorem dX6_numberByRounds_13 : decode cX6_numberByRounds 13 = .ok (.iload_n 3, 1) := by decide +kernel
theorem dX6_numberByRounds_14 : decode cX6_numberByRounds 14 = .ok (.iconst 1, 1) := by decide +kernel
theorem dX6_numberByRounds_15 : decode cX6_numberByRounds 15 = .ok (.iadd, 1) := by decide +kernel
theorem dX6_numberByRounds_16 : decode cX6_numberByRounds 16 = .ok (.istore 4, 2) := by decide +kernel
theorem dX6_numberByRounds_18 : decode cX6_numberByRounds 18 = .ok (.iload 4, 2) := by decide +kernel
theorem dX6_numberByRounds_20 : decode cX6_numberByRounds 20 = .ok (.aload_n 0, 1) := by decide +kernel
theorem dX6_numberByRounds_21 : decode cX6_numberByRounds 21 = .ok (.getfield 23, 3) := by decide +kernel
theorem dX6_numberByRounds_24 : decode cX6_numberByRounds 24 = .ok (.getfield 57, 3) := by decide +kernel
theorem dX6_numberByRounds_27 : decode cX6_numberByRounds 27 = .ok (.if_icmp .ge 42, 3) := by decide +kernel
theorem dX6_numberByRounds_30 : decode cX6_numberByRounds 30 = .ok (.aload_n 0, 1) := by decide +kernel
theorem dX6_numberByRounds_31 : decode cX6_numberByRounds 31 = .ok (.getfield 23, 3) := by decide +kernel
theorem dX6_numberByRounds_34 : decode cX6_numberByRounds 34 = .ok (.iload_n 3, 1) := by decide +kernel
theorem dX6_numberByRounds_35 : decode cX6_numberByRounds 35 = .ok (.iload 4, 2) := by decide +kernel
theorem dX6_numberByRounds_37 : decode cX6_numberByRounds 37 = .ok (.invokevirtual 64, 3) := by decide +kernel
theorem dX6_numberByRounds_40 : decode cX6_numberByRounds 40 = .ok (.ifCond .eq 23, 3) := by decide +kernel
theorem dX6_numberByRounds_43 : decode cX6_numberByRounds 43 = .ok (.aload_n 0, 1) := by decide +kernel
theorem dX6_numberByRounds_44 : decode cX6_numberByRounds 44 = .ok (.iload_n 3, 1) := by decide +kernel
theorem dX6_numberByRounds_45 : decode cX6_numberByRounds 45 = .ok (.iload 4, 2) := by decide +kernel
theorem dX6_numberByRounds_47 : decode cX6_numberByRounds 47 = .ok (.aload_n 0, 1) := by decide +kernel
theorem dX6_numberByRounds_48 : decode cX6_numberByRounds 48 = .ok (.getfield 23, 3) := by decide +kernel
theorem dX6_numberByRounds_51 : decode cX6_numberByRounds 51 = .ok (.iload_n 3, 1) := by decide +kernel
theorem dX6_numberByRounds_52 : decode cX6_numberByRounds 52 = .ok (.iload 4, 2) := by decide +kernel
theorem dX6_numberByRounds_54 : decode cX6_numberByRounds 54 = .ok (.invokevirtual 67, 3) := by decide +kernel
theorem dX6_numberByRounds_57 : decode cX6_numberByRounds 57 = .ok (.invokestatic 37, 3) := by decide +kernel
theorem dX6_numberByRounds_60 : decode cX6_numberByRounds 60 = .ok (.invokevirtual 71, 3) := by decide +kernel
theorem dX6_numberByRounds_63 : decode cX6_numberByRounds 63 = .ok (.iinc 4 1, 3) := by decide +kernel
theorem dX6_numberByRounds_66 : decode cX6_numberByRounds 66 = .ok (.goto (-48), 3) := by decide +kernel
theorem dX6_numberByRounds_69 : decode cX6_numberByRounds 69 = .ok (.iinc 3 1, 3) := by decide +kernel
theorem dX6_numberByRounds_72 : decode cX6_numberByRounds 72 = .ok (.goto (-70), 3) := by decide +kernel
theorem dX6_numberByRounds_75 : decode cX6_numberByRounds 75 = .ok (.iconst 0, 1) := by decide +kernel
theorem dX6_numberByRounds_76 : decode cX6_numberByRounds 76 = .ok (.istore_n 3, 1) := by decide +kernel
theorem dX6_numberByRounds_77 : decode cX6_numberByRounds 77 = .ok (.iload_n 3, 1) := by decide +kernel
theorem dX6_numberByRounds_78 : decode cX6_numberByRounds 78 = .ok (.sipush 1800, 3) := by decide +kernel
theorem dX6_numberByRounds_81 : decode cX6_numberByRounds 81 = .ok (.if_icmp .gt 19, 3) := by decide +kernel
theorem dX6_numberByRounds_84 : decode cX6_numberByRounds 84 = .ok (.aload_n 0, 1) := by decide +kernel
theorem dX6_numberByRounds_85 : decode cX6_numberByRounds 85 = .ok (.invokevirtual 75, 3) := by decide +kernel
theorem dX6_numberByRounds_88 : decode cX6_numberByRounds 88 = .ok (.ifCond .ne 6, 3) := by decide +kernel
theorem dX6_numberByRounds_91 : decode cX6_numberByRounds 91 = .ok (.goto 9, 3) := by decide +kernel
theorem dX6_numberByRounds_94 : decode cX6_numberByRounds 94 = .ok (.iinc 3 1, 3) := by decide +kernel
theorem dX6_numberByRounds_97 : decode cX6_numberByRounds 97 = .ok (.goto (-20), 3) := by decide +kernel
theorem dX6_numberByRounds_100 : decode cX6_numberByRounds 100 = .ok (.aload_n 0, 1) := by decide +kernel
theorem dX6_numberByRounds_101 : decode cX6_numberByRounds 101 = .ok (.iload_n 1, 1) := by decide +kernel
theorem dX6_numberByRounds_102 : decode cX6_numberByRounds 102 = .ok (.iload_n 2, 1) := by decide +kernel
theorem dX6_numberByRounds_103 : decode cX6_numberByRounds 103 = .ok (.invokevirtual 79, 3) := by decide +kernel
theorem dX6_numberByRounds_106 : decode cX6_numberByRounds 106 = .ok (.ireturn, 1) := by decide +kernel
set_option maxRecDepth 20000 in
theorem ggX6_lowerNumbers_X5_isBound : GoodIn wsX6_lowerNumbers wsX5_isBound := goodIn_r _ [6, 7, 8, 9, 10, 5, 11, 12, 13, 14, 15, 16, 17, 18, 19, 20, 21, 56, 57, 58, 59] (by decide +kernel) (by decide +kernel)
set_option maxRecDepth 20000 in
theorem gX6_lowerNumbers_X5_isBound : GoodIn wsX6_lowerNumbers (wsV RX6 64 RX5 yX5_isBound wsX5_isBound) := goodIn_app (goodIn_of _ (by decide +kernel)) ggX6_lowerNumbers_X5_isBound
set_option maxRecDepth 20000 in
theorem ggX6_lowerNumbers_X6_greatestHeld : GoodIn wsX6_lowerNumbers wsX6_greatestHeld := goodIn_r _ [26, 27, 28, 29, 25, 30, 31, 32, 14, 15, 16, 17, 18, 33, 34, 35, 36, 1, 37, 38, 39, 40, 41, 42, 43, 5, 44, 7, 13, 19, 20, 21, 53, 54, 55, 59, 56, 57, 58] (by decide +kernel) (by decide +kernel)
set_option maxRecDepth 20000 in
theorem gX6_lowerNumbers_X6_greatestHeld : GoodIn wsX6_lowerNumbers (wsV RX6 82 RX6 yX6_greatestHeld wsX6_greatestHeld) := goodIn_app (goodIn_of _ (by decide +kernel)) ggX6_lowerNumbers_X6_greatestHeld
set_option maxRecDepth 20000 in
theorem ggX6_lowerNumbers_X6_number : GoodIn wsX6_lowerNumbers wsX6_number := goodIn_r _ [30, 31, 32, 14, 15, 16, 17, 18, 53, 54, 55, 59] (by decide +kernel) (by decide +kernel)
set_option maxRecDepth 20000 in
theorem gX6_lowerNumbers_X6_number : GoodIn wsX6_lowerNumbers (wsV RX6 79 RX6 yX6_number wsX6_number) := goodIn_app (goodIn_of _ (by decide +kernel)) ggX6_lowerNumbers_X6_number
set_option maxRecDepth 20000 in
theorem ggX6_lowerNumbers_X6_putNumber : GoodIn wsX6_lowerNumbers wsX6_putNumber := goodIn_r _ [48, 31, 49, 50, 51, 16, 52, 18, 53, 54, 55, 59] (by decide +kernel) (by decide +kernel)
set_option maxRecDepth 20000 in
theorem gX6_lowerNumbers_X6_putNumber : GoodIn wsX6_lowerNumbers (wsV RX6 71 RX6 yX6_putNumber wsX6_putNumber) := goodIn_app (goodIn_of _ (by decide +kernel)) ggX6_lowerNumbers_X6_putNumber
theorem dX6_lowerNumbers_0 : decode cX6_lowerNumbers 0 = .ok (.iconst 0, 1) := by decide +kernel
theorem dX6_lowerNumbers_1 : decode cX6_lowerNumbers 1 = .ok (.istore_n 1, 1) := by decide +kernel
theorem dX6_lowerNumbers_2 : decode cX6_lowerNumbers 2 = .ok (.iconst 0, 1) := by decide +kernel
theorem dX6_lowerNumbers_3 : decode cX6_lowerNumbers 3 = .ok (.istore_n 2, 1) := by decide +kernel
theorem dX6_lowerNumbers_4 : decode cX6_lowerNumbers 4 = .ok (.iload_n 2, 1) := by decide +kernel
theorem dX6_lowerNumbers_5 : decode cX6_lowerNumbers 5 = .ok (.aload_n 0, 1) := by decide +kernel
theorem dX6_lowerNumbers_6 : decode cX6_lowerNumbers 6 = .ok (.getfield 23, 3) := by decide +kernel
theorem dX6_lowerNumbers_9 : decode cX6_lowerNumbers 9 = .ok (.getfield 57, 3) := by decide +kernel
theorem dX6_lowerNumbers_12 : decode cX6_lowerNumbers 12 = .ok (.if_icmp .ge 79, 3) := by decide +kernel
theorem dX6_lowerNumbers_15 : decode cX6_lowerNumbers 15 = .ok (.iload_n 2, 1) := by decide +kernel
theorem dX6_lowerNumbers_16 : decode cX6_lowerNumbers 16 = .ok (.iconst 1, 1) := by decide +kernel
theorem dX6_lowerNumbers_17 : decode cX6_lowerNumbers 17 = .ok (.iadd, 1) := by decide +kernel
theorem dX6_lowerNumbers_18 : decode cX6_lowerNumbers 18 = .ok (.istore_n 3, 1) := by decide +kernel
theorem dX6_lowerNumbers_19 : decode cX6_lowerNumbers 19 = .ok (.iload_n 3, 1) := by decide +kernel
theorem dX6_lowerNumbers_20 : decode cX6_lowerNumbers 20 = .ok (.aload_n 0, 1) := by decide +kernel
theorem dX6_lowerNumbers_21 : decode cX6_lowerNumbers 21 = .ok (.getfield 23, 3) := by decide +kernel
theorem dX6_lowerNumbers_24 : decode cX6_lowerNumbers 24 = .ok (.getfield 57, 3) := by decide +kernel
theorem dX6_lowerNumbers_27 : decode cX6_lowerNumbers 27 = .ok (.if_icmp .ge 58, 3) := by decide +kernel
theorem dX6_lowerNumbers_30 : decode cX6_lowerNumbers 30 = .ok (.aload_n 0, 1) := by decide +kernel
theorem dX6_lowerNumbers_31 : decode cX6_lowerNumbers 31 = .ok (.getfield 23, 3) := by decide +kernel
theorem dX6_lowerNumbers_34 : decode cX6_lowerNumbers 34 = .ok (.iload_n 2, 1) := by decide +kernel
theorem dX6_lowerNumbers_35 : decode cX6_lowerNumbers 35 = .ok (.iload_n 3, 1) := by decide +kernel
theorem dX6_lowerNumbers_36 : decode cX6_lowerNumbers 36 = .ok (.invokevirtual 64, 3) := by decide +kernel
theorem dX6_lowerNumbers_39 : decode cX6_lowerNumbers 39 = .ok (.ifCond .eq 40, 3) := by decide +kernel
theorem dX6_lowerNumbers_42 : decode cX6_lowerNumbers 42 = .ok (.aload_n 0, 1) := by decide +kernel
theorem dX6_lowerNumbers_43 : decode cX6_lowerNumbers 43 = .ok (.iload_n 2, 1) := by decide +kernel
theorem dX6_lowerNumbers_44 : decode cX6_lowerNumbers 44 = .ok (.iload_n 3, 1) := by decide +kernel
theorem dX6_lowerNumbers_45 : decode cX6_lowerNumbers 45 = .ok (.invokevirtual 82, 3) := by decide +kernel
theorem dX6_lowerNumbers_48 : decode cX6_lowerNumbers 48 = .ok (.istore 4, 2) := by decide +kernel
theorem dX6_lowerNumbers_50 : decode cX6_lowerNumbers 50 = .ok (.iload_n 1, 1) := by decide +kernel
theorem dX6_lowerNumbers_51 : decode cX6_lowerNumbers 51 = .ok (.ifCond .ne 14, 3) := by decide +kernel
theorem dX6_lowerNumbers_54 : decode cX6_lowerNumbers 54 = .ok (.iload 4, 2) := by decide +kernel
theorem dX6_lowerNumbers_56 : decode cX6_lowerNumbers 56 = .ok (.aload_n 0, 1) := by decide +kernel
theorem dX6_lowerNumbers_57 : decode cX6_lowerNumbers 57 = .ok (.iload_n 2, 1) := by decide +kernel
theorem dX6_lowerNumbers_58 : decode cX6_lowerNumbers 58 = .ok (.iload_n 3, 1) := by decide +kernel
theorem dX6_lowerNumbers_59 : decode cX6_lowerNumbers 59 = .ok (.invokevirtual 79, 3) := by decide +kernel
theorem dX6_lowerNumbers_62 : decode cX6_lowerNumbers 62 = .ok (.if_icmp .eq 7, 3) := by decide +kernel
theorem dX6_lowerNumbers_65 : decode cX6_lowerNumbers 65 = .ok (.iconst 1, 1) := by decide +kernel
theorem dX6_lowerNumbers_66 : decode cX6_lowerNumbers 66 = .ok (.goto 4, 3) := by decide +kernel
theorem dX6_lowerNumbers_69 : decode cX6_lowerNumbers 69 = .ok (.iconst 0, 1) := by decide +kernel
theorem dX6_lowerNumbers_70 : decode cX6_lowerNumbers 70 = .ok (.istore_n 1, 1) := by decide +kernel
theorem dX6_lowerNumbers_71 : decode cX6_lowerNumbers 71 = .ok (.aload_n 0, 1) := by decide +kernel
theorem dX6_lowerNumbers_72 : decode cX6_lowerNumbers 72 = .ok (.iload_n 2, 1) := by decide +kernel
theorem dX6_lowerNumbers_73 : decode cX6_lowerNumbers 73 = .ok (.iload_n 3, 1) := by decide +kernel
theorem dX6_lowerNumbers_74 : decode cX6_lowerNumbers 74 = .ok (.iload 4, 2) := by decide +kernel
theorem dX6_lowerNumbers_76 : decode cX6_lowerNumbers 76 = .ok (.invokevirtual 71, 3) := by decide +kernel
theorem dX6_lowerNumbers_79 : decode cX6_lowerNumbers 79 = .ok (.iinc 3 1, 3) := by decide +kernel
theorem dX6_lowerNumbers_82 : decode cX6_lowerNumbers 82 = .ok (.goto (-63), 3) := by decide +kernel
theorem dX6_lowerNumbers_85 : decode cX6_lowerNumbers 85 = .ok (.iinc 2 1, 3) := by decide +kernel
theorem dX6_lowerNumbers_88 : decode cX6_lowerNumbers 88 = .ok (.goto (-84), 3) := by decide +kernel
theorem dX6_lowerNumbers_91 : decode cX6_lowerNumbers 91 = .ok (.iload_n 1, 1) := by decide +kernel
theorem dX6_lowerNumbers_92 : decode cX6_lowerNumbers 92 = .ok (.ireturn, 1) := by decide +kernel
set_option maxRecDepth 20000 in
theorem ggX6_greatestHeld_X6_number : GoodIn wsX6_greatestHeld wsX6_number := goodIn_r _ [5, 6, 7, 8, 9, 10, 11, 12, 32, 33, 34, 35] (by decide +kernel) (by decide +kernel)
set_option maxRecDepth 20000 in
theorem gX6_greatestHeld_X6_number : GoodIn wsX6_greatestHeld (wsV RX6 79 RX6 yX6_number wsX6_number) := goodIn_app (goodIn_of _ (by decide +kernel)) ggX6_greatestHeld_X6_number
set_option maxRecDepth 20000 in
theorem ggX6_greatestHeld_X6_trianglesFrom : GoodIn wsX6_greatestHeld wsX6_trianglesFrom := goodIn_r _ [16, 17, 18, 19, 20, 21, 22, 23, 24, 25, 26, 27, 28, 8, 9, 10, 11, 12, 29, 30, 31, 1, 2, 3, 4, 5, 6, 7, 32, 33, 34, 36, 37, 38, 35] (by decide +kernel) (by decide +kernel)
set_option maxRecDepth 20000 in
theorem gX6_greatestHeld_X6_trianglesFrom : GoodIn wsX6_greatestHeld (wsV RX6 85 RX6 yX6_trianglesFrom wsX6_trianglesFrom) := goodIn_app (goodIn_of _ (by decide +kernel)) ggX6_greatestHeld_X6_trianglesFrom
theorem dX6_greatestHeld_0 : decode cX6_greatestHeld 0 = .ok (.aload_n 0, 1) := by decide +kernel
theorem dX6_greatestHeld_1 : decode cX6_greatestHeld 1 = .ok (.iload_n 1, 1) := by decide +kernel
theorem dX6_greatestHeld_2 : decode cX6_greatestHeld 2 = .ok (.iload_n 2, 1) := by decide +kernel
theorem dX6_greatestHeld_3 : decode cX6_greatestHeld 3 = .ok (.invokevirtual 79, 3) := by decide +kernel
theorem dX6_greatestHeld_6 : decode cX6_greatestHeld 6 = .ok (.istore_n 3, 1) := by decide +kernel
theorem dX6_greatestHeld_7 : decode cX6_greatestHeld 7 = .ok (.iload_n 3, 1) := by decide +kernel
theorem dX6_greatestHeld_8 : decode cX6_greatestHeld 8 = .ok (.ifCond .le 22, 3) := by decide +kernel
theorem dX6_greatestHeld_11 : decode cX6_greatestHeld 11 = .ok (.aload_n 0, 1) := by decide +kernel
theorem dX6_greatestHeld_12 : decode cX6_greatestHeld 12 = .ok (.iload_n 1, 1) := by decide +kernel
theorem dX6_greatestHeld_13 : decode cX6_greatestHeld 13 = .ok (.iload_n 2, 1) := by decide +kernel
theorem dX6_greatestHeld_14 : decode cX6_greatestHeld 14 = .ok (.iload_n 3, 1) := by decide +kernel
theorem dX6_greatestHeld_15 : decode cX6_greatestHeld 15 = .ok (.invokevirtual 85, 3) := by decide +kernel
theorem dX6_greatestHeld_18 : decode cX6_greatestHeld 18 = .ok (.iload_n 3, 1) := by decide +kernel
theorem dX6_greatestHeld_19 : decode cX6_greatestHeld 19 = .ok (.if_icmp .lt 5, 3) := by decide +kernel
theorem dX6_greatestHeld_22 : decode cX6_greatestHeld 22 = .ok (.iload_n 3, 1) := by decide +kernel
theorem dX6_greatestHeld_23 : decode cX6_greatestHeld 23 = .ok (.ireturn, 1) := by decide +kernel
theorem dX6_greatestHeld_24 : decode cX6_greatestHeld 24 = .ok (.iinc 3 (-1), 3) := by decide +kernel
theorem dX6_greatestHeld_27 : decode cX6_greatestHeld 27 = .ok (.goto (-20), 3) := by decide +kernel
theorem dX6_greatestHeld_30 : decode cX6_greatestHeld 30 = .ok (.iconst 0, 1) := by decide +kernel
theorem dX6_greatestHeld_31 : decode cX6_greatestHeld 31 = .ok (.ireturn, 1) := by decide +kernel
set_option maxRecDepth 20000 in
theorem ggX6_trianglesFrom_X5_aroundBoth : GoodIn wsX6_trianglesFrom wsX5_aroundBoth := goodIn_r _ [10, 11, 12, 13, 14, 15, 16, 17, 31, 32, 33, 34] (by decide +kernel) (by decide +kernel)
set_option maxRecDepth 20000 in
theorem gX6_trianglesFrom_X5_aroundBoth : GoodIn wsX6_trianglesFrom (wsV RX6 67 RX5 yX5_aroundBoth wsX5_aroundBoth) := goodIn_app (goodIn_of _ (by decide +kernel)) ggX6_trianglesFrom_X5_aroundBoth
set_option maxRecDepth 20000 in
theorem ggX6_trianglesFrom_X7_in : GoodIn wsX6_trianglesFrom wsX7_in := goodIn_r _ [20] (by decide +kernel) (by decide +kernel)
set_option maxRecDepth 20000 in
theorem gX6_trianglesFrom_X7_in_n40 : GoodIn wsX6_trianglesFrom (wsX7_in) := ggX6_trianglesFrom_X7_in
set_option maxRecDepth 20000 in
theorem ggX6_trianglesFrom_X6_number : GoodIn wsX6_trianglesFrom wsX6_number := goodIn_r _ [25, 26, 27, 13, 14, 15, 16, 17, 28, 29, 30, 34] (by decide +kernel) (by decide +kernel)
set_option maxRecDepth 20000 in
theorem gX6_trianglesFrom_X6_number : GoodIn wsX6_trianglesFrom (wsV RX6 79 RX6 yX6_number wsX6_number) := goodIn_app (goodIn_of _ (by decide +kernel)) ggX6_trianglesFrom_X6_number
theorem dX6_trianglesFrom_0 : decode cX6_trianglesFrom 0 = .ok (.iconst 0, 1) := by decide +kernel
theorem dX6_trianglesFrom_1 : decode cX6_trianglesFrom 1 = .ok (.istore 4, 2) := by decide +kernel
theorem dX6_trianglesFrom_3 : decode cX6_trianglesFrom 3 = .ok (.aload_n 0, 1) := by decide +kernel
theorem dX6_trianglesFrom_4 : decode cX6_trianglesFrom 4 = .ok (.getfield 23, 3) := by decide +kernel
theorem dX6_trianglesFrom_7 : decode cX6_trianglesFrom 7 = .ok (.iload_n 1, 1) := by decide +kernel
theorem dX6_trianglesFrom_8 : decode cX6_trianglesFrom 8 = .ok (.iload_n 2, 1) := by decide +kernel
theorem dX6_trianglesFrom_9 : decode cX6_trianglesFrom 9 = .ok (.invokevirtual 67, 3) := by decide +kernel
theorem dX6_trianglesFrom_12 : decode cX6_trianglesFrom 12 = .ok (.istore 5, 2) := by decide +kernel
theorem dX6_trianglesFrom_14 : decode cX6_trianglesFrom 14 = .ok (.iconst 0, 1) := by decide +kernel
theorem dX6_trianglesFrom_15 : decode cX6_trianglesFrom 15 = .ok (.istore 6, 2) := by decide +kernel
theorem dX6_trianglesFrom_17 : decode cX6_trianglesFrom 17 = .ok (.iload 6, 2) := by decide +kernel
theorem dX6_trianglesFrom_19 : decode cX6_trianglesFrom 19 = .ok (.aload_n 0, 1) := by decide +kernel
theorem dX6_trianglesFrom_20 : decode cX6_trianglesFrom 20 = .ok (.getfield 23, 3) := by decide +kernel
theorem dX6_trianglesFrom_23 : decode cX6_trianglesFrom 23 = .ok (.getfield 57, 3) := by decide +kernel
theorem dX6_trianglesFrom_26 : decode cX6_trianglesFrom 26 = .ok (.if_icmp .ge 43, 3) := by decide +kernel
theorem dX6_trianglesFrom_29 : decode cX6_trianglesFrom 29 = .ok (.iload 5, 2) := by decide +kernel
theorem dX6_trianglesFrom_31 : decode cX6_trianglesFrom 31 = .ok (.iload 6, 2) := by decide +kernel
theorem dX6_trianglesFrom_33 : decode cX6_trianglesFrom 33 = .ok (.invokestatic 40, 3) := by decide +kernel
theorem dX6_trianglesFrom_36 : decode cX6_trianglesFrom 36 = .ok (.ifCond .eq 27, 3) := by decide +kernel
theorem dX6_trianglesFrom_39 : decode cX6_trianglesFrom 39 = .ok (.aload_n 0, 1) := by decide +kernel
theorem dX6_trianglesFrom_40 : decode cX6_trianglesFrom 40 = .ok (.iload_n 1, 1) := by decide +kernel
theorem dX6_trianglesFrom_41 : decode cX6_trianglesFrom 41 = .ok (.iload 6, 2) := by decide +kernel
theorem dX6_trianglesFrom_43 : decode cX6_trianglesFrom 43 = .ok (.invokevirtual 79, 3) := by decide +kernel
theorem dX6_trianglesFrom_46 : decode cX6_trianglesFrom 46 = .ok (.aload_n 0, 1) := by decide +kernel
theorem dX6_trianglesFrom_47 : decode cX6_trianglesFrom 47 = .ok (.iload_n 2, 1) := by decide +kernel
theorem dX6_trianglesFrom_48 : decode cX6_trianglesFrom 48 = .ok (.iload 6, 2) := by decide +kernel
theorem dX6_trianglesFrom_50 : decode cX6_trianglesFrom 50 = .ok (.invokevirtual 79, 3) := by decide +kernel
theorem dX6_trianglesFrom_53 : decode cX6_trianglesFrom 53 = .ok (.invokestatic 89, 3) := by decide +kernel
theorem dX6_trianglesFrom_56 : decode cX6_trianglesFrom 56 = .ok (.iload_n 3, 1) := by decide +kernel
theorem dX6_trianglesFrom_57 : decode cX6_trianglesFrom 57 = .ok (.if_icmp .lt 6, 3) := by decide +kernel
theorem dX6_trianglesFrom_60 : decode cX6_trianglesFrom 60 = .ok (.iinc 4 1, 3) := by decide +kernel
theorem dX6_trianglesFrom_63 : decode cX6_trianglesFrom 63 = .ok (.iinc 6 1, 3) := by decide +kernel
theorem dX6_trianglesFrom_66 : decode cX6_trianglesFrom 66 = .ok (.goto (-49), 3) := by decide +kernel
theorem dX6_trianglesFrom_69 : decode cX6_trianglesFrom 69 = .ok (.iload 4, 2) := by decide +kernel
theorem dX6_trianglesFrom_71 : decode cX6_trianglesFrom 71 = .ok (.ireturn, 1) := by decide +kernel
set_option maxRecDepth 20000 in
theorem ggX6_number_X3_at : GoodIn wsX6_number wsX3_at := goodIn_r _ [6, 7, 11] (by decide +kernel) (by decide +kernel)
set_option maxRecDepth 20000 in
theorem gX6_number_X3_at : GoodIn wsX6_number (wsV RX6 33 RX3 yX3_at wsX3_at) := goodIn_app (goodIn_of _ (by decide +kernel)) ggX6_number_X3_at
theorem dX6_number_0 : decode cX6_number 0 = .ok (.aload_n 0, 1) := by decide +kernel
theorem dX6_number_1 : decode cX6_number 1 = .ok (.getfield 20, 3) := by decide +kernel
theorem dX6_number_4 : decode cX6_number 4 = .ok (.iload_n 1, 1) := by decide +kernel
theorem dX6_number_5 : decode cX6_number 5 = .ok (.bipush 16, 2) := by decide +kernel
theorem dX6_number_7 : decode cX6_number 7 = .ok (.imul, 1) := by decide +kernel
theorem dX6_number_8 : decode cX6_number 8 = .ok (.iload_n 2, 1) := by decide +kernel
theorem dX6_number_9 : decode cX6_number 9 = .ok (.iadd, 1) := by decide +kernel
theorem dX6_number_10 : decode cX6_number 10 = .ok (.invokevirtual 33, 3) := by decide +kernel
theorem dX6_number_13 : decode cX6_number 13 = .ok (.ireturn, 1) := by decide +kernel
set_option maxRecDepth 20000 in
theorem ggX6_putNumber_X3_put : GoodIn wsX6_putNumber wsX3_put := goodIn_r _ [6, 7, 11] (by decide +kernel) (by decide +kernel)
set_option maxRecDepth 20000 in
theorem gX6_putNumber_X3_put : GoodIn wsX6_putNumber (wsV RX6 49 RX3 yX3_put wsX3_put) := goodIn_app (goodIn_of _ (by decide +kernel)) ggX6_putNumber_X3_put
theorem dX6_putNumber_0 : decode cX6_putNumber 0 = .ok (.aload_n 0, 1) := by decide +kernel
theorem dX6_putNumber_1 : decode cX6_putNumber 1 = .ok (.getfield 20, 3) := by decide +kernel
theorem dX6_putNumber_4 : decode cX6_putNumber 4 = .ok (.iload_n 1, 1) := by decide +kernel
theorem dX6_putNumber_5 : decode cX6_putNumber 5 = .ok (.bipush 16, 2) := by decide +kernel
theorem dX6_putNumber_7 : decode cX6_putNumber 7 = .ok (.imul, 1) := by decide +kernel
theorem dX6_putNumber_8 : decode cX6_putNumber 8 = .ok (.iload_n 2, 1) := by decide +kernel
theorem dX6_putNumber_9 : decode cX6_putNumber 9 = .ok (.iadd, 1) := by decide +kernel
theorem dX6_putNumber_10 : decode cX6_putNumber 10 = .ok (.iload_n 3, 1) := by decide +kernel
theorem dX6_putNumber_11 : decode cX6_putNumber 11 = .ok (.invokevirtual 49, 3) := by decide +kernel
theorem dX6_putNumber_14 : decode cX6_putNumber 14 = .ok (.aload_n 0, 1) := by decide +kernel
theorem dX6_putNumber_15 : decode cX6_putNumber 15 = .ok (.getfield 20, 3) := by decide +kernel
theorem dX6_putNumber_18 : decode cX6_putNumber 18 = .ok (.iload_n 2, 1) := by decide +kernel
theorem dX6_putNumber_19 : decode cX6_putNumber 19 = .ok (.bipush 16, 2) := by decide +kernel
theorem dX6_putNumber_21 : decode cX6_putNumber 21 = .ok (.imul, 1) := by decide +kernel
theorem dX6_putNumber_22 : decode cX6_putNumber 22 = .ok (.iload_n 1, 1) := by decide +kernel
theorem dX6_putNumber_23 : decode cX6_putNumber 23 = .ok (.iadd, 1) := by decide +kernel
theorem dX6_putNumber_24 : decode cX6_putNumber 24 = .ok (.iload_n 3, 1) := by decide +kernel
theorem dX6_putNumber_25 : decode cX6_putNumber 25 = .ok (.invokevirtual 49, 3) := by decide +kernel
theorem dX6_putNumber_28 : decode cX6_putNumber 28 = .ok (.return_, 1) := by decide +kernel
set_option maxRecDepth 20000 in
theorem ggX7_init_X5_init : GoodIn wsX7_init wsX5_init := goodIn_r _ [34, 35, 2, 3, 36, 37, 38, 17, 18, 39, 40, 41, 42, 43, 44, 45, 46, 47, 48, 49, 92, 93, 94, 108] (by decide +kernel) (by decide +kernel)
set_option maxRecDepth 20000 in
theorem gX7_init_X5_init_n9 : GoodIn wsX7_init (wsX5_init) := ggX7_init_X5_init
set_option maxRecDepth 20000 in
theorem ggX7_init_X4_init : GoodIn wsX7_init wsX4_init := goodIn_r _ [51, 52, 2, 3, 53, 17, 18, 54, 55, 56, 41, 42, 43, 44, 45, 46, 47, 48, 49, 108, 103, 104] (by decide +kernel) (by decide +kernel)
set_option maxRecDepth 20000 in
theorem gX7_init_X4_init_n18 : GoodIn wsX7_init (wsX4_init) := ggX7_init_X4_init
set_option maxRecDepth 20000 in
theorem ggX7_init_X2_init : GoodIn wsX7_init wsX2_init := goodIn_r _ [58, 59, 2, 3, 60, 17, 18, 61, 62, 63, 64, 41, 42, 43, 44, 45, 46, 47, 48, 49, 108, 105, 106, 107] (by decide +kernel) (by decide +kernel)
set_option maxRecDepth 20000 in
theorem gX7_init_X2_init_n25 : GoodIn wsX7_init (wsX2_init) := ggX7_init_X2_init
set_option maxRecDepth 20000 in
theorem ggX7_init_X3_init : GoodIn wsX7_init wsX3_init := goodIn_r _ [42, 43, 2, 3, 44, 45, 46, 47, 48, 49, 108] (by decide +kernel) (by decide +kernel)
set_option maxRecDepth 20000 in
theorem gX7_init_X3_init : GoodIn wsX7_init (wsX3_init) := ggX7_init_X3_init
set_option maxRecDepth 20000 in
theorem ggX7_init_X0_init : GoodIn wsX7_init wsX0_init := goodIn_r _ [68, 69, 2, 3, 70, 17, 18, 71, 72, 73, 41, 42, 43, 44, 45, 46, 47, 48, 49, 108, 109, 110] (by decide +kernel) (by decide +kernel)
set_option maxRecDepth 20000 in
theorem gX7_init_X0_init : GoodIn wsX7_init (wsX0_init) := ggX7_init_X0_init
set_option maxRecDepth 20000 in
theorem ggX7_init_X6_init : GoodIn wsX7_init wsX6_init := goodIn_r _ [76, 77, 2, 3, 78, 17, 18, 79, 80, 81, 82, 41, 42, 43, 44, 45, 46, 47, 48, 49, 108, 111, 112, 113] (by decide +kernel) (by decide +kernel)
set_option maxRecDepth 20000 in
theorem gX7_init_X6_init : GoodIn wsX7_init (wsX6_init) := ggX7_init_X6_init
set_option maxRecDepth 20000 in
theorem ggX7_init_X1_init : GoodIn wsX7_init wsX1_init := goodIn_r _ [85, 86, 2, 3, 87, 17, 18, 88, 89, 90, 91, 41, 42, 43, 44, 45, 46, 47, 48, 49, 108, 114, 115, 116] (by decide +kernel) (by decide +kernel)
set_option maxRecDepth 20000 in
theorem gX7_init_X1_init : GoodIn wsX7_init (wsX1_init) := ggX7_init_X1_init
theorem dX7_init_0 : decode cX7_init 0 = .ok (.aload_n 0, 1) := by decide +kernel
theorem dX7_init_1 : decode cX7_init 1 = .ok (.invokespecial 1, 3) := by decide +kernel
theorem dX7_init_4 : decode cX7_init 4 = .ok (.aload_n 0, 1) := by decide +kernel
theorem dX7_init_5 : decode cX7_init 5 = .ok (.new 7, 3) := by decide +kernel
theorem dX7_init_8 : decode cX7_init 8 = .ok (.dup, 1) := by decide +kernel
theorem dX7_init_9 : decode cX7_init 9 = .ok (.invokespecial 9, 3) := by decide +kernel
theorem dX7_init_12 : decode cX7_init 12 = .ok (.putfield 10, 3) := by decide +kernel
theorem dX7_init_15 : decode cX7_init 15 = .ok (.aload_n 0, 1) := by decide +kernel
theorem dX7_init_16 : decode cX7_init 16 = .ok (.new 16, 3) := by decide +kernel
theorem dX7_init_19 : decode cX7_init 19 = .ok (.dup, 1) := by decide +kernel
theorem dX7_init_20 : decode cX7_init 20 = .ok (.invokespecial 18, 3) := by decide +kernel
theorem dX7_init_23 : decode cX7_init 23 = .ok (.putfield 19, 3) := by decide +kernel
theorem dX7_init_26 : decode cX7_init 26 = .ok (.aload_n 0, 1) := by decide +kernel
theorem dX7_init_27 : decode cX7_init 27 = .ok (.new 23, 3) := by decide +kernel
theorem dX7_init_30 : decode cX7_init 30 = .ok (.dup, 1) := by decide +kernel
theorem dX7_init_31 : decode cX7_init 31 = .ok (.invokespecial 25, 3) := by decide +kernel
theorem dX7_init_34 : decode cX7_init 34 = .ok (.putfield 26, 3) := by decide +kernel
theorem dX7_init_37 : decode cX7_init 37 = .ok (.aload_n 0, 1) := by decide +kernel
theorem dX7_init_38 : decode cX7_init 38 = .ok (.new 30, 3) := by decide +kernel
theorem dX7_init_41 : decode cX7_init 41 = .ok (.dup, 1) := by decide +kernel
theorem dX7_init_42 : decode cX7_init 42 = .ok (.bipush 18, 2) := by decide +kernel
theorem dX7_init_44 : decode cX7_init 44 = .ok (.invokespecial 32, 3) := by decide +kernel
theorem dX7_init_47 : decode cX7_init 47 = .ok (.putfield 35, 3) := by decide +kernel
theorem dX7_init_50 : decode cX7_init 50 = .ok (.aload_n 0, 1) := by decide +kernel
theorem dX7_init_51 : decode cX7_init 51 = .ok (.iconst 0, 1) := by decide +kernel
theorem dX7_init_52 : decode cX7_init 52 = .ok (.putfield 39, 3) := by decide +kernel
theorem dX7_init_55 : decode cX7_init 55 = .ok (.aload_n 0, 1) := by decide +kernel
theorem dX7_init_56 : decode cX7_init 56 = .ok (.new 43, 3) := by decide +kernel
theorem dX7_init_59 : decode cX7_init 59 = .ok (.dup, 1) := by decide +kernel
theorem dX7_init_60 : decode cX7_init 60 = .ok (.aload_n 0, 1) := by decide +kernel
theorem dX7_init_61 : decode cX7_init 61 = .ok (.getfield 10, 3) := by decide +kernel
theorem dX7_init_64 : decode cX7_init 64 = .ok (.invokespecial 45, 3) := by decide +kernel
theorem dX7_init_67 : decode cX7_init 67 = .ok (.putfield 48, 3) := by decide +kernel
theorem dX7_init_70 : decode cX7_init 70 = .ok (.aload_n 0, 1) := by decide +kernel
theorem dX7_init_71 : decode cX7_init 71 = .ok (.new 52, 3) := by decide +kernel
theorem dX7_init_74 : decode cX7_init 74 = .ok (.dup, 1) := by decide +kernel
theorem dX7_init_75 : decode cX7_init 75 = .ok (.aload_n 0, 1) := by decide +kernel
theorem dX7_init_76 : decode cX7_init 76 = .ok (.getfield 10, 3) := by decide +kernel
theorem dX7_init_79 : decode cX7_init 79 = .ok (.invokespecial 54, 3) := by decide +kernel
theorem dX7_init_82 : decode cX7_init 82 = .ok (.putfield 55, 3) := by decide +kernel
theorem dX7_init_85 : decode cX7_init 85 = .ok (.aload_n 0, 1) := by decide +kernel
theorem dX7_init_86 : decode cX7_init 86 = .ok (.new 59, 3) := by decide +kernel
theorem dX7_init_89 : decode cX7_init 89 = .ok (.dup, 1) := by decide +kernel
theorem dX7_init_90 : decode cX7_init 90 = .ok (.aload_n 0, 1) := by decide +kernel
theorem dX7_init_91 : decode cX7_init 91 = .ok (.getfield 10, 3) := by decide +kernel
theorem dX7_init_94 : decode cX7_init 94 = .ok (.invokespecial 61, 3) := by decide +kernel
theorem dX7_init_97 : decode cX7_init 97 = .ok (.putfield 62, 3) := by decide +kernel
theorem dX7_init_100 : decode cX7_init 100 = .ok (.return_, 1) := by decide +kernel
set_option maxRecDepth 20000 in
theorem ggX7_plant_X5_isFull : GoodIn wsX7_plant wsX5_isFull := goodIn_r _ [9, 10, 52, 53, 54] (by decide +kernel) (by decide +kernel)
set_option maxRecDepth 20000 in
theorem gX7_plant_X5_isFull : GoodIn wsX7_plant (wsV RX7 66 RX5 yX5_isFull wsX5_isFull) := goodIn_app (goodIn_of _ (by decide +kernel)) ggX7_plant_X5_isFull
set_option maxRecDepth 20000 in
theorem ggX7_plant_X2_remember : GoodIn wsX7_plant wsX2_remember := goodIn_r _ [15, 16, 17, 18, 19, 20, 21, 14, 22, 23, 24, 25, 8, 26, 10, 27, 28, 29, 30, 31, 32, 33, 34, 35, 36, 37, 38, 55, 56, 57, 52, 53, 54, 58] (by decide +kernel) (by decide +kernel)
set_option maxRecDepth 20000 in
theorem gX7_plant_X2_remember : GoodIn wsX7_plant (wsV RX7 77 RX2 yX2_remember wsX2_remember) := goodIn_app (goodIn_of _ (by decide +kernel)) ggX7_plant_X2_remember
set_option maxRecDepth 20000 in
theorem ggX7_plant_X5_grow : GoodIn wsX7_plant wsX5_grow := goodIn_r _ [42, 10, 43, 6, 7, 8, 9, 52, 53, 54] (by decide +kernel) (by decide +kernel)
set_option maxRecDepth 20000 in
theorem gX7_plant_X5_grow : GoodIn wsX7_plant (wsV RX7 80 RX5 yX5_grow wsX5_grow) := goodIn_app (goodIn_of _ (by decide +kernel)) ggX7_plant_X5_grow
theorem dX7_plant_0 : decode cX7_plant 0 = .ok (.aload_n 0, 1) := by decide +kernel
theorem dX7_plant_1 : decode cX7_plant 1 = .ok (.getfield 10, 3) := by decide +kernel
theorem dX7_plant_4 : decode cX7_plant 4 = .ok (.invokevirtual 66, 3) := by decide +kernel
theorem dX7_plant_7 : decode cX7_plant 7 = .ok (.ifCond .eq 13, 3) := by decide +kernel
theorem dX7_plant_10 : decode cX7_plant 10 = .ok (.new 70, 3) := by decide +kernel
theorem dX7_plant_13 : decode cX7_plant 13 = .ok (.dup, 1) := by decide +kernel
theorem dX7_plant_14 : decode cX7_plant 14 = .ok (.ldc 72, 2) := by decide +kernel
theorem dX7_plant_16 : decode cX7_plant 16 = .ok (.invokespecial 74, 3) := by decide +kernel
theorem dX7_plant_19 : decode cX7_plant 19 = .ok (.athrow, 1) := by decide +kernel
theorem dX7_plant_20 : decode cX7_plant 20 = .ok (.aload_n 0, 1) := by decide +kernel
theorem dX7_plant_21 : decode cX7_plant 21 = .ok (.getfield 26, 3) := by decide +kernel
theorem dX7_plant_24 : decode cX7_plant 24 = .ok (.aload_n 0, 1) := by decide +kernel
theorem dX7_plant_25 : decode cX7_plant 25 = .ok (.getfield 10, 3) := by decide +kernel
theorem dX7_plant_28 : decode cX7_plant 28 = .ok (.invokevirtual 77, 3) := by decide +kernel
theorem dX7_plant_31 : decode cX7_plant 31 = .ok (.aload_n 0, 1) := by decide +kernel
theorem dX7_plant_32 : decode cX7_plant 32 = .ok (.getfield 10, 3) := by decide +kernel
theorem dX7_plant_35 : decode cX7_plant 35 = .ok (.invokevirtual 80, 3) := by decide +kernel
theorem dX7_plant_38 : decode cX7_plant 38 = .ok (.pop, 1) := by decide +kernel
theorem dX7_plant_39 : decode cX7_plant 39 = .ok (.aload_n 0, 1) := by decide +kernel
theorem dX7_plant_40 : decode cX7_plant 40 = .ok (.getfield 10, 3) := by decide +kernel
theorem dX7_plant_43 : decode cX7_plant 43 = .ok (.getfield 83, 3) := by decide +kernel
theorem dX7_plant_46 : decode cX7_plant 46 = .ok (.iconst 1, 1) := by decide +kernel
theorem dX7_plant_47 : decode cX7_plant 47 = .ok (.isub, 1) := by decide +kernel
theorem dX7_plant_48 : decode cX7_plant 48 = .ok (.ireturn, 1) := by decide +kernel
set_option maxRecDepth 20000 in
theorem ggX7_uproot_X7_demandPlant : GoodIn wsX7_uproot wsX7_demandPlant := goodIn_ca (goodIn_r _ [7, 8, 9, 2, 10, 11, 12, 13, 14, 15, 67, 68, 69, 70, 71, 72, 73, 74, 75, 76, 77] (by decide +kernel) (by decide +kernel)) (goodIn_sub (fun _ h => List.mem_cons_of_mem _ (List.mem_append_right _ h)) (by decide +kernel))
set_option maxRecDepth 20000 in
theorem gX7_uproot_X7_demandPlant : GoodIn wsX7_uproot (wsV RX7 87 RX7 yX7_demandPlant wsX7_demandPlant) := goodIn_app (goodIn_of _ (by decide +kernel)) ggX7_uproot_X7_demandPlant
set_option maxRecDepth 20000 in
theorem ggX7_uproot_X2_remember : GoodIn wsX7_uproot wsX2_remember := goodIn_r _ [20, 21, 22, 23, 24, 25, 26, 19, 27, 28, 29, 30, 13, 31, 15, 32, 33, 34, 35, 36, 37, 38, 39, 40, 41, 42, 43, 78, 79, 80, 75, 76, 77, 81] (by decide +kernel) (by decide +kernel)
set_option maxRecDepth 20000 in
theorem gX7_uproot_X2_remember : GoodIn wsX7_uproot (wsV RX7 77 RX2 yX2_remember wsX2_remember) := goodIn_app (goodIn_of _ (by decide +kernel)) ggX7_uproot_X2_remember
set_option maxRecDepth 20000 in
theorem ggX7_uproot_X5_held : GoodIn wsX7_uproot wsX5_held := goodIn_r _ [47, 33, 40, 41, 42, 37, 43, 39, 48, 6, 49, 50, 51, 52, 53, 54, 55, 56, 75, 76, 77, 81] (by decide +kernel) (by decide +kernel)
set_option maxRecDepth 20000 in
theorem gX7_uproot_X5_held : GoodIn wsX7_uproot (wsV RX7 90 RX5 yX5_held wsX5_held) := goodIn_app (goodIn_of _ (by decide +kernel)) ggX7_uproot_X5_held
set_option maxRecDepth 20000 in
theorem ggX7_uproot_X5_pullOut : GoodIn wsX7_uproot wsX5_pullOut := goodIn_r _ [60, 33, 32, 15, 61, 11, 12, 13, 14, 40, 41, 42, 37, 43, 39, 34, 35, 36, 38, 62, 63, 64, 65, 6, 66, 75, 76, 77, 81] (by decide +kernel) (by decide +kernel)
set_option maxRecDepth 20000 in
theorem gX7_uproot_X5_pullOut : GoodIn wsX7_uproot (wsV RX7 94 RX5 yX5_pullOut wsX5_pullOut) := goodIn_app (goodIn_of _ (by decide +kernel)) ggX7_uproot_X5_pullOut
theorem dX7_uproot_0 : decode cX7_uproot 0 = .ok (.aload_n 0, 1) := by decide +kernel
theorem dX7_uproot_1 : decode cX7_uproot 1 = .ok (.iload_n 1, 1) := by decide +kernel
theorem dX7_uproot_2 : decode cX7_uproot 2 = .ok (.invokevirtual 87, 3) := by decide +kernel
theorem dX7_uproot_5 : decode cX7_uproot 5 = .ok (.aload_n 0, 1) := by decide +kernel
theorem dX7_uproot_6 : decode cX7_uproot 6 = .ok (.getfield 26, 3) := by decide +kernel
theorem dX7_uproot_9 : decode cX7_uproot 9 = .ok (.aload_n 0, 1) := by decide +kernel
theorem dX7_uproot_10 : decode cX7_uproot 10 = .ok (.getfield 10, 3) := by decide +kernel
theorem dX7_uproot_13 : decode cX7_uproot 13 = .ok (.invokevirtual 77, 3) := by decide +kernel
theorem dX7_uproot_16 : decode cX7_uproot 16 = .ok (.aload_n 0, 1) := by decide +kernel
theorem dX7_uproot_17 : decode cX7_uproot 17 = .ok (.getfield 10, 3) := by decide +kernel
theorem dX7_uproot_20 : decode cX7_uproot 20 = .ok (.iload_n 1, 1) := by decide +kernel
theorem dX7_uproot_21 : decode cX7_uproot 21 = .ok (.invokevirtual 90, 3) := by decide +kernel
theorem dX7_uproot_24 : decode cX7_uproot 24 = .ok (.istore_n 2, 1) := by decide +kernel
theorem dX7_uproot_25 : decode cX7_uproot 25 = .ok (.aload_n 0, 1) := by decide +kernel
theorem dX7_uproot_26 : decode cX7_uproot 26 = .ok (.getfield 10, 3) := by decide +kernel
theorem dX7_uproot_29 : decode cX7_uproot 29 = .ok (.iload_n 1, 1) := by decide +kernel
theorem dX7_uproot_30 : decode cX7_uproot 30 = .ok (.invokevirtual 94, 3) := by decide +kernel
theorem dX7_uproot_33 : decode cX7_uproot 33 = .ok (.iload_n 2, 1) := by decide +kernel
theorem dX7_uproot_34 : decode cX7_uproot 34 = .ok (.ireturn, 1) := by decide +kernel
set_option maxRecDepth 20000 in
theorem ggX7_bind_X7_demandTwoPlants : GoodIn wsX7_bind wsX7_demandTwoPlants := goodIn_ca (goodIn_ca (goodIn_r _ [9, 10, 11, 12, 13, 14, 8, 15, 16, 17, 3, 18, 19, 20, 21, 22, 23, 79, 80, 81, 82, 83, 84, 85, 86, 87, 88, 89] (by decide +kernel) (by decide +kernel)) (goodIn_sub (fun _ h => List.mem_cons_of_mem _ (List.mem_append_left _ (List.mem_append_right _ h))) (by decide +kernel))) (goodIn_sub (fun _ h => List.mem_cons_of_mem _ (List.mem_append_right _ h)) (by decide +kernel))
set_option maxRecDepth 20000 in
theorem gX7_bind_X7_demandTwoPlants : GoodIn wsX7_bind (wsV RX7 97 RX7 yX7_demandTwoPlants wsX7_demandTwoPlants) := goodIn_app (goodIn_of _ (by decide +kernel)) ggX7_bind_X7_demandTwoPlants
set_option maxRecDepth 20000 in
theorem ggX7_bind_X5_isBound : GoodIn wsX7_bind wsX5_isBound := goodIn_r _ [27, 28, 29, 19, 20, 21, 22, 23, 30, 31, 32, 33, 34, 35, 36, 8, 37, 87, 88, 89, 90] (by decide +kernel) (by decide +kernel)
set_option maxRecDepth 20000 in
theorem gX7_bind_X5_isBound : GoodIn wsX7_bind (wsV RX7 101 RX5 yX5_isBound wsX5_isBound) := goodIn_app (goodIn_of _ (by decide +kernel)) ggX7_bind_X5_isBound
set_option maxRecDepth 20000 in
theorem ggX7_bind_X2_remember : GoodIn wsX7_bind wsX2_remember := goodIn_r _ [42, 43, 44, 45, 46, 47, 48, 41, 49, 50, 51, 52, 21, 53, 23, 54, 28, 55, 56, 57, 33, 58, 35, 30, 31, 32, 34, 91, 92, 93, 87, 88, 89, 90] (by decide +kernel) (by decide +kernel)
set_option maxRecDepth 20000 in
theorem gX7_bind_X2_remember : GoodIn wsX7_bind (wsV RX7 77 RX2 yX2_remember wsX2_remember) := goodIn_app (goodIn_of _ (by decide +kernel)) ggX7_bind_X2_remember
set_option maxRecDepth 20000 in
theorem ggX7_bind_X5_tie : GoodIn wsX7_bind wsX5_tie := goodIn_r _ [62, 28, 29, 19, 20, 21, 22, 23, 63, 25, 26, 27, 30, 31, 32, 33, 34, 35, 36, 8, 37, 64, 65, 55, 56, 57, 58, 87, 88, 89, 90] (by decide +kernel) (by decide +kernel)
set_option maxRecDepth 20000 in
theorem gX7_bind_X5_tie : GoodIn wsX7_bind (wsV RX7 107 RX5 yX5_tie wsX5_tie) := goodIn_app (goodIn_of _ (by decide +kernel)) ggX7_bind_X5_tie
set_option maxRecDepth 20000 in
theorem ggX7_bind_X5_held : GoodIn wsX7_bind wsX5_held := goodIn_r _ [69, 28, 30, 31, 32, 33, 34, 35, 70, 8, 71, 72, 73, 74, 75, 76, 77, 78, 87, 88, 89, 90] (by decide +kernel) (by decide +kernel)
set_option maxRecDepth 20000 in
theorem gX7_bind_X5_held : GoodIn wsX7_bind (wsV RX7 90 RX5 yX5_held wsX5_held) := goodIn_app (goodIn_of _ (by decide +kernel)) ggX7_bind_X5_held
theorem dX7_bind_0 : decode cX7_bind 0 = .ok (.aload_n 0, 1) := by decide +kernel
theorem dX7_bind_1 : decode cX7_bind 1 = .ok (.iload_n 1, 1) := by decide +kernel
theorem dX7_bind_2 : decode cX7_bind 2 = .ok (.iload_n 2, 1) := by decide +kernel
theorem dX7_bind_3 : decode cX7_bind 3 = .ok (.invokevirtual 97, 3) := by decide +kernel
theorem dX7_bind_6 : decode cX7_bind 6 = .ok (.aload_n 0, 1) := by decide +kernel
theorem dX7_bind_7 : decode cX7_bind 7 = .ok (.getfield 10, 3) := by decide +kernel
theorem dX7_bind_10 : decode cX7_bind 10 = .ok (.iload_n 1, 1) := by decide +kernel
theorem dX7_bind_11 : decode cX7_bind 11 = .ok (.iload_n 2, 1) := by decide +kernel
theorem dX7_bind_12 : decode cX7_bind 12 = .ok (.invokevirtual 101, 3) := by decide +kernel
theorem dX7_bind_15 : decode cX7_bind 15 = .ok (.ifCond .eq 13, 3) := by decide +kernel
theorem dX7_bind_18 : decode cX7_bind 18 = .ok (.new 70, 3) := by decide +kernel
theorem dX7_bind_21 : decode cX7_bind 21 = .ok (.dup, 1) := by decide +kernel
theorem dX7_bind_22 : decode cX7_bind 22 = .ok (.ldc 105, 2) := by decide +kernel
theorem dX7_bind_24 : decode cX7_bind 24 = .ok (.invokespecial 74, 3) := by decide +kernel
theorem dX7_bind_27 : decode cX7_bind 27 = .ok (.athrow, 1) := by decide +kernel
theorem dX7_bind_28 : decode cX7_bind 28 = .ok (.aload_n 0, 1) := by decide +kernel
theorem dX7_bind_29 : decode cX7_bind 29 = .ok (.getfield 26, 3) := by decide +kernel
theorem dX7_bind_32 : decode cX7_bind 32 = .ok (.aload_n 0, 1) := by decide +kernel
theorem dX7_bind_33 : decode cX7_bind 33 = .ok (.getfield 10, 3) := by decide +kernel
theorem dX7_bind_36 : decode cX7_bind 36 = .ok (.invokevirtual 77, 3) := by decide +kernel
theorem dX7_bind_39 : decode cX7_bind 39 = .ok (.aload_n 0, 1) := by decide +kernel
theorem dX7_bind_40 : decode cX7_bind 40 = .ok (.getfield 10, 3) := by decide +kernel
theorem dX7_bind_43 : decode cX7_bind 43 = .ok (.iload_n 1, 1) := by decide +kernel
theorem dX7_bind_44 : decode cX7_bind 44 = .ok (.iload_n 2, 1) := by decide +kernel
theorem dX7_bind_45 : decode cX7_bind 45 = .ok (.invokevirtual 107, 3) := by decide +kernel
theorem dX7_bind_48 : decode cX7_bind 48 = .ok (.pop, 1) := by decide +kernel
theorem dX7_bind_49 : decode cX7_bind 49 = .ok (.aload_n 0, 1) := by decide +kernel
theorem dX7_bind_50 : decode cX7_bind 50 = .ok (.getfield 10, 3) := by decide +kernel
theorem dX7_bind_53 : decode cX7_bind 53 = .ok (.iload_n 1, 1) := by decide +kernel
theorem dX7_bind_54 : decode cX7_bind 54 = .ok (.invokevirtual 90, 3) := by decide +kernel
theorem dX7_bind_57 : decode cX7_bind 57 = .ok (.ireturn, 1) := by decide +kernel
set_option maxRecDepth 20000 in
theorem ggX7_cut_X7_demandTwoPlants : GoodIn wsX7_cut wsX7_demandTwoPlants := goodIn_ca (goodIn_ca (goodIn_r _ [9, 10, 11, 12, 13, 14, 8, 15, 16, 17, 3, 18, 19, 20, 21, 22, 23, 79, 80, 81, 82, 83, 84, 85, 86, 87, 88, 89] (by decide +kernel) (by decide +kernel)) (goodIn_sub (fun _ h => List.mem_cons_of_mem _ (List.mem_append_left _ (List.mem_append_right _ h))) (by decide +kernel))) (goodIn_sub (fun _ h => List.mem_cons_of_mem _ (List.mem_append_right _ h)) (by decide +kernel))
set_option maxRecDepth 20000 in
theorem gX7_cut_X7_demandTwoPlants : GoodIn wsX7_cut (wsV RX7 97 RX7 yX7_demandTwoPlants wsX7_demandTwoPlants) := goodIn_app (goodIn_of _ (by decide +kernel)) ggX7_cut_X7_demandTwoPlants
set_option maxRecDepth 20000 in
theorem ggX7_cut_X5_isBound : GoodIn wsX7_cut wsX5_isBound := goodIn_r _ [27, 28, 29, 19, 20, 21, 22, 23, 30, 31, 32, 33, 34, 35, 36, 8, 37, 87, 88, 89, 90] (by decide +kernel) (by decide +kernel)
set_option maxRecDepth 20000 in
theorem gX7_cut_X5_isBound : GoodIn wsX7_cut (wsV RX7 101 RX5 yX5_isBound wsX5_isBound) := goodIn_app (goodIn_of _ (by decide +kernel)) ggX7_cut_X5_isBound
set_option maxRecDepth 20000 in
theorem ggX7_cut_X2_remember : GoodIn wsX7_cut wsX2_remember := goodIn_r _ [42, 43, 44, 45, 46, 47, 48, 41, 49, 50, 51, 52, 21, 53, 23, 54, 28, 55, 56, 57, 33, 58, 35, 30, 31, 32, 34, 91, 92, 93, 87, 88, 89, 90] (by decide +kernel) (by decide +kernel)
set_option maxRecDepth 20000 in
theorem gX7_cut_X2_remember : GoodIn wsX7_cut (wsV RX7 77 RX2 yX2_remember wsX2_remember) := goodIn_app (goodIn_of _ (by decide +kernel)) ggX7_cut_X2_remember
set_option maxRecDepth 20000 in
theorem ggX7_cut_X5_untie : GoodIn wsX7_cut wsX5_untie := goodIn_r _ [62, 28, 63, 25, 26, 21, 27, 29, 19, 20, 22, 23, 30, 31, 32, 33, 34, 35, 36, 8, 37, 64, 65, 55, 56, 57, 58, 87, 88, 89, 90] (by decide +kernel) (by decide +kernel)
set_option maxRecDepth 20000 in
theorem gX7_cut_X5_untie : GoodIn wsX7_cut (wsV RX7 112 RX5 yX5_untie wsX5_untie) := goodIn_app (goodIn_of _ (by decide +kernel)) ggX7_cut_X5_untie
set_option maxRecDepth 20000 in
theorem ggX7_cut_X5_held : GoodIn wsX7_cut wsX5_held := goodIn_r _ [69, 28, 30, 31, 32, 33, 34, 35, 70, 8, 71, 72, 73, 74, 75, 76, 77, 78, 87, 88, 89, 90] (by decide +kernel) (by decide +kernel)
set_option maxRecDepth 20000 in
theorem gX7_cut_X5_held : GoodIn wsX7_cut (wsV RX7 90 RX5 yX5_held wsX5_held) := goodIn_app (goodIn_of _ (by decide +kernel)) ggX7_cut_X5_held
theorem dX7_cut_0 : decode cX7_cut 0 = .ok (.aload_n 0, 1) := by decide +kernel
theorem dX7_cut_1 : decode cX7_cut 1 = .ok (.iload_n 1, 1) := by decide +kernel
theorem dX7_cut_2 : decode cX7_cut 2 = .ok (.iload_n 2, 1) := by decide +kernel
theorem dX7_cut_3 : decode cX7_cut 3 = .ok (.invokevirtual 97, 3) := by decide +kernel
theorem dX7_cut_6 : decode cX7_cut 6 = .ok (.aload_n 0, 1) := by decide +kernel
theorem dX7_cut_7 : decode cX7_cut 7 = .ok (.getfield 10, 3) := by decide +kernel
theorem dX7_cut_10 : decode cX7_cut 10 = .ok (.iload_n 1, 1) := by decide +kernel
theorem dX7_cut_11 : decode cX7_cut 11 = .ok (.iload_n 2, 1) := by decide +kernel
theorem dX7_cut_12 : decode cX7_cut 12 = .ok (.invokevirtual 101, 3) := by decide +kernel
theorem dX7_cut_15 : decode cX7_cut 15 = .ok (.ifCond .ne 13, 3) := by decide +kernel
theorem dX7_cut_18 : decode cX7_cut 18 = .ok (.new 70, 3) := by decide +kernel
theorem dX7_cut_21 : decode cX7_cut 21 = .ok (.dup, 1) := by decide +kernel
theorem dX7_cut_22 : decode cX7_cut 22 = .ok (.ldc 110, 2) := by decide +kernel
theorem dX7_cut_24 : decode cX7_cut 24 = .ok (.invokespecial 74, 3) := by decide +kernel
theorem dX7_cut_27 : decode cX7_cut 27 = .ok (.athrow, 1) := by decide +kernel
theorem dX7_cut_28 : decode cX7_cut 28 = .ok (.aload_n 0, 1) := by decide +kernel
theorem dX7_cut_29 : decode cX7_cut 29 = .ok (.getfield 26, 3) := by decide +kernel
theorem dX7_cut_32 : decode cX7_cut 32 = .ok (.aload_n 0, 1) := by decide +kernel
theorem dX7_cut_33 : decode cX7_cut 33 = .ok (.getfield 10, 3) := by decide +kernel
theorem dX7_cut_36 : decode cX7_cut 36 = .ok (.invokevirtual 77, 3) := by decide +kernel
theorem dX7_cut_39 : decode cX7_cut 39 = .ok (.aload_n 0, 1) := by decide +kernel
theorem dX7_cut_40 : decode cX7_cut 40 = .ok (.getfield 10, 3) := by decide +kernel
theorem dX7_cut_43 : decode cX7_cut 43 = .ok (.iload_n 1, 1) := by decide +kernel
theorem dX7_cut_44 : decode cX7_cut 44 = .ok (.iload_n 2, 1) := by decide +kernel
theorem dX7_cut_45 : decode cX7_cut 45 = .ok (.invokevirtual 112, 3) := by decide +kernel
theorem dX7_cut_48 : decode cX7_cut 48 = .ok (.pop, 1) := by decide +kernel
theorem dX7_cut_49 : decode cX7_cut 49 = .ok (.aload_n 0, 1) := by decide +kernel
theorem dX7_cut_50 : decode cX7_cut 50 = .ok (.getfield 10, 3) := by decide +kernel
theorem dX7_cut_53 : decode cX7_cut 53 = .ok (.iload_n 1, 1) := by decide +kernel
theorem dX7_cut_54 : decode cX7_cut 54 = .ok (.invokevirtual 90, 3) := by decide +kernel
theorem dX7_cut_57 : decode cX7_cut 57 = .ok (.ireturn, 1) := by decide +kernel
set_option maxRecDepth 20000 in
theorem ggX7_switchProp_X7_demandPlant : GoodIn wsX7_switchProp wsX7_demandPlant := goodIn_ca (goodIn_r _ [7, 8, 9, 2, 10, 11, 12, 13, 14, 15, 57, 58, 59, 60, 61, 62, 63, 64, 65, 66, 67] (by decide +kernel) (by decide +kernel)) (goodIn_sub (fun _ h => List.mem_cons_of_mem _ (List.mem_append_right _ h)) (by decide +kernel))
set_option maxRecDepth 20000 in
theorem gX7_switchProp_X7_demandPlant : GoodIn wsX7_switchProp (wsV RX7 87 RX7 yX7_demandPlant wsX7_demandPlant) := goodIn_app (goodIn_of _ (by decide +kernel)) ggX7_switchProp_X7_demandPlant
set_option maxRecDepth 20000 in
theorem ggX7_switchProp_X2_remember : GoodIn wsX7_switchProp wsX2_remember := goodIn_r _ [20, 21, 22, 23, 24, 25, 26, 19, 27, 28, 29, 30, 13, 31, 15, 32, 33, 34, 35, 36, 37, 38, 39, 40, 41, 42, 43, 68, 69, 70, 65, 66, 67, 71] (by decide +kernel) (by decide +kernel)
set_option maxRecDepth 20000 in
theorem gX7_switchProp_X2_remember : GoodIn wsX7_switchProp (wsV RX7 77 RX2 yX2_remember wsX2_remember) := goodIn_app (goodIn_of _ (by decide +kernel)) ggX7_switchProp_X2_remember
set_option maxRecDepth 20000 in
theorem ggX7_switchProp_X5_turnProp : GoodIn wsX7_switchProp wsX5_turnProp := goodIn_r _ [47, 32, 48, 11, 12, 13, 14, 15, 49, 6, 50, 65, 66, 67] (by decide +kernel) (by decide +kernel)
set_option maxRecDepth 20000 in
theorem gX7_switchProp_X5_turnProp : GoodIn wsX7_switchProp (wsV RX7 115 RX5 yX5_turnProp wsX5_turnProp) := goodIn_app (goodIn_of _ (by decide +kernel)) ggX7_switchProp_X5_turnProp
set_option maxRecDepth 20000 in
theorem ggX7_switchProp_X5_hasProp : GoodIn wsX7_switchProp wsX5_hasProp := goodIn_r _ [54, 32, 48, 11, 12, 13, 14, 15, 55, 6, 56, 65, 66, 67] (by decide +kernel) (by decide +kernel)
set_option maxRecDepth 20000 in
theorem gX7_switchProp_X5_hasProp : GoodIn wsX7_switchProp (wsV RX7 119 RX5 yX5_hasProp wsX5_hasProp) := goodIn_app (goodIn_of _ (by decide +kernel)) ggX7_switchProp_X5_hasProp
theorem dX7_switchProp_0 : decode cX7_switchProp 0 = .ok (.aload_n 0, 1) := by decide +kernel
theorem dX7_switchProp_1 : decode cX7_switchProp 1 = .ok (.iload_n 1, 1) := by decide +kernel
theorem dX7_switchProp_2 : decode cX7_switchProp 2 = .ok (.invokevirtual 87, 3) := by decide +kernel
theorem dX7_switchProp_5 : decode cX7_switchProp 5 = .ok (.aload_n 0, 1) := by decide +kernel
theorem dX7_switchProp_6 : decode cX7_switchProp 6 = .ok (.getfield 26, 3) := by decide +kernel
theorem dX7_switchProp_9 : decode cX7_switchProp 9 = .ok (.aload_n 0, 1) := by decide +kernel
theorem dX7_switchProp_10 : decode cX7_switchProp 10 = .ok (.getfield 10, 3) := by decide +kernel
theorem dX7_switchProp_13 : decode cX7_switchProp 13 = .ok (.invokevirtual 77, 3) := by decide +kernel
theorem dX7_switchProp_16 : decode cX7_switchProp 16 = .ok (.aload_n 0, 1) := by decide +kernel
theorem dX7_switchProp_17 : decode cX7_switchProp 17 = .ok (.getfield 10, 3) := by decide +kernel
theorem dX7_switchProp_20 : decode cX7_switchProp 20 = .ok (.iload_n 1, 1) := by decide +kernel
theorem dX7_switchProp_21 : decode cX7_switchProp 21 = .ok (.invokevirtual 115, 3) := by decide +kernel
theorem dX7_switchProp_24 : decode cX7_switchProp 24 = .ok (.pop, 1) := by decide +kernel
theorem dX7_switchProp_25 : decode cX7_switchProp 25 = .ok (.aload_n 0, 1) := by decide +kernel
theorem dX7_switchProp_26 : decode cX7_switchProp 26 = .ok (.getfield 10, 3) := by decide +kernel
theorem dX7_switchProp_29 : decode cX7_switchProp 29 = .ok (.iload_n 1, 1) := by decide +kernel
theorem dX7_switchProp_30 : decode cX7_switchProp 30 = .ok (.invokevirtual 119, 3) := by decide +kernel
theorem dX7_switchProp_33 : decode cX7_switchProp 33 = .ok (.ireturn, 1) := by decide +kernel
theorem dX7_plantCount_0 : decode cX7_plantCount 0 = .ok (.aload_n 0, 1) := by decide +kernel
theorem dX7_plantCount_1 : decode cX7_plantCount 1 = .ok (.getfield 10, 3) := by decide +kernel
theorem dX7_plantCount_4 : decode cX7_plantCount 4 = .ok (.getfield 83, 3) := by decide +kernel
theorem dX7_plantCount_7 : decode cX7_plantCount 7 = .ok (.ireturn, 1) := by decide +kernel
set_option maxRecDepth 20000 in
theorem ggX7_thornCount_X5_allThorns : GoodIn wsX7_thornCount wsX5_allThorns := goodIn_r _ [6, 7, 8, 9, 10, 5, 11, 12, 13, 14, 15, 16, 17, 18, 19, 20, 21, 22, 23, 24, 25, 26, 27, 28, 37, 38, 39, 40] (by decide +kernel) (by decide +kernel)
set_option maxRecDepth 20000 in
theorem gX7_thornCount_X5_allThorns : GoodIn wsX7_thornCount (wsV RX7 170 RX5 yX5_allThorns wsX5_allThorns) := goodIn_app (goodIn_of _ (by decide +kernel)) ggX7_thornCount_X5_allThorns
theorem dX7_thornCount_0 : decode cX7_thornCount 0 = .ok (.aload_n 0, 1) := by decide +kernel
theorem dX7_thornCount_1 : decode cX7_thornCount 1 = .ok (.getfield 10, 3) := by decide +kernel
theorem dX7_thornCount_4 : decode cX7_thornCount 4 = .ok (.invokevirtual 170, 3) := by decide +kernel
theorem dX7_thornCount_7 : decode cX7_thornCount 7 = .ok (.ireturn, 1) := by decide +kernel
set_option maxRecDepth 20000 in
theorem ggX7_neighbors_X7_demandPlant : GoodIn wsX7_neighbors wsX7_demandPlant := goodIn_ca (goodIn_r _ [6, 7, 8, 1, 9, 10, 11, 12, 13, 14, 26, 27, 28, 29, 30, 31, 32, 33, 34, 35, 36] (by decide +kernel) (by decide +kernel)) (goodIn_sub (fun _ h => List.mem_cons_of_mem _ (List.mem_append_right _ h)) (by decide +kernel))
set_option maxRecDepth 20000 in
theorem gX7_neighbors_X7_demandPlant : GoodIn wsX7_neighbors (wsV RX7 87 RX7 yX7_demandPlant wsX7_demandPlant) := goodIn_app (goodIn_of _ (by decide +kernel)) ggX7_neighbors_X7_demandPlant
set_option maxRecDepth 20000 in
theorem ggX7_neighbors_X5_around : GoodIn wsX7_neighbors wsX5_around := goodIn_r _ [18, 19, 20, 21, 22, 23, 24, 25, 34, 35, 36, 37] (by decide +kernel) (by decide +kernel)
set_option maxRecDepth 20000 in
theorem gX7_neighbors_X5_around : GoodIn wsX7_neighbors (wsV RX7 173 RX5 yX5_around wsX5_around) := goodIn_app (goodIn_of _ (by decide +kernel)) ggX7_neighbors_X5_around
theorem dX7_neighbors_0 : decode cX7_neighbors 0 = .ok (.aload_n 0, 1) := by decide +kernel
theorem dX7_neighbors_1 : decode cX7_neighbors 1 = .ok (.iload_n 1, 1) := by decide +kernel
theorem dX7_neighbors_2 : decode cX7_neighbors 2 = .ok (.invokevirtual 87, 3) := by decide +kernel
theorem dX7_neighbors_5 : decode cX7_neighbors 5 = .ok (.aload_n 0, 1) := by decide +kernel
theorem dX7_neighbors_6 : decode cX7_neighbors 6 = .ok (.getfield 10, 3) := by decide +kernel
theorem dX7_neighbors_9 : decode cX7_neighbors 9 = .ok (.iload_n 1, 1) := by decide +kernel
theorem dX7_neighbors_10 : decode cX7_neighbors 10 = .ok (.invokevirtual 173, 3) := by decide +kernel
theorem dX7_neighbors_13 : decode cX7_neighbors 13 = .ok (.ireturn, 1) := by decide +kernel
set_option maxRecDepth 20000 in
theorem ggX7_isPropped_X7_demandPlant : GoodIn wsX7_isPropped wsX7_demandPlant := goodIn_ca (goodIn_r _ [6, 7, 8, 1, 9, 10, 11, 12, 13, 14, 23, 24, 25, 26, 27, 28, 29, 30, 31, 32, 33] (by decide +kernel) (by decide +kernel)) (goodIn_sub (fun _ h => List.mem_cons_of_mem _ (List.mem_append_right _ h)) (by decide +kernel))
set_option maxRecDepth 20000 in
theorem gX7_isPropped_X7_demandPlant : GoodIn wsX7_isPropped (wsV RX7 87 RX7 yX7_demandPlant wsX7_demandPlant) := goodIn_app (goodIn_of _ (by decide +kernel)) ggX7_isPropped_X7_demandPlant
set_option maxRecDepth 20000 in
theorem ggX7_isPropped_X5_hasProp : GoodIn wsX7_isPropped wsX5_hasProp := goodIn_r _ [18, 19, 20, 10, 11, 12, 13, 14, 21, 5, 22, 31, 32, 33] (by decide +kernel) (by decide +kernel)
set_option maxRecDepth 20000 in
theorem gX7_isPropped_X5_hasProp : GoodIn wsX7_isPropped (wsV RX7 119 RX5 yX5_hasProp wsX5_hasProp) := goodIn_app (goodIn_of _ (by decide +kernel)) ggX7_isPropped_X5_hasProp
theorem dX7_isPropped_0 : decode cX7_isPropped 0 = .ok (.aload_n 0, 1) := by decide +kernel
theorem dX7_isPropped_1 : decode cX7_isPropped 1 = .ok (.iload_n 1, 1) := by decide +kernel
theorem dX7_isPropped_2 : decode cX7_isPropped 2 = .ok (.invokevirtual 87, 3) := by decide +kernel
theorem dX7_isPropped_5 : decode cX7_isPropped 5 = .ok (.aload_n 0, 1) := by decide +kernel
theorem dX7_isPropped_6 : decode cX7_isPropped 6 = .ok (.getfield 10, 3) := by decide +kernel
theorem dX7_isPropped_9 : decode cX7_isPropped 9 = .ok (.iload_n 1, 1) := by decide +kernel
theorem dX7_isPropped_10 : decode cX7_isPropped 10 = .ok (.invokevirtual 119, 3) := by decide +kernel
theorem dX7_isPropped_13 : decode cX7_isPropped 13 = .ok (.ireturn, 1) := by decide +kernel
set_option maxRecDepth 20000 in
theorem ggX7_triangles_X5_isTriangle : GoodIn wsX7_triangles wsX5_isTriangle := goodIn_r _ [6, 7, 8, 9, 5, 10, 11, 12, 13, 14, 15, 16, 17, 18, 19, 20, 21, 22, 23, 24, 25, 34, 35, 36, 37] (by decide +kernel) (by decide +kernel)
set_option maxRecDepth 20000 in
theorem gX7_triangles_X5_isTriangle : GoodIn wsX7_triangles (wsV RX7 176 RX5 yX5_isTriangle wsX5_isTriangle) := goodIn_app (goodIn_of _ (by decide +kernel)) ggX7_triangles_X5_isTriangle
theorem dX7_triangles_0 : decode cX7_triangles 0 = .ok (.iconst 0, 1) := by decide +kernel
theorem dX7_triangles_1 : decode cX7_triangles 1 = .ok (.istore_n 1, 1) := by decide +kernel
theorem dX7_triangles_2 : decode cX7_triangles 2 = .ok (.iconst 0, 1) := by decide +kernel
theorem dX7_triangles_3 : decode cX7_triangles 3 = .ok (.istore_n 2, 1) := by decide +kernel
theorem dX7_triangles_4 : decode cX7_triangles 4 = .ok (.iload_n 2, 1) := by decide +kernel
theorem dX7_triangles_5 : decode cX7_triangles 5 = .ok (.aload_n 0, 1) := by decide +kernel
theorem dX7_triangles_6 : decode cX7_triangles 6 = .ok (.getfield 10, 3) := by decide +kernel
theorem dX7_triangles_9 : decode cX7_triangles 9 = .ok (.getfield 83, 3) := by decide +kernel
theorem dX7_triangles_12 : decode cX7_triangles 12 = .ok (.if_icmp .ge 70, 3) := by decide +kernel
theorem dX7_triangles_15 : decode cX7_triangles 15 = .ok (.iload_n 2, 1) := by decide +kernel
theorem dX7_triangles_16 : decode cX7_triangles 16 = .ok (.iconst 1, 1) := by decide +kernel
theorem dX7_triangles_17 : decode cX7_triangles 17 = .ok (.iadd, 1) := by decide +kernel
theorem dX7_triangles_18 : decode cX7_triangles 18 = .ok (.istore_n 3, 1) := by decide +kernel
theorem dX7_triangles_19 : decode cX7_triangles 19 = .ok (.iload_n 3, 1) := by decide +kernel
theorem dX7_triangles_20 : decode cX7_triangles 20 = .ok (.aload_n 0, 1) := by decide +kernel
theorem dX7_triangles_21 : decode cX7_triangles 21 = .ok (.getfield 10, 3) := by decide +kernel
theorem dX7_triangles_24 : decode cX7_triangles 24 = .ok (.getfield 83, 3) := by decide +kernel
theorem dX7_triangles_27 : decode cX7_triangles 27 = .ok (.if_icmp .ge 49, 3) := by decide +kernel
theorem dX7_triangles_30 : decode cX7_triangles 30 = .ok (.iload_n 3, 1) := by decide +kernel
theorem dX7_triangles_31 : decode cX7_triangles 31 = .ok (.iconst 1, 1) := by decide +kernel
theorem dX7_triangles_32 : decode cX7_triangles 32 = .ok (.iadd, 1) := by decide +kernel
theorem dX7_triangles_33 : decode cX7_triangles 33 = .ok (.istore 4, 2) := by decide +kernel
theorem dX7_triangles_35 : decode cX7_triangles 35 = .ok (.iload 4, 2) := by decide +kernel
theorem dX7_triangles_37 : decode cX7_triangles 37 = .ok (.aload_n 0, 1) := by decide +kernel
theorem dX7_triangles_38 : decode cX7_triangles 38 = .ok (.getfield 10, 3) := by decide +kernel
theorem dX7_triangles_41 : decode cX7_triangles 41 = .ok (.getfield 83, 3) := by decide +kernel
theorem dX7_triangles_44 : decode cX7_triangles 44 = .ok (.if_icmp .ge 26, 3) := by decide +kernel
theorem dX7_triangles_47 : decode cX7_triangles 47 = .ok (.aload_n 0, 1) := by decide +kernel
theorem dX7_triangles_48 : decode cX7_triangles 48 = .ok (.getfield 10, 3) := by decide +kernel
theorem dX7_triangles_51 : decode cX7_triangles 51 = .ok (.iload_n 2, 1) := by decide +kernel
theorem dX7_triangles_52 : decode cX7_triangles 52 = .ok (.iload_n 3, 1) := by decide +kernel
theorem dX7_triangles_53 : decode cX7_triangles 53 = .ok (.iload 4, 2) := by decide +kernel
theorem dX7_triangles_55 : decode cX7_triangles 55 = .ok (.invokevirtual 176, 3) := by decide +kernel
theorem dX7_triangles_58 : decode cX7_triangles 58 = .ok (.ifCond .eq 6, 3) := by decide +kernel
theorem dX7_triangles_61 : decode cX7_triangles 61 = .ok (.iinc 1 1, 3) := by decide +kernel
theorem dX7_triangles_64 : decode cX7_triangles 64 = .ok (.iinc 4 1, 3) := by decide +kernel
theorem dX7_triangles_67 : decode cX7_triangles 67 = .ok (.goto (-32), 3) := by decide +kernel
theorem dX7_triangles_70 : decode cX7_triangles 70 = .ok (.iinc 3 1, 3) := by decide +kernel
theorem dX7_triangles_73 : decode cX7_triangles 73 = .ok (.goto (-54), 3) := by decide +kernel
theorem dX7_triangles_76 : decode cX7_triangles 76 = .ok (.iinc 2 1, 3) := by decide +kernel
theorem dX7_triangles_79 : decode cX7_triangles 79 = .ok (.goto (-75), 3) := by decide +kernel
theorem dX7_triangles_82 : decode cX7_triangles 82 = .ok (.iload_n 1, 1) := by decide +kernel
theorem dX7_triangles_83 : decode cX7_triangles 83 = .ok (.ireturn, 1) := by decide +kernel
set_option maxRecDepth 20000 in
theorem ggX7_trianglesBySupport_X5_isBound : GoodIn wsX7_trianglesBySupport wsX5_isBound := goodIn_r _ [6, 7, 8, 9, 10, 5, 11, 12, 13, 14, 15, 16, 17, 18, 19, 20, 21, 44, 45, 46, 47] (by decide +kernel) (by decide +kernel)
set_option maxRecDepth 20000 in
theorem gX7_trianglesBySupport_X5_isBound : GoodIn wsX7_trianglesBySupport (wsV RX7 101 RX5 yX5_isBound wsX5_isBound) := goodIn_app (goodIn_of _ (by decide +kernel)) ggX7_trianglesBySupport_X5_isBound
set_option maxRecDepth 20000 in
theorem ggX7_trianglesBySupport_X5_aroundBoth : GoodIn wsX7_trianglesBySupport wsX5_aroundBoth := goodIn_r _ [25, 7, 13, 14, 15, 16, 17, 18, 44, 45, 46, 47] (by decide +kernel) (by decide +kernel)
set_option maxRecDepth 20000 in
theorem gX7_trianglesBySupport_X5_aroundBoth : GoodIn wsX7_trianglesBySupport (wsV RX7 180 RX5 yX5_aroundBoth wsX5_aroundBoth) := goodIn_app (goodIn_of _ (by decide +kernel)) ggX7_trianglesBySupport_X5_aroundBoth
set_option maxRecDepth 20000 in
theorem ggX7_trianglesBySupport_X7_bits : GoodIn wsX7_trianglesBySupport wsX7_bits := goodIn_r _ [28, 29, 30, 31, 32, 33, 34, 35] (by decide +kernel) (by decide +kernel)
set_option maxRecDepth 20000 in
theorem gX7_trianglesBySupport_X7_bits : GoodIn wsX7_trianglesBySupport (va_wsS RX7 184 yX7_bits wsX7_bits) := goodIn_app (goodIn_of _ (by decide +kernel)) ggX7_trianglesBySupport_X7_bits
theorem dX7_trianglesBySupport_0 : decode cX7_trianglesBySupport 0 = .ok (.iconst 0, 1) := by decide +kernel
theorem dX7_trianglesBySupport_1 : decode cX7_trianglesBySupport 1 = .ok (.istore_n 1, 1) := by decide +kernel
theorem dX7_trianglesBySupport_2 : decode cX7_trianglesBySupport 2 = .ok (.iconst 0, 1) := by decide +kernel
theorem dX7_trianglesBySupport_3 : decode cX7_trianglesBySupport 3 = .ok (.istore_n 2, 1) := by decide +kernel
theorem dX7_trianglesBySupport_4 : decode cX7_trianglesBySupport 4 = .ok (.iload_n 2, 1) := by decide +kernel
theorem dX7_trianglesBySupport_5 : decode cX7_trianglesBySupport 5 = .ok (.aload_n 0, 1) := by decide +kernel
theorem dX7_trianglesBySupport_6 : decode cX7_trianglesBySupport 6 = .ok (.getfield 10, 3) := by decide +kernel
theorem dX7_trianglesBySupport_9 : decode cX7_trianglesBySupport 9 = .ok (.getfield 83, 3) := by decide +kernel
theorem dX7_trianglesBySupport_12 : decode cX7_trianglesBySupport 12 = .ok (.if_icmp .ge 57, 3) := by decide +kernel
theorem dX7_trianglesBySupport_15 : decode cX7_trianglesBySupport 15 = .ok (.iload_n 2, 1) := by decide +kernel
theorem dX7_trianglesBySupport_16 : decode cX7_trianglesBySupport 16 = .ok (.iconst 1, 1) := by decide +kernel
theorem dX7_trianglesBySupport_17 : decode cX7_trianglesBySupport 17 = .ok (.iadd, 1) := by decide +kernel
theorem dX7_trianglesBySupport_18 : decode cX7_trianglesBySupport 18 = .ok (.istore_n 3, 1) := by decide +kernel
theorem dX7_trianglesBySupport_19 : decode cX7_trianglesBySupport 19 = .ok (.iload_n 3, 1) := by decide +kernel
theorem dX7_trianglesBySupport_20 : decode cX7_trianglesBySupport 20 = .ok (.aload_n 0, 1) := by decide +kernel
theorem dX7_trianglesBySupport_21 : decode cX7_trianglesBySupport 21 = .ok (.getfield 10, 3) := by decide +kernel
theorem dX7_trianglesBySupport_24 : decode cX7_trianglesBySupport 24 = .ok (.getfield 83, 3) := by decide +kernel
theorem dX7_trianglesBySupport_27 : decode cX7_trianglesBySupport 27 = .ok (.if_icmp .ge 36, 3) := by decide +kernel
theorem dX7_trianglesBySupport_30 : decode cX7_trianglesBySupport 30 = .ok (.aload_n 0, 1) := by decide +kernel
theorem dX7_trianglesBySupport_31 : decode cX7_trianglesBySupport 31 = .ok (.getfield 10, 3) := by decide +kernel
theorem dX7_trianglesBySupport_34 : decode cX7_trianglesBySupport 34 = .ok (.iload_n 2, 1) := by decide +kernel
theorem dX7_trianglesBySupport_35 : decode cX7_trianglesBySupport 35 = .ok (.iload_n 3, 1) := by decide +kernel
theorem dX7_trianglesBySupport_36 : decode cX7_trianglesBySupport 36 = .ok (.invokevirtual 101, 3) := by decide +kernel
theorem dX7_trianglesBySupport_39 : decode cX7_trianglesBySupport 39 = .ok (.ifCond .eq 18, 3) := by decide +kernel
theorem dX7_trianglesBySupport_42 : decode cX7_trianglesBySupport 42 = .ok (.iload_n 1, 1) := by decide +kernel
theorem dX7_trianglesBySupport_43 : decode cX7_trianglesBySupport 43 = .ok (.aload_n 0, 1) := by decide +kernel
theorem dX7_trianglesBySupport_44 : decode cX7_trianglesBySupport 44 = .ok (.getfield 10, 3) := by decide +kernel
theorem dX7_trianglesBySupport_47 : decode cX7_trianglesBySupport 47 = .ok (.iload_n 2, 1) := by decide +kernel
theorem dX7_trianglesBySupport_48 : decode cX7_trianglesBySupport 48 = .ok (.iload_n 3, 1) := by decide +kernel
theorem dX7_trianglesBySupport_49 : decode cX7_trianglesBySupport 49 = .ok (.invokevirtual 180, 3) := by decide +kernel
theorem dX7_trianglesBySupport_52 : decode cX7_trianglesBySupport 52 = .ok (.invokestatic 184, 3) := by decide +kernel
theorem dX7_trianglesBySupport_55 : decode cX7_trianglesBySupport 55 = .ok (.iadd, 1) := by decide +kernel
theorem dX7_trianglesBySupport_56 : decode cX7_trianglesBySupport 56 = .ok (.istore_n 1, 1) := by decide +kernel
theorem dX7_trianglesBySupport_57 : decode cX7_trianglesBySupport 57 = .ok (.iinc 3 1, 3) := by decide +kernel
theorem dX7_trianglesBySupport_60 : decode cX7_trianglesBySupport 60 = .ok (.goto (-41), 3) := by decide +kernel
theorem dX7_trianglesBySupport_63 : decode cX7_trianglesBySupport 63 = .ok (.iinc 2 1, 3) := by decide +kernel
theorem dX7_trianglesBySupport_66 : decode cX7_trianglesBySupport 66 = .ok (.goto (-62), 3) := by decide +kernel
theorem dX7_trianglesBySupport_69 : decode cX7_trianglesBySupport 69 = .ok (.iload_n 1, 1) := by decide +kernel
theorem dX7_trianglesBySupport_70 : decode cX7_trianglesBySupport 70 = .ok (.iconst 3, 1) := by decide +kernel
theorem dX7_trianglesBySupport_71 : decode cX7_trianglesBySupport 71 = .ok (.idiv, 1) := by decide +kernel
theorem dX7_trianglesBySupport_72 : decode cX7_trianglesBySupport 72 = .ok (.ireturn, 1) := by decide +kernel
set_option maxRecDepth 20000 in
theorem ggX7_core_X7_demandK : GoodIn wsX7_core wsX7_demandK := goodIn_ca (goodIn_r _ [7, 8, 9] (by decide +kernel) (by decide +kernel)) (goodIn_sub (fun _ h => List.mem_cons_of_mem _ (List.mem_append_right _ h)) (by decide +kernel))
set_option maxRecDepth 20000 in
theorem gX7_core_X7_demandK : GoodIn wsX7_core (wsV RX7 187 RX7 yX7_demandK wsX7_demandK) := goodIn_app (goodIn_of _ (by decide +kernel)) ggX7_core_X7_demandK
set_option maxRecDepth 20000 in
theorem ggX7_core_X5_plants : GoodIn wsX7_core wsX5_plants := goodIn_r _ [14, 15, 16, 6, 17, 58, 59, 60] (by decide +kernel) (by decide +kernel)
set_option maxRecDepth 20000 in
theorem gX7_core_X5_plants : GoodIn wsX7_core (wsV RX7 190 RX5 yX5_plants wsX5_plants) := goodIn_app (goodIn_of _ (by decide +kernel)) ggX7_core_X5_plants
set_option maxRecDepth 20000 in
theorem ggX7_core_X0_left : GoodIn wsX7_core wsX0_left := goodIn_r _ [22, 23, 24, 25, 21, 26, 27, 28, 6, 29, 30, 31, 32, 13, 33, 34, 35, 36, 37, 38, 39, 40, 41, 42, 43, 44, 45, 46, 47, 48, 49, 16, 17, 61, 62, 58, 59, 60, 63] (by decide +kernel) (by decide +kernel)
set_option maxRecDepth 20000 in
theorem gX7_core_X0_left : GoodIn wsX7_core (wsV RX7 196 RX0 yX0_left wsX0_left) := goodIn_app (goodIn_of _ (by decide +kernel)) ggX7_core_X0_left
theorem dX7_core_0 : decode cX7_core 0 = .ok (.aload_n 0, 1) := by decide +kernel
theorem dX7_core_1 : decode cX7_core 1 = .ok (.iload_n 1, 1) := by decide +kernel
theorem dX7_core_2 : decode cX7_core 2 = .ok (.invokevirtual 187, 3) := by decide +kernel
theorem dX7_core_5 : decode cX7_core 5 = .ok (.aload_n 0, 1) := by decide +kernel
theorem dX7_core_6 : decode cX7_core 6 = .ok (.getfield 48, 3) := by decide +kernel
theorem dX7_core_9 : decode cX7_core 9 = .ok (.aload_n 0, 1) := by decide +kernel
theorem dX7_core_10 : decode cX7_core 10 = .ok (.getfield 10, 3) := by decide +kernel
theorem dX7_core_13 : decode cX7_core 13 = .ok (.invokevirtual 190, 3) := by decide +kernel
theorem dX7_core_16 : decode cX7_core 16 = .ok (.aload_n 0, 1) := by decide +kernel
theorem dX7_core_17 : decode cX7_core 17 = .ok (.getfield 10, 3) := by decide +kernel
theorem dX7_core_20 : decode cX7_core 20 = .ok (.getfield 193, 3) := by decide +kernel
theorem dX7_core_23 : decode cX7_core 23 = .ok (.iload_n 1, 1) := by decide +kernel
theorem dX7_core_24 : decode cX7_core 24 = .ok (.invokevirtual 196, 3) := by decide +kernel
theorem dX7_core_27 : decode cX7_core 27 = .ok (.ireturn, 1) := by decide +kernel
set_option maxRecDepth 20000 in
theorem ggX7_coreOf_X7_demandPlant : GoodIn wsX7_coreOf wsX7_demandPlant := goodIn_ca (goodIn_r _ [6, 7, 8, 9, 10, 11, 12, 13, 14, 15, 58, 59, 60, 61, 62, 63, 64, 65, 66, 67, 68] (by decide +kernel) (by decide +kernel)) (goodIn_sub (fun _ h => List.mem_cons_of_mem _ (List.mem_append_right _ h)) (by decide +kernel))
set_option maxRecDepth 20000 in
theorem gX7_coreOf_X7_demandPlant : GoodIn wsX7_coreOf (wsV RX7 87 RX7 yX7_demandPlant wsX7_demandPlant) := goodIn_app (goodIn_of _ (by decide +kernel)) ggX7_coreOf_X7_demandPlant
set_option maxRecDepth 20000 in
theorem ggX7_coreOf_X0_numberByPeeling : GoodIn wsX7_coreOf wsX0_numberByPeeling := goodIn_r _ [20, 21, 22, 23, 24, 13, 25, 15, 26, 5, 27, 28, 29, 30, 19, 31, 32, 33, 34, 35, 36, 37, 38, 39, 40, 41, 42, 43, 44, 45, 46, 47, 48, 49, 50, 51, 52, 53, 54, 55, 56, 57, 69, 70, 66, 67, 68, 71] (by decide +kernel) (by decide +kernel)
set_option maxRecDepth 20000 in
theorem gX7_coreOf_X0_numberByPeeling : GoodIn wsX7_coreOf (wsV RX7 200 RX0 yX0_numberByPeeling wsX0_numberByPeeling) := goodIn_app (goodIn_of _ (by decide +kernel)) ggX7_coreOf_X0_numberByPeeling
theorem dX7_coreOf_0 : decode cX7_coreOf 0 = .ok (.aload_n 0, 1) := by decide +kernel
theorem dX7_coreOf_1 : decode cX7_coreOf 1 = .ok (.iload_n 1, 1) := by decide +kernel
theorem dX7_coreOf_2 : decode cX7_coreOf 2 = .ok (.invokevirtual 87, 3) := by decide +kernel
theorem dX7_coreOf_5 : decode cX7_coreOf 5 = .ok (.aload_n 0, 1) := by decide +kernel
theorem dX7_coreOf_6 : decode cX7_coreOf 6 = .ok (.getfield 48, 3) := by decide +kernel
theorem dX7_coreOf_9 : decode cX7_coreOf 9 = .ok (.iload_n 1, 1) := by decide +kernel
theorem dX7_coreOf_10 : decode cX7_coreOf 10 = .ok (.invokevirtual 200, 3) := by decide +kernel
theorem dX7_coreOf_13 : decode cX7_coreOf 13 = .ok (.ireturn, 1) := by decide +kernel
set_option maxRecDepth 20000 in
theorem ggX7_coreByRounds_X7_demandPlant : GoodIn wsX7_coreByRounds wsX7_demandPlant := goodIn_ca (goodIn_r _ [6, 7, 8, 9, 10, 11, 12, 13, 14, 15, 72, 73, 74, 75, 76, 77, 78, 79, 80, 81, 82] (by decide +kernel) (by decide +kernel)) (goodIn_sub (fun _ h => List.mem_cons_of_mem _ (List.mem_append_right _ h)) (by decide +kernel))
set_option maxRecDepth 20000 in
theorem gX7_coreByRounds_X7_demandPlant : GoodIn wsX7_coreByRounds (wsV RX7 87 RX7 yX7_demandPlant wsX7_demandPlant) := goodIn_app (goodIn_of _ (by decide +kernel)) ggX7_coreByRounds_X7_demandPlant
set_option maxRecDepth 20000 in
theorem ggX7_coreByRounds_X0_numberByRounds : GoodIn wsX7_coreByRounds wsX0_numberByRounds := goodIn_r _ [20, 21, 22, 23, 24, 25, 13, 26, 27, 28, 11, 12, 14, 15, 29, 5, 30, 31, 32, 33, 34, 35, 36, 37, 38, 39, 40, 41, 42, 43, 44, 45, 46, 47, 48, 49, 50, 51, 52, 53, 54, 55, 56, 57, 19, 58, 59, 60, 61, 62, 63, 64, 65, 66, 67, 68, 69, 70, 71, 83, 84, 80, 81, 82, 85] (by decide +kernel) (by decide +kernel)
set_option maxRecDepth 20000 in
theorem gX7_coreByRounds_X0_numberByRounds : GoodIn wsX7_coreByRounds (wsV RX7 203 RX0 yX0_numberByRounds wsX0_numberByRounds) := goodIn_app (goodIn_of _ (by decide +kernel)) ggX7_coreByRounds_X0_numberByRounds
theorem dX7_coreByRounds_0 : decode cX7_coreByRounds 0 = .ok (.aload_n 0, 1) := by decide +kernel
theorem dX7_coreByRounds_1 : decode cX7_coreByRounds 1 = .ok (.iload_n 1, 1) := by decide +kernel
theorem dX7_coreByRounds_2 : decode cX7_coreByRounds 2 = .ok (.invokevirtual 87, 3) := by decide +kernel
theorem dX7_coreByRounds_5 : decode cX7_coreByRounds 5 = .ok (.aload_n 0, 1) := by decide +kernel
theorem dX7_coreByRounds_6 : decode cX7_coreByRounds 6 = .ok (.getfield 48, 3) := by decide +kernel
theorem dX7_coreByRounds_9 : decode cX7_coreByRounds 9 = .ok (.iload_n 1, 1) := by decide +kernel
theorem dX7_coreByRounds_10 : decode cX7_coreByRounds 10 = .ok (.invokevirtual 203, 3) := by decide +kernel
theorem dX7_coreByRounds_13 : decode cX7_coreByRounds 13 = .ok (.ireturn, 1) := by decide +kernel
set_option maxRecDepth 20000 in
theorem ggX7_placeOf_X7_demandPlant : GoodIn wsX7_placeOf wsX7_demandPlant := goodIn_ca (goodIn_r _ [6, 7, 8, 9, 10, 11, 12, 13, 14, 15, 64, 65, 66, 67, 68, 69, 70, 71, 72, 73, 74] (by decide +kernel) (by decide +kernel)) (goodIn_sub (fun _ h => List.mem_cons_of_mem _ (List.mem_append_right _ h)) (by decide +kernel))
set_option maxRecDepth 20000 in
theorem gX7_placeOf_X7_demandPlant : GoodIn wsX7_placeOf (wsV RX7 87 RX7 yX7_demandPlant wsX7_demandPlant) := goodIn_app (goodIn_of _ (by decide +kernel)) ggX7_placeOf_X7_demandPlant
set_option maxRecDepth 20000 in
theorem ggX7_placeOf_X1_place : GoodIn wsX7_placeOf wsX1_place := goodIn_r _ [20, 21, 22, 23, 24, 25, 19, 26, 27, 28, 29, 13, 30, 15, 31, 5, 32, 33, 34, 35, 36, 37, 38, 39, 40, 41, 42, 43, 44, 45, 46, 47, 48, 49, 50, 51, 52, 53, 54, 55, 56, 57, 58, 59, 60, 61, 62, 63, 75, 76, 77, 72, 73, 74, 78] (by decide +kernel) (by decide +kernel)
set_option maxRecDepth 20000 in
theorem gX7_placeOf_X1_place : GoodIn wsX7_placeOf (wsV RX7 206 RX1 yX1_place wsX1_place) := goodIn_app (goodIn_of _ (by decide +kernel)) ggX7_placeOf_X1_place
theorem dX7_placeOf_0 : decode cX7_placeOf 0 = .ok (.aload_n 0, 1) := by decide +kernel
theorem dX7_placeOf_1 : decode cX7_placeOf 1 = .ok (.iload_n 1, 1) := by decide +kernel
theorem dX7_placeOf_2 : decode cX7_placeOf 2 = .ok (.invokevirtual 87, 3) := by decide +kernel
theorem dX7_placeOf_5 : decode cX7_placeOf 5 = .ok (.aload_n 0, 1) := by decide +kernel
theorem dX7_placeOf_6 : decode cX7_placeOf 6 = .ok (.getfield 62, 3) := by decide +kernel
theorem dX7_placeOf_9 : decode cX7_placeOf 9 = .ok (.iload_n 1, 1) := by decide +kernel
theorem dX7_placeOf_10 : decode cX7_placeOf 10 = .ok (.invokevirtual 206, 3) := by decide +kernel
theorem dX7_placeOf_13 : decode cX7_placeOf 13 = .ok (.ireturn, 1) := by decide +kernel
set_option maxRecDepth 20000 in
theorem ggX7_corePieces_X7_demandK : GoodIn wsX7_corePieces wsX7_demandK := goodIn_ca (goodIn_r _ [7, 8, 9] (by decide +kernel) (by decide +kernel)) (goodIn_sub (fun _ h => List.mem_cons_of_mem _ (List.mem_append_right _ h)) (by decide +kernel))
set_option maxRecDepth 20000 in
theorem gX7_corePieces_X7_demandK : GoodIn wsX7_corePieces (wsV RX7 187 RX7 yX7_demandK wsX7_demandK) := goodIn_app (goodIn_of _ (by decide +kernel)) ggX7_corePieces_X7_demandK
set_option maxRecDepth 20000 in
theorem ggX7_corePieces_X5_plants : GoodIn wsX7_corePieces wsX5_plants := goodIn_r _ [14, 15, 16, 6, 17, 66, 67, 68] (by decide +kernel) (by decide +kernel)
set_option maxRecDepth 20000 in
theorem gX7_corePieces_X5_plants : GoodIn wsX7_corePieces (wsV RX7 190 RX5 yX5_plants wsX5_plants) := goodIn_app (goodIn_of _ (by decide +kernel)) ggX7_corePieces_X5_plants
set_option maxRecDepth 20000 in
theorem ggX7_corePieces_X0_left : GoodIn wsX7_corePieces wsX0_left := goodIn_r _ [22, 23, 24, 25, 21, 26, 27, 28, 6, 29, 30, 31, 32, 13, 33, 34, 35, 36, 37, 38, 39, 40, 41, 42, 43, 44, 45, 46, 47, 48, 49, 16, 17, 69, 70, 66, 67, 68, 71] (by decide +kernel) (by decide +kernel)
set_option maxRecDepth 20000 in
theorem gX7_corePieces_X0_left : GoodIn wsX7_corePieces (wsV RX7 196 RX0 yX0_left wsX0_left) := goodIn_app (goodIn_of _ (by decide +kernel)) ggX7_corePieces_X0_left
set_option maxRecDepth 20000 in
theorem ggX7_corePieces_X0_pieces : GoodIn wsX7_corePieces wsX0_pieces := goodIn_r _ [53, 28, 6, 29, 54, 55, 56, 21, 57, 27, 16, 17, 30, 31, 32, 13, 33, 34, 35, 36, 37, 38, 39, 40, 69, 70, 66, 67, 68, 71] (by decide +kernel) (by decide +kernel)
set_option maxRecDepth 20000 in
theorem gX7_corePieces_X0_pieces : GoodIn wsX7_corePieces (wsV RX7 209 RX0 yX0_pieces wsX0_pieces) := goodIn_app (goodIn_of _ (by decide +kernel)) ggX7_corePieces_X0_pieces
theorem dX7_corePieces_0 : decode cX7_corePieces 0 = .ok (.aload_n 0, 1) := by decide +kernel
theorem dX7_corePieces_1 : decode cX7_corePieces 1 = .ok (.iload_n 1, 1) := by decide +kernel
theorem dX7_corePieces_2 : decode cX7_corePieces 2 = .ok (.invokevirtual 187, 3) := by decide +kernel
theorem dX7_corePieces_5 : decode cX7_corePieces 5 = .ok (.aload_n 0, 1) := by decide +kernel
theorem dX7_corePieces_6 : decode cX7_corePieces 6 = .ok (.getfield 48, 3) := by decide +kernel
theorem dX7_corePieces_9 : decode cX7_corePieces 9 = .ok (.aload_n 0, 1) := by decide +kernel
theorem dX7_corePieces_10 : decode cX7_corePieces 10 = .ok (.getfield 48, 3) := by decide +kernel
theorem dX7_corePieces_13 : decode cX7_corePieces 13 = .ok (.aload_n 0, 1) := by decide +kernel
theorem dX7_corePieces_14 : decode cX7_corePieces 14 = .ok (.getfield 10, 3) := by decide +kernel
theorem dX7_corePieces_17 : decode cX7_corePieces 17 = .ok (.invokevirtual 190, 3) := by decide +kernel
theorem dX7_corePieces_20 : decode cX7_corePieces 20 = .ok (.aload_n 0, 1) := by decide +kernel
theorem dX7_corePieces_21 : decode cX7_corePieces 21 = .ok (.getfield 10, 3) := by decide +kernel
theorem dX7_corePieces_24 : decode cX7_corePieces 24 = .ok (.getfield 193, 3) := by decide +kernel
theorem dX7_corePieces_27 : decode cX7_corePieces 27 = .ok (.iload_n 1, 1) := by decide +kernel
theorem dX7_corePieces_28 : decode cX7_corePieces 28 = .ok (.invokevirtual 196, 3) := by decide +kernel
theorem dX7_corePieces_31 : decode cX7_corePieces 31 = .ok (.invokevirtual 209, 3) := by decide +kernel
theorem dX7_corePieces_34 : decode cX7_corePieces 34 = .ok (.ireturn, 1) := by decide +kernel
set_option maxRecDepth 20000 in
theorem ggX7_wouldFall_X7_demandPlant : GoodIn wsX7_wouldFall wsX7_demandPlant := goodIn_ca (goodIn_r _ [7, 8, 9, 2, 10, 11, 12, 13, 14, 15, 62, 63, 64, 65, 66, 67, 68, 69, 70, 71, 72] (by decide +kernel) (by decide +kernel)) (goodIn_sub (fun _ h => List.mem_cons_of_mem _ (List.mem_append_left _ (List.mem_append_right _ h))) (by decide +kernel))
set_option maxRecDepth 20000 in
theorem gX7_wouldFall_X7_demandPlant : GoodIn wsX7_wouldFall (wsV RX7 87 RX7 yX7_demandPlant wsX7_demandPlant) := goodIn_app (goodIn_of _ (by decide +kernel)) ggX7_wouldFall_X7_demandPlant
set_option maxRecDepth 20000 in
theorem ggX7_wouldFall_X7_demandK : GoodIn wsX7_wouldFall wsX7_demandK := goodIn_ca (goodIn_r _ [19, 20, 21] (by decide +kernel) (by decide +kernel)) (goodIn_sub (fun _ h => List.mem_cons_of_mem _ (List.mem_append_right _ h)) (by decide +kernel))
set_option maxRecDepth 20000 in
theorem gX7_wouldFall_X7_demandK : GoodIn wsX7_wouldFall (wsV RX7 187 RX7 yX7_demandK wsX7_demandK) := goodIn_app (goodIn_of _ (by decide +kernel)) ggX7_wouldFall_X7_demandK
set_option maxRecDepth 20000 in
theorem ggX7_wouldFall_X5_plants : GoodIn wsX7_wouldFall wsX5_plants := goodIn_r _ [25, 15, 26, 6, 27, 70, 71, 72] (by decide +kernel) (by decide +kernel)
set_option maxRecDepth 20000 in
theorem gX7_wouldFall_X5_plants : GoodIn wsX7_wouldFall (wsV RX7 190 RX5 yX5_plants wsX5_plants) := goodIn_app (goodIn_of _ (by decide +kernel)) ggX7_wouldFall_X5_plants
set_option maxRecDepth 20000 in
theorem ggX7_wouldFall_X0_left : GoodIn wsX7_wouldFall wsX0_left := goodIn_r _ [32, 33, 34, 35, 31, 36, 37, 38, 6, 39, 40, 41, 42, 13, 43, 44, 45, 46, 47, 48, 49, 50, 51, 52, 53, 54, 55, 56, 57, 58, 59, 26, 27, 73, 74, 70, 71, 72, 75] (by decide +kernel) (by decide +kernel)
set_option maxRecDepth 20000 in
theorem gX7_wouldFall_X0_left : GoodIn wsX7_wouldFall (wsV RX7 196 RX0 yX0_left wsX0_left) := goodIn_app (goodIn_of _ (by decide +kernel)) ggX7_wouldFall_X0_left
set_option maxRecDepth 20000 in
theorem ggX7_wouldFall_X7_bit : GoodIn wsX7_wouldFall wsX7_bit := goodIn_r _ [27] (by decide +kernel) (by decide +kernel)
set_option maxRecDepth 20000 in
theorem gX7_wouldFall_X7_bit : GoodIn wsX7_wouldFall (va_wsS RX7 212 yX7_bit wsX7_bit) := goodIn_app (goodIn_of _ (by decide +kernel)) ggX7_wouldFall_X7_bit
set_option maxRecDepth 20000 in
theorem ggX7_wouldFall_X7_bits : GoodIn wsX7_wouldFall wsX7_bits := goodIn_r _ [52, 53, 54, 55, 56, 57, 58, 59] (by decide +kernel) (by decide +kernel)
set_option maxRecDepth 20000 in
theorem gX7_wouldFall_X7_bits : GoodIn wsX7_wouldFall (va_wsS RX7 184 yX7_bits wsX7_bits) := goodIn_app (goodIn_of _ (by decide +kernel)) ggX7_wouldFall_X7_bits
theorem dX7_wouldFall_0 : decode cX7_wouldFall 0 = .ok (.aload_n 0, 1) := by decide +kernel
theorem dX7_wouldFall_1 : decode cX7_wouldFall 1 = .ok (.iload_n 1, 1) := by decide +kernel
theorem dX7_wouldFall_2 : decode cX7_wouldFall 2 = .ok (.invokevirtual 87, 3) := by decide +kernel
theorem dX7_wouldFall_5 : decode cX7_wouldFall 5 = .ok (.aload_n 0, 1) := by decide +kernel
theorem dX7_wouldFall_6 : decode cX7_wouldFall 6 = .ok (.iload_n 2, 1) := by decide +kernel
theorem dX7_wouldFall_7 : decode cX7_wouldFall 7 = .ok (.invokevirtual 187, 3) := by decide +kernel
theorem dX7_wouldFall_10 : decode cX7_wouldFall 10 = .ok (.aload_n 0, 1) := by decide +kernel
theorem dX7_wouldFall_11 : decode cX7_wouldFall 11 = .ok (.getfield 48, 3) := by decide +kernel
theorem dX7_wouldFall_14 : decode cX7_wouldFall 14 = .ok (.aload_n 0, 1) := by decide +kernel
theorem dX7_wouldFall_15 : decode cX7_wouldFall 15 = .ok (.getfield 10, 3) := by decide +kernel
theorem dX7_wouldFall_18 : decode cX7_wouldFall 18 = .ok (.invokevirtual 190, 3) := by decide +kernel
theorem dX7_wouldFall_21 : decode cX7_wouldFall 21 = .ok (.aload_n 0, 1) := by decide +kernel
theorem dX7_wouldFall_22 : decode cX7_wouldFall 22 = .ok (.getfield 10, 3) := by decide +kernel
theorem dX7_wouldFall_25 : decode cX7_wouldFall 25 = .ok (.getfield 193, 3) := by decide +kernel
theorem dX7_wouldFall_28 : decode cX7_wouldFall 28 = .ok (.iload_n 2, 1) := by decide +kernel
theorem dX7_wouldFall_29 : decode cX7_wouldFall 29 = .ok (.invokevirtual 196, 3) := by decide +kernel
theorem dX7_wouldFall_32 : decode cX7_wouldFall 32 = .ok (.istore_n 3, 1) := by decide +kernel
theorem dX7_wouldFall_33 : decode cX7_wouldFall 33 = .ok (.aload_n 0, 1) := by decide +kernel
theorem dX7_wouldFall_34 : decode cX7_wouldFall 34 = .ok (.getfield 48, 3) := by decide +kernel
theorem dX7_wouldFall_37 : decode cX7_wouldFall 37 = .ok (.aload_n 0, 1) := by decide +kernel
theorem dX7_wouldFall_38 : decode cX7_wouldFall 38 = .ok (.getfield 10, 3) := by decide +kernel
theorem dX7_wouldFall_41 : decode cX7_wouldFall 41 = .ok (.invokevirtual 190, 3) := by decide +kernel
theorem dX7_wouldFall_44 : decode cX7_wouldFall 44 = .ok (.iload_n 1, 1) := by decide +kernel
theorem dX7_wouldFall_45 : decode cX7_wouldFall 45 = .ok (.invokestatic 212, 3) := by decide +kernel
theorem dX7_wouldFall_48 : decode cX7_wouldFall 48 = .ok (.iconst (-1), 1) := by decide +kernel
theorem dX7_wouldFall_49 : decode cX7_wouldFall 49 = .ok (.ixor, 1) := by decide +kernel
theorem dX7_wouldFall_50 : decode cX7_wouldFall 50 = .ok (.iand, 1) := by decide +kernel
theorem dX7_wouldFall_51 : decode cX7_wouldFall 51 = .ok (.aload_n 0, 1) := by decide +kernel
theorem dX7_wouldFall_52 : decode cX7_wouldFall 52 = .ok (.getfield 10, 3) := by decide +kernel
theorem dX7_wouldFall_55 : decode cX7_wouldFall 55 = .ok (.getfield 193, 3) := by decide +kernel
theorem dX7_wouldFall_58 : decode cX7_wouldFall 58 = .ok (.iload_n 2, 1) := by decide +kernel
theorem dX7_wouldFall_59 : decode cX7_wouldFall 59 = .ok (.invokevirtual 196, 3) := by decide +kernel
theorem dX7_wouldFall_62 : decode cX7_wouldFall 62 = .ok (.istore 4, 2) := by decide +kernel
theorem dX7_wouldFall_64 : decode cX7_wouldFall 64 = .ok (.iload_n 3, 1) := by decide +kernel
theorem dX7_wouldFall_65 : decode cX7_wouldFall 65 = .ok (.iload 4, 2) := by decide +kernel
theorem dX7_wouldFall_67 : decode cX7_wouldFall 67 = .ok (.iconst (-1), 1) := by decide +kernel
theorem dX7_wouldFall_68 : decode cX7_wouldFall 68 = .ok (.ixor, 1) := by decide +kernel
theorem dX7_wouldFall_69 : decode cX7_wouldFall 69 = .ok (.iand, 1) := by decide +kernel
theorem dX7_wouldFall_70 : decode cX7_wouldFall 70 = .ok (.invokestatic 184, 3) := by decide +kernel
theorem dX7_wouldFall_73 : decode cX7_wouldFall 73 = .ok (.ireturn, 1) := by decide +kernel
set_option maxRecDepth 20000 in
theorem ggX7_bestProp_X7_demandK : GoodIn wsX7_bestProp wsX7_demandK := goodIn_ca (goodIn_r _ [9, 10, 11] (by decide +kernel) (by decide +kernel)) (goodIn_sub (fun _ h => List.mem_cons_of_mem _ (List.mem_append_right _ h)) (by decide +kernel))
set_option maxRecDepth 20000 in
theorem gX7_bestProp_X7_demandK : GoodIn wsX7_bestProp (wsV RX7 187 RX7 yX7_demandK wsX7_demandK) := goodIn_app (goodIn_of _ (by decide +kernel)) ggX7_bestProp_X7_demandK
set_option maxRecDepth 20000 in
theorem ggX7_bestProp_X5_plants : GoodIn wsX7_bestProp wsX5_plants := goodIn_r _ [16, 17, 18, 8, 19, 74, 75, 76] (by decide +kernel) (by decide +kernel)
set_option maxRecDepth 20000 in
theorem gX7_bestProp_X5_plants : GoodIn wsX7_bestProp (wsV RX7 190 RX5 yX5_plants wsX5_plants) := goodIn_app (goodIn_of _ (by decide +kernel)) ggX7_bestProp_X5_plants
set_option maxRecDepth 20000 in
theorem ggX7_bestProp_X0_bestToProp : GoodIn wsX7_bestProp wsX0_bestToProp := goodIn_r _ [24, 25, 26, 27, 28, 15, 29, 30, 31, 32, 33, 34, 17, 35, 8, 36, 37, 13, 14, 16, 18, 19, 38, 39, 40, 23, 41, 42, 43, 44, 45, 46, 47, 48, 49, 50, 51, 52, 53, 54, 55, 56, 57, 58, 59, 60, 61, 62, 63, 64, 65, 77, 78, 74, 75, 76, 79] (by decide +kernel) (by decide +kernel)
set_option maxRecDepth 20000 in
theorem gX7_bestProp_X0_bestToProp : GoodIn wsX7_bestProp (wsV RX7 220 RX0 yX0_bestToProp wsX0_bestToProp) := goodIn_app (goodIn_of _ (by decide +kernel)) ggX7_bestProp_X0_bestToProp
theorem dX7_bestProp_0 : decode cX7_bestProp 0 = .ok (.aload_n 0, 1) := by decide +kernel
theorem dX7_bestProp_1 : decode cX7_bestProp 1 = .ok (.iload_n 1, 1) := by decide +kernel
theorem dX7_bestProp_2 : decode cX7_bestProp 2 = .ok (.invokevirtual 187, 3) := by decide +kernel
theorem dX7_bestProp_5 : decode cX7_bestProp 5 = .ok (.aload_n 0, 1) := by decide +kernel
theorem dX7_bestProp_6 : decode cX7_bestProp 6 = .ok (.getfield 10, 3) := by decide +kernel
theorem dX7_bestProp_9 : decode cX7_bestProp 9 = .ok (.getfield 193, 3) := by decide +kernel
theorem dX7_bestProp_12 : decode cX7_bestProp 12 = .ok (.aload_n 0, 1) := by decide +kernel
theorem dX7_bestProp_13 : decode cX7_bestProp 13 = .ok (.getfield 10, 3) := by decide +kernel
theorem dX7_bestProp_16 : decode cX7_bestProp 16 = .ok (.invokevirtual 190, 3) := by decide +kernel
theorem dX7_bestProp_19 : decode cX7_bestProp 19 = .ok (.if_icmp .ne 13, 3) := by decide +kernel
theorem dX7_bestProp_22 : decode cX7_bestProp 22 = .ok (.new 215, 3) := by decide +kernel
theorem dX7_bestProp_25 : decode cX7_bestProp 25 = .ok (.dup, 1) := by decide +kernel
theorem dX7_bestProp_26 : decode cX7_bestProp 26 = .ok (.ldc 217, 2) := by decide +kernel
theorem dX7_bestProp_28 : decode cX7_bestProp 28 = .ok (.invokespecial 219, 3) := by decide +kernel
theorem dX7_bestProp_31 : decode cX7_bestProp 31 = .ok (.athrow, 1) := by decide +kernel
theorem dX7_bestProp_32 : decode cX7_bestProp 32 = .ok (.aload_n 0, 1) := by decide +kernel
theorem dX7_bestProp_33 : decode cX7_bestProp 33 = .ok (.getfield 48, 3) := by decide +kernel
theorem dX7_bestProp_36 : decode cX7_bestProp 36 = .ok (.iload_n 1, 1) := by decide +kernel
theorem dX7_bestProp_37 : decode cX7_bestProp 37 = .ok (.invokevirtual 220, 3) := by decide +kernel
theorem dX7_bestProp_40 : decode cX7_bestProp 40 = .ok (.ireturn, 1) := by decide +kernel
set_option maxRecDepth 20000 in
theorem ggX7_support_X7_demandThorn : GoodIn wsX7_support wsX7_demandThorn := goodIn_ca (goodIn_ca (goodIn_r _ [6, 7, 8, 1, 9, 10, 11, 5, 12, 13, 14, 15, 16, 17, 18, 19, 20, 21, 22, 23, 24, 25, 26, 27, 28, 29, 30, 31, 32, 33, 34, 49, 50, 51, 52, 53, 54, 55, 56, 57, 58, 59, 60] (by decide +kernel) (by decide +kernel)) (goodIn_sub (fun _ h => List.mem_cons_of_mem _ (List.mem_append_left _ (List.mem_append_right _ h))) (by decide +kernel))) (goodIn_sub (fun _ h => List.mem_cons_of_mem _ (List.mem_append_right _ h)) (by decide +kernel))
set_option maxRecDepth 20000 in
theorem gX7_support_X7_demandThorn : GoodIn wsX7_support (wsV RX7 223 RX7 yX7_demandThorn wsX7_demandThorn) := goodIn_app (goodIn_of _ (by decide +kernel)) ggX7_support_X7_demandThorn
set_option maxRecDepth 20000 in
theorem ggX7_support_X5_aroundBoth : GoodIn wsX7_support wsX5_aroundBoth := goodIn_r _ [38, 25, 27, 28, 29, 30, 31, 32, 57, 58, 59, 60] (by decide +kernel) (by decide +kernel)
set_option maxRecDepth 20000 in
theorem gX7_support_X5_aroundBoth : GoodIn wsX7_support (wsV RX7 180 RX5 yX5_aroundBoth wsX5_aroundBoth) := goodIn_app (goodIn_of _ (by decide +kernel)) ggX7_support_X5_aroundBoth
set_option maxRecDepth 20000 in
theorem ggX7_support_X7_bits : GoodIn wsX7_support wsX7_bits := goodIn_r _ [41, 42, 43, 44, 45, 46, 47, 48] (by decide +kernel) (by decide +kernel)
set_option maxRecDepth 20000 in
theorem gX7_support_X7_bits : GoodIn wsX7_support (va_wsS RX7 184 yX7_bits wsX7_bits) := goodIn_app (goodIn_of _ (by decide +kernel)) ggX7_support_X7_bits
theorem dX7_support_0 : decode cX7_support 0 = .ok (.aload_n 0, 1) := by decide +kernel
theorem dX7_support_1 : decode cX7_support 1 = .ok (.iload_n 1, 1) := by decide +kernel
theorem dX7_support_2 : decode cX7_support 2 = .ok (.iload_n 2, 1) := by decide +kernel
theorem dX7_support_3 : decode cX7_support 3 = .ok (.invokevirtual 223, 3) := by decide +kernel
theorem dX7_support_6 : decode cX7_support 6 = .ok (.aload_n 0, 1) := by decide +kernel
theorem dX7_support_7 : decode cX7_support 7 = .ok (.getfield 10, 3) := by decide +kernel
theorem dX7_support_10 : decode cX7_support 10 = .ok (.iload_n 1, 1) := by decide +kernel
theorem dX7_support_11 : decode cX7_support 11 = .ok (.iload_n 2, 1) := by decide +kernel
theorem dX7_support_12 : decode cX7_support 12 = .ok (.invokevirtual 180, 3) := by decide +kernel
theorem dX7_support_15 : decode cX7_support 15 = .ok (.invokestatic 184, 3) := by decide +kernel
theorem dX7_support_18 : decode cX7_support 18 = .ok (.ireturn, 1) := by decide +kernel
set_option maxRecDepth 20000 in
theorem ggX7_trussOf_X7_demandThorn : GoodIn wsX7_trussOf wsX7_demandThorn := goodIn_ca (goodIn_ca (goodIn_r _ [6, 7, 8, 9, 10, 11, 12, 5, 13, 14, 15, 16, 17, 18, 19, 20, 21, 22, 23, 24, 25, 26, 27, 28, 29, 30, 31, 32, 33, 34, 35, 75, 76, 77, 78, 79, 80, 81, 82, 83, 84, 85, 86] (by decide +kernel) (by decide +kernel)) (goodIn_sub (fun _ h => List.mem_cons_of_mem _ (List.mem_append_left _ (List.mem_append_right _ h))) (by decide +kernel))) (goodIn_sub (fun _ h => List.mem_cons_of_mem _ (List.mem_append_right _ h)) (by decide +kernel))
set_option maxRecDepth 20000 in
theorem gX7_trussOf_X7_demandThorn : GoodIn wsX7_trussOf (wsV RX7 223 RX7 yX7_demandThorn wsX7_demandThorn) := goodIn_app (goodIn_of _ (by decide +kernel)) ggX7_trussOf_X7_demandThorn
set_option maxRecDepth 20000 in
theorem ggX7_trussOf_X6_numberByPeeling : GoodIn wsX7_trussOf wsX6_numberByPeeling := goodIn_r _ [40, 41, 42, 43, 44, 39, 45, 46, 47, 48, 49, 19, 50, 26, 28, 29, 30, 31, 32, 33, 51, 52, 53, 54, 55, 56, 57, 58, 59, 60, 61, 62, 63, 34, 5, 35, 64, 65, 66, 67, 68, 69, 70, 71, 72, 73, 74, 87, 88, 89, 83, 84, 85, 86] (by decide +kernel) (by decide +kernel)
set_option maxRecDepth 20000 in
theorem gX7_trussOf_X6_numberByPeeling : GoodIn wsX7_trussOf (wsV RX7 226 RX6 yX6_numberByPeeling wsX6_numberByPeeling) := goodIn_app (goodIn_of _ (by decide +kernel)) ggX7_trussOf_X6_numberByPeeling
theorem dX7_trussOf_0 : decode cX7_trussOf 0 = .ok (.aload_n 0, 1) := by decide +kernel
theorem dX7_trussOf_1 : decode cX7_trussOf 1 = .ok (.iload_n 1, 1) := by decide +kernel
theorem dX7_trussOf_2 : decode cX7_trussOf 2 = .ok (.iload_n 2, 1) := by decide +kernel
theorem dX7_trussOf_3 : decode cX7_trussOf 3 = .ok (.invokevirtual 223, 3) := by decide +kernel
theorem dX7_trussOf_6 : decode cX7_trussOf 6 = .ok (.aload_n 0, 1) := by decide +kernel
theorem dX7_trussOf_7 : decode cX7_trussOf 7 = .ok (.getfield 55, 3) := by decide +kernel
theorem dX7_trussOf_10 : decode cX7_trussOf 10 = .ok (.iload_n 1, 1) := by decide +kernel
theorem dX7_trussOf_11 : decode cX7_trussOf 11 = .ok (.iload_n 2, 1) := by decide +kernel
theorem dX7_trussOf_12 : decode cX7_trussOf 12 = .ok (.invokevirtual 226, 3) := by decide +kernel
theorem dX7_trussOf_15 : decode cX7_trussOf 15 = .ok (.ireturn, 1) := by decide +kernel
set_option maxRecDepth 20000 in
theorem ggX7_trussByRounds_X7_demandThorn : GoodIn wsX7_trussByRounds wsX7_demandThorn := goodIn_ca (goodIn_ca (goodIn_r _ [6, 7, 8, 9, 10, 11, 12, 5, 13, 14, 15, 16, 17, 18, 19, 20, 21, 22, 23, 24, 25, 26, 27, 28, 29, 30, 31, 32, 33, 34, 35, 86, 87, 88, 89, 90, 91, 92, 93, 94, 95, 96, 97] (by decide +kernel) (by decide +kernel)) (goodIn_sub (fun _ h => List.mem_cons_of_mem _ (List.mem_append_left _ (List.mem_append_right _ h))) (by decide +kernel))) (goodIn_sub (fun _ h => List.mem_cons_of_mem _ (List.mem_append_right _ h)) (by decide +kernel))
set_option maxRecDepth 20000 in
theorem gX7_trussByRounds_X7_demandThorn : GoodIn wsX7_trussByRounds (wsV RX7 223 RX7 yX7_demandThorn wsX7_demandThorn) := goodIn_app (goodIn_of _ (by decide +kernel)) ggX7_trussByRounds_X7_demandThorn
set_option maxRecDepth 20000 in
theorem ggX7_trussByRounds_X6_numberByRounds : GoodIn wsX7_trussByRounds wsX6_numberByRounds := goodIn_r _ [40, 41, 42, 23, 24, 19, 25, 26, 27, 17, 18, 20, 21, 28, 29, 30, 31, 32, 33, 34, 5, 35, 43, 44, 45, 46, 47, 48, 49, 50, 51, 52, 53, 54, 55, 56, 57, 58, 39, 59, 60, 61, 62, 63, 64, 65, 66, 67, 68, 69, 70, 71, 72, 73, 74, 75, 76, 77, 78, 79, 80, 81, 82, 83, 84, 85, 98, 99, 100, 94, 95, 96, 97] (by decide +kernel) (by decide +kernel)
set_option maxRecDepth 20000 in
theorem gX7_trussByRounds_X6_numberByRounds : GoodIn wsX7_trussByRounds (wsV RX7 228 RX6 yX6_numberByRounds wsX6_numberByRounds) := goodIn_app (goodIn_of _ (by decide +kernel)) ggX7_trussByRounds_X6_numberByRounds
theorem dX7_trussByRounds_0 : decode cX7_trussByRounds 0 = .ok (.aload_n 0, 1) := by decide +kernel
theorem dX7_trussByRounds_1 : decode cX7_trussByRounds 1 = .ok (.iload_n 1, 1) := by decide +kernel
theorem dX7_trussByRounds_2 : decode cX7_trussByRounds 2 = .ok (.iload_n 2, 1) := by decide +kernel
theorem dX7_trussByRounds_3 : decode cX7_trussByRounds 3 = .ok (.invokevirtual 223, 3) := by decide +kernel
theorem dX7_trussByRounds_6 : decode cX7_trussByRounds 6 = .ok (.aload_n 0, 1) := by decide +kernel
theorem dX7_trussByRounds_7 : decode cX7_trussByRounds 7 = .ok (.getfield 55, 3) := by decide +kernel
theorem dX7_trussByRounds_10 : decode cX7_trussByRounds 10 = .ok (.iload_n 1, 1) := by decide +kernel
theorem dX7_trussByRounds_11 : decode cX7_trussByRounds 11 = .ok (.iload_n 2, 1) := by decide +kernel
theorem dX7_trussByRounds_12 : decode cX7_trussByRounds 12 = .ok (.invokevirtual 228, 3) := by decide +kernel
theorem dX7_trussByRounds_15 : decode cX7_trussByRounds 15 = .ok (.ireturn, 1) := by decide +kernel
set_option maxRecDepth 20000 in
theorem ggX7_trussSize_X7_demandK : GoodIn wsX7_trussSize wsX7_demandK := goodIn_ca (goodIn_r _ [6, 7, 8] (by decide +kernel) (by decide +kernel)) (goodIn_sub (fun _ h => List.mem_cons_of_mem _ (List.mem_append_right _ h)) (by decide +kernel))
set_option maxRecDepth 20000 in
theorem gX7_trussSize_X7_demandK : GoodIn wsX7_trussSize (wsV RX7 187 RX7 yX7_demandK wsX7_demandK) := goodIn_app (goodIn_of _ (by decide +kernel)) ggX7_trussSize_X7_demandK
set_option maxRecDepth 20000 in
theorem ggX7_trussSize_X6_size : GoodIn wsX7_trussSize wsX6_size := goodIn_r _ [13, 14, 15, 16, 17, 12, 18, 19, 20, 21, 22, 23, 24, 25, 26, 27, 28, 29, 30, 31, 32, 33, 34, 35, 36, 37, 38, 39, 40, 41, 42, 43, 44, 45, 5, 46, 47, 48, 49, 50, 51, 52, 53, 54, 55, 56, 57, 66, 67, 68, 69, 70, 71, 72] (by decide +kernel) (by decide +kernel)
set_option maxRecDepth 20000 in
theorem gX7_trussSize_X6_size : GoodIn wsX7_trussSize (wsV RX7 230 RX6 yX6_size wsX6_size) := goodIn_app (goodIn_of _ (by decide +kernel)) ggX7_trussSize_X6_size
theorem dX7_trussSize_0 : decode cX7_trussSize 0 = .ok (.aload_n 0, 1) := by decide +kernel
theorem dX7_trussSize_1 : decode cX7_trussSize 1 = .ok (.iload_n 1, 1) := by decide +kernel
theorem dX7_trussSize_2 : decode cX7_trussSize 2 = .ok (.invokevirtual 187, 3) := by decide +kernel
theorem dX7_trussSize_5 : decode cX7_trussSize 5 = .ok (.aload_n 0, 1) := by decide +kernel
theorem dX7_trussSize_6 : decode cX7_trussSize 6 = .ok (.getfield 55, 3) := by decide +kernel
theorem dX7_trussSize_9 : decode cX7_trussSize 9 = .ok (.iload_n 1, 1) := by decide +kernel
theorem dX7_trussSize_10 : decode cX7_trussSize 10 = .ok (.invokevirtual 230, 3) := by decide +kernel
theorem dX7_trussSize_13 : decode cX7_trussSize 13 = .ok (.ireturn, 1) := by decide +kernel
set_option maxRecDepth 20000 in
theorem ggX7_colorOf_X7_demandPlant : GoodIn wsX7_colorOf wsX7_demandPlant := goodIn_ca (goodIn_r _ [6, 7, 8, 9, 10, 11, 12, 13, 14, 15, 73, 74, 75, 76, 77, 78, 79, 80, 81, 82, 83] (by decide +kernel) (by decide +kernel)) (goodIn_sub (fun _ h => List.mem_cons_of_mem _ (List.mem_append_right _ h)) (by decide +kernel))
set_option maxRecDepth 20000 in
theorem gX7_colorOf_X7_demandPlant : GoodIn wsX7_colorOf (wsV RX7 87 RX7 yX7_demandPlant wsX7_demandPlant) := goodIn_app (goodIn_of _ (by decide +kernel)) ggX7_colorOf_X7_demandPlant
set_option maxRecDepth 20000 in
theorem ggX7_colorOf_X1_color : GoodIn wsX7_colorOf wsX1_color := goodIn_r _ [20, 21, 22, 23, 24, 19, 25, 26, 27, 28, 29, 30, 31, 32, 33, 34, 13, 35, 15, 36, 5, 37, 38, 39, 40, 41, 42, 43, 44, 45, 46, 47, 48, 49, 50, 51, 52, 53, 54, 55, 56, 57, 58, 59, 60, 61, 62, 63, 64, 65, 66, 67, 68, 69, 70, 71, 72, 84, 85, 86, 81, 82, 83, 87] (by decide +kernel) (by decide +kernel)
set_option maxRecDepth 20000 in
theorem gX7_colorOf_X1_color : GoodIn wsX7_colorOf (wsV RX7 232 RX1 yX1_color wsX1_color) := goodIn_app (goodIn_of _ (by decide +kernel)) ggX7_colorOf_X1_color
theorem dX7_colorOf_0 : decode cX7_colorOf 0 = .ok (.aload_n 0, 1) := by decide +kernel
