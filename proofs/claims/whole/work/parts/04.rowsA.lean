theorem dX8_init_0 : decode cX8_init 0 = .ok (.aload_n 0, 1) := by decide +kernel
theorem dX8_init_1 : decode cX8_init 1 = .ok (.invokespecial 1, 3) := by decide +kernel
theorem dX8_init_4 : decode cX8_init 4 = .ok (.aload_n 0, 1) := by decide +kernel
theorem dX8_init_5 : decode cX8_init 5 = .ok (.bipush 18, 2) := by decide +kernel
theorem dX8_init_7 : decode cX8_init 7 = .ok (.newarray .int, 2) := by decide +kernel
theorem dX8_init_9 : decode cX8_init 9 = .ok (.putfield 7, 3) := by decide +kernel
theorem dX8_init_12 : decode cX8_init 12 = .ok (.aload_n 0, 1) := by decide +kernel
theorem dX8_init_13 : decode cX8_init 13 = .ok (.bipush 108, 2) := by decide +kernel
theorem dX8_init_15 : decode cX8_init 15 = .ok (.newarray .int, 2) := by decide +kernel
theorem dX8_init_17 : decode cX8_init 17 = .ok (.putfield 13, 3) := by decide +kernel
theorem dX8_init_20 : decode cX8_init 20 = .ok (.aload_n 0, 1) := by decide +kernel
theorem dX8_init_21 : decode cX8_init 21 = .ok (.bipush 18, 2) := by decide +kernel
theorem dX8_init_23 : decode cX8_init 23 = .ok (.newarray .int, 2) := by decide +kernel
theorem dX8_init_25 : decode cX8_init 25 = .ok (.putfield 16, 3) := by decide +kernel
theorem dX8_init_28 : decode cX8_init 28 = .ok (.aload_n 0, 1) := by decide +kernel
theorem dX8_init_29 : decode cX8_init 29 = .ok (.bipush 60, 2) := by decide +kernel
theorem dX8_init_31 : decode cX8_init 31 = .ok (.newarray .int, 2) := by decide +kernel
theorem dX8_init_33 : decode cX8_init 33 = .ok (.putfield 19, 3) := by decide +kernel
theorem dX8_init_36 : decode cX8_init 36 = .ok (.aload_n 0, 1) := by decide +kernel
theorem dX8_init_37 : decode cX8_init 37 = .ok (.bipush 16, 2) := by decide +kernel
theorem dX8_init_39 : decode cX8_init 39 = .ok (.newarray .int, 2) := by decide +kernel
theorem dX8_init_41 : decode cX8_init 41 = .ok (.putfield 22, 3) := by decide +kernel
theorem dX8_init_44 : decode cX8_init 44 = .ok (.aload_n 0, 1) := by decide +kernel
theorem dX8_init_45 : decode cX8_init 45 = .ok (.bipush 16, 2) := by decide +kernel
theorem dX8_init_47 : decode cX8_init 47 = .ok (.newarray .int, 2) := by decide +kernel
theorem dX8_init_49 : decode cX8_init 49 = .ok (.putfield 25, 3) := by decide +kernel
theorem dX8_init_52 : decode cX8_init 52 = .ok (.aload_n 0, 1) := by decide +kernel
theorem dX8_init_53 : decode cX8_init 53 = .ok (.bipush 16, 2) := by decide +kernel
theorem dX8_init_55 : decode cX8_init 55 = .ok (.newarray .int, 2) := by decide +kernel
theorem dX8_init_57 : decode cX8_init 57 = .ok (.putfield 28, 3) := by decide +kernel
theorem dX8_init_60 : decode cX8_init 60 = .ok (.return_, 1) := by decide +kernel
theorem dX8_thrown_0 : decode cX8_thrown 0 = .ok (.aload_n 0, 1) := by decide +kernel
theorem dX8_thrown_1 : decode cX8_thrown 1 = .ok (.getfield 31, 3) := by decide +kernel
theorem dX8_thrown_4 : decode cX8_thrown 4 = .ok (.ireturn, 1) := by decide +kernel
theorem dX8_throwing_0 : decode cX8_throwing 0 = .ok (.aload_n 0, 1) := by decide +kernel
theorem dX8_throwing_1 : decode cX8_throwing 1 = .ok (.iload_n 1, 1) := by decide +kernel
theorem dX8_throwing_2 : decode cX8_throwing 2 = .ok (.putfield 31, 3) := by decide +kernel
theorem dX8_throwing_5 : decode cX8_throwing 5 = .ok (.iconst 0, 1) := by decide +kernel
theorem dX8_throwing_6 : decode cX8_throwing 6 = .ok (.ireturn, 1) := by decide +kernel
theorem dX8_in_0 : decode cX8_in 0 = .ok (.iload_n 0, 1) := by decide +kernel
theorem dX8_in_1 : decode cX8_in 1 = .ok (.iload_n 1, 1) := by decide +kernel
theorem dX8_in_2 : decode cX8_in 2 = .ok (.if_icmp .lt 12, 3) := by decide +kernel
theorem dX8_in_5 : decode cX8_in 5 = .ok (.iload_n 0, 1) := by decide +kernel
theorem dX8_in_6 : decode cX8_in 6 = .ok (.iload_n 2, 1) := by decide +kernel
theorem dX8_in_7 : decode cX8_in 7 = .ok (.if_icmp .gt 7, 3) := by decide +kernel
theorem dX8_in_10 : decode cX8_in 10 = .ok (.iconst 1, 1) := by decide +kernel
theorem dX8_in_11 : decode cX8_in 11 = .ok (.goto 4, 3) := by decide +kernel
theorem dX8_in_14 : decode cX8_in 14 = .ok (.iconst 0, 1) := by decide +kernel
theorem dX8_in_15 : decode cX8_in 15 = .ok (.ireturn, 1) := by decide +kernel
set_option maxRecDepth 20000 in
theorem ggX8_isPlant_X8_in : GoodIn wsX8_isPlant wsX8_in := goodIn_r _ [5] (by decide +kernel) (by decide +kernel)
set_option maxRecDepth 20000 in
theorem gX8_isPlant_X8_in : GoodIn wsX8_isPlant (va_wsS RX8 35 yX8_in wsX8_in) := goodIn_app (goodIn_of _ (by decide +kernel)) ggX8_isPlant_X8_in
theorem dX8_isPlant_0 : decode cX8_isPlant 0 = .ok (.iload_n 1, 1) := by decide +kernel
theorem dX8_isPlant_1 : decode cX8_isPlant 1 = .ok (.iconst 0, 1) := by decide +kernel
theorem dX8_isPlant_2 : decode cX8_isPlant 2 = .ok (.aload_n 0, 1) := by decide +kernel
theorem dX8_isPlant_3 : decode cX8_isPlant 3 = .ok (.getfield 7, 3) := by decide +kernel
theorem dX8_isPlant_6 : decode cX8_isPlant 6 = .ok (.iconst 0, 1) := by decide +kernel
theorem dX8_isPlant_7 : decode cX8_isPlant 7 = .ok (.iaload, 1) := by decide +kernel
theorem dX8_isPlant_8 : decode cX8_isPlant 8 = .ok (.iconst 1, 1) := by decide +kernel
theorem dX8_isPlant_9 : decode cX8_isPlant 9 = .ok (.isub, 1) := by decide +kernel
theorem dX8_isPlant_10 : decode cX8_isPlant 10 = .ok (.invokestatic 35, 3) := by decide +kernel
theorem dX8_isPlant_13 : decode cX8_isPlant 13 = .ok (.ireturn, 1) := by decide +kernel
set_option maxRecDepth 20000 in
theorem ggX8_isThere_X8_isPlant : GoodIn wsX8_isThere wsX8_isPlant := goodIn_r _ [6, 7, 8, 9, 5, 10, 11, 12, 13, 14, 15, 16, 17, 18, 19, 20, 21, 22, 23] (by decide +kernel) (by decide +kernel)
set_option maxRecDepth 20000 in
theorem gX8_isThere_X8_isPlant : GoodIn wsX8_isThere (wsV RX8 39 RX8 yX8_isPlant wsX8_isPlant) := goodIn_app (goodIn_of _ (by decide +kernel)) ggX8_isThere_X8_isPlant
theorem dX8_isThere_0 : decode cX8_isThere 0 = .ok (.aload_n 0, 1) := by decide +kernel
theorem dX8_isThere_1 : decode cX8_isThere 1 = .ok (.aload_n 0, 1) := by decide +kernel
theorem dX8_isThere_2 : decode cX8_isThere 2 = .ok (.iload_n 1, 1) := by decide +kernel
theorem dX8_isThere_3 : decode cX8_isThere 3 = .ok (.invokevirtual 39, 3) := by decide +kernel
theorem dX8_isThere_6 : decode cX8_isThere 6 = .ok (.ifCond .eq 7, 3) := by decide +kernel
theorem dX8_isThere_9 : decode cX8_isThere 9 = .ok (.iconst 0, 1) := by decide +kernel
theorem dX8_isThere_10 : decode cX8_isThere 10 = .ok (.goto 4, 3) := by decide +kernel
theorem dX8_isThere_13 : decode cX8_isThere 13 = .ok (.iconst 1, 1) := by decide +kernel
theorem dX8_isThere_14 : decode cX8_isThere 14 = .ok (.putfield 31, 3) := by decide +kernel
theorem dX8_isThere_17 : decode cX8_isThere 17 = .ok (.aload_n 0, 1) := by decide +kernel
theorem dX8_isThere_18 : decode cX8_isThere 18 = .ok (.getfield 31, 3) := by decide +kernel
theorem dX8_isThere_21 : decode cX8_isThere 21 = .ok (.ifCond .ne 7, 3) := by decide +kernel
theorem dX8_isThere_24 : decode cX8_isThere 24 = .ok (.iconst 1, 1) := by decide +kernel
theorem dX8_isThere_25 : decode cX8_isThere 25 = .ok (.goto 4, 3) := by decide +kernel
theorem dX8_isThere_28 : decode cX8_isThere 28 = .ok (.iconst 0, 1) := by decide +kernel
theorem dX8_isThere_29 : decode cX8_isThere 29 = .ok (.ireturn, 1) := by decide +kernel
set_option maxRecDepth 20000 in
theorem ggX8_isDepth_X8_in : GoodIn wsX8_isDepth wsX8_in := goodIn_r _ [5] (by decide +kernel) (by decide +kernel)
set_option maxRecDepth 20000 in
theorem gX8_isDepth_X8_in : GoodIn wsX8_isDepth (va_wsS RX8 35 yX8_in wsX8_in) := goodIn_app (goodIn_of _ (by decide +kernel)) ggX8_isDepth_X8_in
theorem dX8_isDepth_0 : decode cX8_isDepth 0 = .ok (.aload_n 0, 1) := by decide +kernel
theorem dX8_isDepth_1 : decode cX8_isDepth 1 = .ok (.iload_n 1, 1) := by decide +kernel
theorem dX8_isDepth_2 : decode cX8_isDepth 2 = .ok (.iconst 0, 1) := by decide +kernel
theorem dX8_isDepth_3 : decode cX8_isDepth 3 = .ok (.bipush 15, 2) := by decide +kernel
theorem dX8_isDepth_5 : decode cX8_isDepth 5 = .ok (.invokestatic 35, 3) := by decide +kernel
theorem dX8_isDepth_8 : decode cX8_isDepth 8 = .ok (.ifCond .eq 7, 3) := by decide +kernel
theorem dX8_isDepth_11 : decode cX8_isDepth 11 = .ok (.iconst 0, 1) := by decide +kernel
theorem dX8_isDepth_12 : decode cX8_isDepth 12 = .ok (.goto 4, 3) := by decide +kernel
theorem dX8_isDepth_15 : decode cX8_isDepth 15 = .ok (.iconst 1, 1) := by decide +kernel
theorem dX8_isDepth_16 : decode cX8_isDepth 16 = .ok (.putfield 31, 3) := by decide +kernel
theorem dX8_isDepth_19 : decode cX8_isDepth 19 = .ok (.aload_n 0, 1) := by decide +kernel
theorem dX8_isDepth_20 : decode cX8_isDepth 20 = .ok (.getfield 31, 3) := by decide +kernel
theorem dX8_isDepth_23 : decode cX8_isDepth 23 = .ok (.ifCond .ne 7, 3) := by decide +kernel
theorem dX8_isDepth_26 : decode cX8_isDepth 26 = .ok (.iconst 1, 1) := by decide +kernel
theorem dX8_isDepth_27 : decode cX8_isDepth 27 = .ok (.goto 4, 3) := by decide +kernel
theorem dX8_isDepth_30 : decode cX8_isDepth 30 = .ok (.iconst 0, 1) := by decide +kernel
theorem dX8_isDepth_31 : decode cX8_isDepth 31 = .ok (.ireturn, 1) := by decide +kernel
theorem dX8_record_0 : decode cX8_record 0 = .ok (.aload_n 0, 1) := by decide +kernel
theorem dX8_record_1 : decode cX8_record 1 = .ok (.getfield 43, 3) := by decide +kernel
theorem dX8_record_4 : decode cX8_record 4 = .ok (.bipush 6, 2) := by decide +kernel
theorem dX8_record_6 : decode cX8_record 6 = .ok (.if_icmp .ne 42, 3) := by decide +kernel
theorem dX8_record_9 : decode cX8_record 9 = .ok (.iconst 0, 1) := by decide +kernel
theorem dX8_record_10 : decode cX8_record 10 = .ok (.istore_n 1, 1) := by decide +kernel
theorem dX8_record_11 : decode cX8_record 11 = .ok (.iload_n 1, 1) := by decide +kernel
theorem dX8_record_12 : decode cX8_record 12 = .ok (.bipush 90, 2) := by decide +kernel
theorem dX8_record_14 : decode cX8_record 14 = .ok (.if_icmp .ge 24, 3) := by decide +kernel
theorem dX8_record_17 : decode cX8_record 17 = .ok (.aload_n 0, 1) := by decide +kernel
theorem dX8_record_18 : decode cX8_record 18 = .ok (.getfield 13, 3) := by decide +kernel
theorem dX8_record_21 : decode cX8_record 21 = .ok (.iload_n 1, 1) := by decide +kernel
theorem dX8_record_22 : decode cX8_record 22 = .ok (.aload_n 0, 1) := by decide +kernel
theorem dX8_record_23 : decode cX8_record 23 = .ok (.getfield 13, 3) := by decide +kernel
theorem dX8_record_26 : decode cX8_record 26 = .ok (.bipush 18, 2) := by decide +kernel
theorem dX8_record_28 : decode cX8_record 28 = .ok (.iload_n 1, 1) := by decide +kernel
theorem dX8_record_29 : decode cX8_record 29 = .ok (.iadd, 1) := by decide +kernel
theorem dX8_record_30 : decode cX8_record 30 = .ok (.iaload, 1) := by decide +kernel
theorem dX8_record_31 : decode cX8_record 31 = .ok (.iastore, 1) := by decide +kernel
theorem dX8_record_32 : decode cX8_record 32 = .ok (.iinc 1 1, 3) := by decide +kernel
theorem dX8_record_35 : decode cX8_record 35 = .ok (.goto (-24), 3) := by decide +kernel
theorem dX8_record_38 : decode cX8_record 38 = .ok (.aload_n 0, 1) := by decide +kernel
theorem dX8_record_39 : decode cX8_record 39 = .ok (.dup, 1) := by decide +kernel
theorem dX8_record_40 : decode cX8_record 40 = .ok (.getfield 43, 3) := by decide +kernel
theorem dX8_record_43 : decode cX8_record 43 = .ok (.iconst 1, 1) := by decide +kernel
theorem dX8_record_44 : decode cX8_record 44 = .ok (.isub, 1) := by decide +kernel
theorem dX8_record_45 : decode cX8_record 45 = .ok (.putfield 43, 3) := by decide +kernel
theorem dX8_record_48 : decode cX8_record 48 = .ok (.iconst 0, 1) := by decide +kernel
theorem dX8_record_49 : decode cX8_record 49 = .ok (.istore_n 1, 1) := by decide +kernel
theorem dX8_record_50 : decode cX8_record 50 = .ok (.iload_n 1, 1) := by decide +kernel
theorem dX8_record_51 : decode cX8_record 51 = .ok (.bipush 18, 2) := by decide +kernel
theorem dX8_record_53 : decode cX8_record 53 = .ok (.if_icmp .ge 29, 3) := by decide +kernel
theorem dX8_record_56 : decode cX8_record 56 = .ok (.aload_n 0, 1) := by decide +kernel
theorem dX8_record_57 : decode cX8_record 57 = .ok (.getfield 13, 3) := by decide +kernel
theorem dX8_record_60 : decode cX8_record 60 = .ok (.bipush 18, 2) := by decide +kernel
theorem dX8_record_62 : decode cX8_record 62 = .ok (.aload_n 0, 1) := by decide +kernel
theorem dX8_record_63 : decode cX8_record 63 = .ok (.getfield 43, 3) := by decide +kernel
theorem dX8_record_66 : decode cX8_record 66 = .ok (.imul, 1) := by decide +kernel
theorem dX8_record_67 : decode cX8_record 67 = .ok (.iload_n 1, 1) := by decide +kernel
theorem dX8_record_68 : decode cX8_record 68 = .ok (.iadd, 1) := by decide +kernel
theorem dX8_record_69 : decode cX8_record 69 = .ok (.aload_n 0, 1) := by decide +kernel
theorem dX8_record_70 : decode cX8_record 70 = .ok (.getfield 7, 3) := by decide +kernel
theorem dX8_record_73 : decode cX8_record 73 = .ok (.iload_n 1, 1) := by decide +kernel
theorem dX8_record_74 : decode cX8_record 74 = .ok (.iaload, 1) := by decide +kernel
theorem dX8_record_75 : decode cX8_record 75 = .ok (.iastore, 1) := by decide +kernel
theorem dX8_record_76 : decode cX8_record 76 = .ok (.iinc 1 1, 3) := by decide +kernel
theorem dX8_record_79 : decode cX8_record 79 = .ok (.goto (-29), 3) := by decide +kernel
theorem dX8_record_82 : decode cX8_record 82 = .ok (.aload_n 0, 1) := by decide +kernel
theorem dX8_record_83 : decode cX8_record 83 = .ok (.dup, 1) := by decide +kernel
theorem dX8_record_84 : decode cX8_record 84 = .ok (.getfield 43, 3) := by decide +kernel
theorem dX8_record_87 : decode cX8_record 87 = .ok (.iconst 1, 1) := by decide +kernel
theorem dX8_record_88 : decode cX8_record 88 = .ok (.iadd, 1) := by decide +kernel
theorem dX8_record_89 : decode cX8_record 89 = .ok (.putfield 43, 3) := by decide +kernel
theorem dX8_record_92 : decode cX8_record 92 = .ok (.return_, 1) := by decide +kernel
theorem dX8_has_0 : decode cX8_has 0 = .ok (.iload_n 0, 1) := by decide +kernel
theorem dX8_has_1 : decode cX8_has 1 = .ok (.iload_n 1, 1) := by decide +kernel
theorem dX8_has_2 : decode cX8_has 2 = .ok (.ishr, 1) := by decide +kernel
theorem dX8_has_3 : decode cX8_has 3 = .ok (.iconst 1, 1) := by decide +kernel
theorem dX8_has_4 : decode cX8_has 4 = .ok (.iand, 1) := by decide +kernel
theorem dX8_has_5 : decode cX8_has 5 = .ok (.iconst 1, 1) := by decide +kernel
theorem dX8_has_6 : decode cX8_has 6 = .ok (.if_icmp .ne 7, 3) := by decide +kernel
theorem dX8_has_9 : decode cX8_has 9 = .ok (.iconst 1, 1) := by decide +kernel
theorem dX8_has_10 : decode cX8_has 10 = .ok (.goto 4, 3) := by decide +kernel
theorem dX8_has_13 : decode cX8_has 13 = .ok (.iconst 0, 1) := by decide +kernel
theorem dX8_has_14 : decode cX8_has 14 = .ok (.ireturn, 1) := by decide +kernel
theorem dX8_bits_0 : decode cX8_bits 0 = .ok (.iconst 0, 1) := by decide +kernel
theorem dX8_bits_1 : decode cX8_bits 1 = .ok (.istore_n 1, 1) := by decide +kernel
theorem dX8_bits_2 : decode cX8_bits 2 = .ok (.iconst 0, 1) := by decide +kernel
theorem dX8_bits_3 : decode cX8_bits 3 = .ok (.istore_n 2, 1) := by decide +kernel
theorem dX8_bits_4 : decode cX8_bits 4 = .ok (.iload_n 2, 1) := by decide +kernel
theorem dX8_bits_5 : decode cX8_bits 5 = .ok (.bipush 16, 2) := by decide +kernel
theorem dX8_bits_7 : decode cX8_bits 7 = .ok (.if_icmp .ge 17, 3) := by decide +kernel
theorem dX8_bits_10 : decode cX8_bits 10 = .ok (.iload_n 1, 1) := by decide +kernel
theorem dX8_bits_11 : decode cX8_bits 11 = .ok (.iload_n 0, 1) := by decide +kernel
theorem dX8_bits_12 : decode cX8_bits 12 = .ok (.iload_n 2, 1) := by decide +kernel
theorem dX8_bits_13 : decode cX8_bits 13 = .ok (.ishr, 1) := by decide +kernel
theorem dX8_bits_14 : decode cX8_bits 14 = .ok (.iconst 1, 1) := by decide +kernel
theorem dX8_bits_15 : decode cX8_bits 15 = .ok (.iand, 1) := by decide +kernel
theorem dX8_bits_16 : decode cX8_bits 16 = .ok (.iadd, 1) := by decide +kernel
theorem dX8_bits_17 : decode cX8_bits 17 = .ok (.istore_n 1, 1) := by decide +kernel
theorem dX8_bits_18 : decode cX8_bits 18 = .ok (.iinc 2 1, 3) := by decide +kernel
theorem dX8_bits_21 : decode cX8_bits 21 = .ok (.goto (-17), 3) := by decide +kernel
theorem dX8_bits_24 : decode cX8_bits 24 = .ok (.iload_n 1, 1) := by decide +kernel
theorem dX8_bits_25 : decode cX8_bits 25 = .ok (.ireturn, 1) := by decide +kernel
theorem dX8_all_0 : decode cX8_all 0 = .ok (.iconst 1, 1) := by decide +kernel
theorem dX8_all_1 : decode cX8_all 1 = .ok (.aload_n 0, 1) := by decide +kernel
theorem dX8_all_2 : decode cX8_all 2 = .ok (.getfield 7, 3) := by decide +kernel
theorem dX8_all_5 : decode cX8_all 5 = .ok (.iconst 0, 1) := by decide +kernel
theorem dX8_all_6 : decode cX8_all 6 = .ok (.iaload, 1) := by decide +kernel
theorem dX8_all_7 : decode cX8_all 7 = .ok (.ishl, 1) := by decide +kernel
theorem dX8_all_8 : decode cX8_all 8 = .ok (.iconst 1, 1) := by decide +kernel
theorem dX8_all_9 : decode cX8_all 9 = .ok (.isub, 1) := by decide +kernel
theorem dX8_all_10 : decode cX8_all 10 = .ok (.ireturn, 1) := by decide +kernel
set_option maxRecDepth 20000 in
theorem ggX8_binds_X8_bits : GoodIn wsX8_binds wsX8_bits := goodIn_r _ [5] (by decide +kernel) (by decide +kernel)
set_option maxRecDepth 20000 in
theorem gX8_binds_X8_bits : GoodIn wsX8_binds (va_wsS RX8 46 yX8_bits wsX8_bits) := goodIn_app (goodIn_of _ (by decide +kernel)) ggX8_binds_X8_bits
theorem dX8_binds_0 : decode cX8_binds 0 = .ok (.aload_n 0, 1) := by decide +kernel
theorem dX8_binds_1 : decode cX8_binds 1 = .ok (.getfield 7, 3) := by decide +kernel
theorem dX8_binds_4 : decode cX8_binds 4 = .ok (.iconst 2, 1) := by decide +kernel
theorem dX8_binds_5 : decode cX8_binds 5 = .ok (.iload_n 1, 1) := by decide +kernel
theorem dX8_binds_6 : decode cX8_binds 6 = .ok (.iadd, 1) := by decide +kernel
theorem dX8_binds_7 : decode cX8_binds 7 = .ok (.dup2, 1) := by decide +kernel
theorem dX8_binds_8 : decode cX8_binds 8 = .ok (.iaload, 1) := by decide +kernel
theorem dX8_binds_9 : decode cX8_binds 9 = .ok (.iconst 1, 1) := by decide +kernel
theorem dX8_binds_10 : decode cX8_binds 10 = .ok (.iload_n 2, 1) := by decide +kernel
theorem dX8_binds_11 : decode cX8_binds 11 = .ok (.ishl, 1) := by decide +kernel
theorem dX8_binds_12 : decode cX8_binds 12 = .ok (.ior, 1) := by decide +kernel
theorem dX8_binds_13 : decode cX8_binds 13 = .ok (.iastore, 1) := by decide +kernel
theorem dX8_binds_14 : decode cX8_binds 14 = .ok (.aload_n 0, 1) := by decide +kernel
theorem dX8_binds_15 : decode cX8_binds 15 = .ok (.getfield 7, 3) := by decide +kernel
theorem dX8_binds_18 : decode cX8_binds 18 = .ok (.iconst 2, 1) := by decide +kernel
theorem dX8_binds_19 : decode cX8_binds 19 = .ok (.iload_n 2, 1) := by decide +kernel
theorem dX8_binds_20 : decode cX8_binds 20 = .ok (.iadd, 1) := by decide +kernel
theorem dX8_binds_21 : decode cX8_binds 21 = .ok (.dup2, 1) := by decide +kernel
theorem dX8_binds_22 : decode cX8_binds 22 = .ok (.iaload, 1) := by decide +kernel
theorem dX8_binds_23 : decode cX8_binds 23 = .ok (.iconst 1, 1) := by decide +kernel
theorem dX8_binds_24 : decode cX8_binds 24 = .ok (.iload_n 1, 1) := by decide +kernel
theorem dX8_binds_25 : decode cX8_binds 25 = .ok (.ishl, 1) := by decide +kernel
theorem dX8_binds_26 : decode cX8_binds 26 = .ok (.ior, 1) := by decide +kernel
theorem dX8_binds_27 : decode cX8_binds 27 = .ok (.iastore, 1) := by decide +kernel
theorem dX8_binds_28 : decode cX8_binds 28 = .ok (.aload_n 0, 1) := by decide +kernel
theorem dX8_binds_29 : decode cX8_binds 29 = .ok (.getfield 7, 3) := by decide +kernel
theorem dX8_binds_32 : decode cX8_binds 32 = .ok (.iconst 2, 1) := by decide +kernel
theorem dX8_binds_33 : decode cX8_binds 33 = .ok (.iload_n 1, 1) := by decide +kernel
theorem dX8_binds_34 : decode cX8_binds 34 = .ok (.iadd, 1) := by decide +kernel
theorem dX8_binds_35 : decode cX8_binds 35 = .ok (.iaload, 1) := by decide +kernel
theorem dX8_binds_36 : decode cX8_binds 36 = .ok (.invokestatic 46, 3) := by decide +kernel
theorem dX8_binds_39 : decode cX8_binds 39 = .ok (.ireturn, 1) := by decide +kernel
set_option maxRecDepth 20000 in
theorem ggX8_cuts_X8_bits : GoodIn wsX8_cuts wsX8_bits := goodIn_r _ [5] (by decide +kernel) (by decide +kernel)
set_option maxRecDepth 20000 in
theorem gX8_cuts_X8_bits : GoodIn wsX8_cuts (va_wsS RX8 46 yX8_bits wsX8_bits) := goodIn_app (goodIn_of _ (by decide +kernel)) ggX8_cuts_X8_bits
theorem dX8_cuts_0 : decode cX8_cuts 0 = .ok (.aload_n 0, 1) := by decide +kernel
theorem dX8_cuts_1 : decode cX8_cuts 1 = .ok (.getfield 7, 3) := by decide +kernel
theorem dX8_cuts_4 : decode cX8_cuts 4 = .ok (.iconst 2, 1) := by decide +kernel
theorem dX8_cuts_5 : decode cX8_cuts 5 = .ok (.iload_n 1, 1) := by decide +kernel
theorem dX8_cuts_6 : decode cX8_cuts 6 = .ok (.iadd, 1) := by decide +kernel
theorem dX8_cuts_7 : decode cX8_cuts 7 = .ok (.dup2, 1) := by decide +kernel
theorem dX8_cuts_8 : decode cX8_cuts 8 = .ok (.iaload, 1) := by decide +kernel
theorem dX8_cuts_9 : decode cX8_cuts 9 = .ok (.iconst 1, 1) := by decide +kernel
theorem dX8_cuts_10 : decode cX8_cuts 10 = .ok (.iload_n 2, 1) := by decide +kernel
theorem dX8_cuts_11 : decode cX8_cuts 11 = .ok (.ishl, 1) := by decide +kernel
theorem dX8_cuts_12 : decode cX8_cuts 12 = .ok (.iconst (-1), 1) := by decide +kernel
theorem dX8_cuts_13 : decode cX8_cuts 13 = .ok (.ixor, 1) := by decide +kernel
theorem dX8_cuts_14 : decode cX8_cuts 14 = .ok (.iand, 1) := by decide +kernel
theorem dX8_cuts_15 : decode cX8_cuts 15 = .ok (.iastore, 1) := by decide +kernel
theorem dX8_cuts_16 : decode cX8_cuts 16 = .ok (.aload_n 0, 1) := by decide +kernel
theorem dX8_cuts_17 : decode cX8_cuts 17 = .ok (.getfield 7, 3) := by decide +kernel
theorem dX8_cuts_20 : decode cX8_cuts 20 = .ok (.iconst 2, 1) := by decide +kernel
theorem dX8_cuts_21 : decode cX8_cuts 21 = .ok (.iload_n 2, 1) := by decide +kernel
theorem dX8_cuts_22 : decode cX8_cuts 22 = .ok (.iadd, 1) := by decide +kernel
theorem dX8_cuts_23 : decode cX8_cuts 23 = .ok (.dup2, 1) := by decide +kernel
theorem dX8_cuts_24 : decode cX8_cuts 24 = .ok (.iaload, 1) := by decide +kernel
theorem dX8_cuts_25 : decode cX8_cuts 25 = .ok (.iconst 1, 1) := by decide +kernel
theorem dX8_cuts_26 : decode cX8_cuts 26 = .ok (.iload_n 1, 1) := by decide +kernel
theorem dX8_cuts_27 : decode cX8_cuts 27 = .ok (.ishl, 1) := by decide +kernel
theorem dX8_cuts_28 : decode cX8_cuts 28 = .ok (.iconst (-1), 1) := by decide +kernel
theorem dX8_cuts_29 : decode cX8_cuts 29 = .ok (.ixor, 1) := by decide +kernel
theorem dX8_cuts_30 : decode cX8_cuts 30 = .ok (.iand, 1) := by decide +kernel
theorem dX8_cuts_31 : decode cX8_cuts 31 = .ok (.iastore, 1) := by decide +kernel
theorem dX8_cuts_32 : decode cX8_cuts 32 = .ok (.aload_n 0, 1) := by decide +kernel
theorem dX8_cuts_33 : decode cX8_cuts 33 = .ok (.getfield 7, 3) := by decide +kernel
theorem dX8_cuts_36 : decode cX8_cuts 36 = .ok (.iconst 2, 1) := by decide +kernel
theorem dX8_cuts_37 : decode cX8_cuts 37 = .ok (.iload_n 1, 1) := by decide +kernel
theorem dX8_cuts_38 : decode cX8_cuts 38 = .ok (.iadd, 1) := by decide +kernel
theorem dX8_cuts_39 : decode cX8_cuts 39 = .ok (.iaload, 1) := by decide +kernel
theorem dX8_cuts_40 : decode cX8_cuts 40 = .ok (.invokestatic 46, 3) := by decide +kernel
theorem dX8_cuts_43 : decode cX8_cuts 43 = .ok (.ireturn, 1) := by decide +kernel
set_option maxRecDepth 20000 in
theorem ggX8_areBound_X8_has : GoodIn wsX8_areBound wsX8_has := goodIn_r _ [5] (by decide +kernel) (by decide +kernel)
set_option maxRecDepth 20000 in
theorem gX8_areBound_X8_has : GoodIn wsX8_areBound (va_wsS RX8 50 yX8_has wsX8_has) := goodIn_app (goodIn_of _ (by decide +kernel)) ggX8_areBound_X8_has
theorem dX8_areBound_0 : decode cX8_areBound 0 = .ok (.aload_n 0, 1) := by decide +kernel
theorem dX8_areBound_1 : decode cX8_areBound 1 = .ok (.getfield 7, 3) := by decide +kernel
theorem dX8_areBound_4 : decode cX8_areBound 4 = .ok (.iconst 2, 1) := by decide +kernel
theorem dX8_areBound_5 : decode cX8_areBound 5 = .ok (.iload_n 1, 1) := by decide +kernel
theorem dX8_areBound_6 : decode cX8_areBound 6 = .ok (.iadd, 1) := by decide +kernel
theorem dX8_areBound_7 : decode cX8_areBound 7 = .ok (.iaload, 1) := by decide +kernel
theorem dX8_areBound_8 : decode cX8_areBound 8 = .ok (.iload_n 2, 1) := by decide +kernel
theorem dX8_areBound_9 : decode cX8_areBound 9 = .ok (.invokestatic 50, 3) := by decide +kernel
theorem dX8_areBound_12 : decode cX8_areBound 12 = .ok (.ireturn, 1) := by decide +kernel
theorem dX8_without_0 : decode cX8_without 0 = .ok (.iconst 1, 1) := by decide +kernel
theorem dX8_without_1 : decode cX8_without 1 = .ok (.iload_n 1, 1) := by decide +kernel
theorem dX8_without_2 : decode cX8_without 2 = .ok (.ishl, 1) := by decide +kernel
theorem dX8_without_3 : decode cX8_without 3 = .ok (.iconst 1, 1) := by decide +kernel
theorem dX8_without_4 : decode cX8_without 4 = .ok (.isub, 1) := by decide +kernel
theorem dX8_without_5 : decode cX8_without 5 = .ok (.istore_n 2, 1) := by decide +kernel
theorem dX8_without_6 : decode cX8_without 6 = .ok (.iload_n 0, 1) := by decide +kernel
theorem dX8_without_7 : decode cX8_without 7 = .ok (.iload_n 2, 1) := by decide +kernel
theorem dX8_without_8 : decode cX8_without 8 = .ok (.iand, 1) := by decide +kernel
theorem dX8_without_9 : decode cX8_without 9 = .ok (.iload_n 0, 1) := by decide +kernel
theorem dX8_without_10 : decode cX8_without 10 = .ok (.iconst 1, 1) := by decide +kernel
theorem dX8_without_11 : decode cX8_without 11 = .ok (.ishr, 1) := by decide +kernel
theorem dX8_without_12 : decode cX8_without 12 = .ok (.iload_n 2, 1) := by decide +kernel
theorem dX8_without_13 : decode cX8_without 13 = .ok (.iconst (-1), 1) := by decide +kernel
theorem dX8_without_14 : decode cX8_without 14 = .ok (.ixor, 1) := by decide +kernel
theorem dX8_without_15 : decode cX8_without 15 = .ok (.iand, 1) := by decide +kernel
theorem dX8_without_16 : decode cX8_without 16 = .ok (.ior, 1) := by decide +kernel
theorem dX8_without_17 : decode cX8_without 17 = .ok (.ireturn, 1) := by decide +kernel
set_option maxRecDepth 20000 in
theorem ggX8_left_X8_has : GoodIn wsX8_left wsX8_has := goodIn_r _ [5] (by decide +kernel) (by decide +kernel)
set_option maxRecDepth 20000 in
theorem gX8_left_X8_has : GoodIn wsX8_left (va_wsS RX8 50 yX8_has wsX8_has) := goodIn_app (goodIn_of _ (by decide +kernel)) ggX8_left_X8_has
set_option maxRecDepth 20000 in
theorem ggX8_left_X8_bits : GoodIn wsX8_left wsX8_bits := goodIn_r _ [8] (by decide +kernel) (by decide +kernel)
set_option maxRecDepth 20000 in
theorem gX8_left_X8_bits : GoodIn wsX8_left (va_wsS RX8 46 yX8_bits wsX8_bits) := goodIn_app (goodIn_of _ (by decide +kernel)) ggX8_left_X8_bits
theorem dX8_left_0 : decode cX8_left 0 = .ok (.iload_n 1, 1) := by decide +kernel
theorem dX8_left_1 : decode cX8_left 1 = .ok (.istore 4, 2) := by decide +kernel
theorem dX8_left_3 : decode cX8_left 3 = .ok (.iconst (-1), 1) := by decide +kernel
theorem dX8_left_4 : decode cX8_left 4 = .ok (.istore 5, 2) := by decide +kernel
theorem dX8_left_6 : decode cX8_left 6 = .ok (.iload 5, 2) := by decide +kernel
theorem dX8_left_8 : decode cX8_left 8 = .ok (.iload 4, 2) := by decide +kernel
theorem dX8_left_10 : decode cX8_left 10 = .ok (.if_icmp .eq 96, 3) := by decide +kernel
theorem dX8_left_13 : decode cX8_left 13 = .ok (.iload 4, 2) := by decide +kernel
theorem dX8_left_15 : decode cX8_left 15 = .ok (.istore 5, 2) := by decide +kernel
theorem dX8_left_17 : decode cX8_left 17 = .ok (.iconst 0, 1) := by decide +kernel
theorem dX8_left_18 : decode cX8_left 18 = .ok (.istore 6, 2) := by decide +kernel
theorem dX8_left_20 : decode cX8_left 20 = .ok (.iload 6, 2) := by decide +kernel
theorem dX8_left_22 : decode cX8_left 22 = .ok (.aload_n 0, 1) := by decide +kernel
theorem dX8_left_23 : decode cX8_left 23 = .ok (.getfield 7, 3) := by decide +kernel
theorem dX8_left_26 : decode cX8_left 26 = .ok (.iconst 0, 1) := by decide +kernel
theorem dX8_left_27 : decode cX8_left 27 = .ok (.iaload, 1) := by decide +kernel
theorem dX8_left_28 : decode cX8_left 28 = .ok (.if_icmp .ge 75, 3) := by decide +kernel
theorem dX8_left_31 : decode cX8_left 31 = .ok (.iload 4, 2) := by decide +kernel
theorem dX8_left_33 : decode cX8_left 33 = .ok (.iload 6, 2) := by decide +kernel
theorem dX8_left_35 : decode cX8_left 35 = .ok (.invokestatic 50, 3) := by decide +kernel
theorem dX8_left_38 : decode cX8_left 38 = .ok (.ifCond .eq 35, 3) := by decide +kernel
theorem dX8_left_41 : decode cX8_left 41 = .ok (.iload_n 3, 1) := by decide +kernel
theorem dX8_left_42 : decode cX8_left 42 = .ok (.iload 6, 2) := by decide +kernel
theorem dX8_left_44 : decode cX8_left 44 = .ok (.invokestatic 50, 3) := by decide +kernel
theorem dX8_left_47 : decode cX8_left 47 = .ok (.ifCond .ne 26, 3) := by decide +kernel
theorem dX8_left_50 : decode cX8_left 50 = .ok (.aload_n 0, 1) := by decide +kernel
theorem dX8_left_51 : decode cX8_left 51 = .ok (.getfield 7, 3) := by decide +kernel
theorem dX8_left_54 : decode cX8_left 54 = .ok (.iconst 2, 1) := by decide +kernel
theorem dX8_left_55 : decode cX8_left 55 = .ok (.iload 6, 2) := by decide +kernel
theorem dX8_left_57 : decode cX8_left 57 = .ok (.iadd, 1) := by decide +kernel
theorem dX8_left_58 : decode cX8_left 58 = .ok (.iaload, 1) := by decide +kernel
theorem dX8_left_59 : decode cX8_left 59 = .ok (.iload 4, 2) := by decide +kernel
theorem dX8_left_61 : decode cX8_left 61 = .ok (.iand, 1) := by decide +kernel
theorem dX8_left_62 : decode cX8_left 62 = .ok (.invokestatic 46, 3) := by decide +kernel
theorem dX8_left_65 : decode cX8_left 65 = .ok (.iload_n 2, 1) := by decide +kernel
theorem dX8_left_66 : decode cX8_left 66 = .ok (.if_icmp .ge 7, 3) := by decide +kernel
theorem dX8_left_69 : decode cX8_left 69 = .ok (.iconst 1, 1) := by decide +kernel
theorem dX8_left_70 : decode cX8_left 70 = .ok (.goto 4, 3) := by decide +kernel
theorem dX8_left_73 : decode cX8_left 73 = .ok (.iconst 0, 1) := by decide +kernel
theorem dX8_left_74 : decode cX8_left 74 = .ok (.istore 7, 2) := by decide +kernel
theorem dX8_left_76 : decode cX8_left 76 = .ok (.iload 7, 2) := by decide +kernel
theorem dX8_left_78 : decode cX8_left 78 = .ok (.ifCond .eq 15, 3) := by decide +kernel
theorem dX8_left_81 : decode cX8_left 81 = .ok (.iload 4, 2) := by decide +kernel
theorem dX8_left_83 : decode cX8_left 83 = .ok (.iconst 1, 1) := by decide +kernel
theorem dX8_left_84 : decode cX8_left 84 = .ok (.iload 6, 2) := by decide +kernel
theorem dX8_left_86 : decode cX8_left 86 = .ok (.ishl, 1) := by decide +kernel
theorem dX8_left_87 : decode cX8_left 87 = .ok (.iconst (-1), 1) := by decide +kernel
theorem dX8_left_88 : decode cX8_left 88 = .ok (.ixor, 1) := by decide +kernel
theorem dX8_left_89 : decode cX8_left 89 = .ok (.iand, 1) := by decide +kernel
theorem dX8_left_90 : decode cX8_left 90 = .ok (.goto 5, 3) := by decide +kernel
theorem dX8_left_93 : decode cX8_left 93 = .ok (.iload 4, 2) := by decide +kernel
theorem dX8_left_95 : decode cX8_left 95 = .ok (.istore 4, 2) := by decide +kernel
theorem dX8_left_97 : decode cX8_left 97 = .ok (.iinc 6 1, 3) := by decide +kernel
theorem dX8_left_100 : decode cX8_left 100 = .ok (.goto (-80), 3) := by decide +kernel
theorem dX8_left_103 : decode cX8_left 103 = .ok (.goto (-97), 3) := by decide +kernel
theorem dX8_left_106 : decode cX8_left 106 = .ok (.iload 4, 2) := by decide +kernel
theorem dX8_left_108 : decode cX8_left 108 = .ok (.ireturn, 1) := by decide +kernel
set_option maxRecDepth 20000 in
theorem ggX8_cored_X8_all : GoodIn wsX8_cored wsX8_all := goodIn_r _ [6, 1, 17, 18, 19, 20, 21, 22, 23, 24, 25, 26, 27, 28, 29] (by decide +kernel) (by decide +kernel)
set_option maxRecDepth 20000 in
theorem gX8_cored_X8_all : GoodIn wsX8_cored (wsV RX8 54 RX8 yX8_all wsX8_all) := goodIn_app (goodIn_of _ (by decide +kernel)) ggX8_cored_X8_all
set_option maxRecDepth 20000 in
theorem ggX8_cored_X8_left : GoodIn wsX8_cored wsX8_left := goodIn_r _ [10, 1, 11, 12, 5, 13, 14, 15, 16, 17, 18, 19, 20, 21, 22, 23, 24, 25, 26, 27, 28, 29] (by decide +kernel) (by decide +kernel)
set_option maxRecDepth 20000 in
theorem gX8_cored_X8_left : GoodIn wsX8_cored (wsV RX8 58 RX8 yX8_left wsX8_left) := goodIn_app (goodIn_of _ (by decide +kernel)) ggX8_cored_X8_left
theorem dX8_cored_0 : decode cX8_cored 0 = .ok (.aload_n 0, 1) := by decide +kernel
theorem dX8_cored_1 : decode cX8_cored 1 = .ok (.aload_n 0, 1) := by decide +kernel
theorem dX8_cored_2 : decode cX8_cored 2 = .ok (.invokevirtual 54, 3) := by decide +kernel
theorem dX8_cored_5 : decode cX8_cored 5 = .ok (.iload_n 1, 1) := by decide +kernel
theorem dX8_cored_6 : decode cX8_cored 6 = .ok (.aload_n 0, 1) := by decide +kernel
theorem dX8_cored_7 : decode cX8_cored 7 = .ok (.getfield 7, 3) := by decide +kernel
theorem dX8_cored_10 : decode cX8_cored 10 = .ok (.iconst 1, 1) := by decide +kernel
theorem dX8_cored_11 : decode cX8_cored 11 = .ok (.iaload, 1) := by decide +kernel
theorem dX8_cored_12 : decode cX8_cored 12 = .ok (.invokevirtual 58, 3) := by decide +kernel
theorem dX8_cored_15 : decode cX8_cored 15 = .ok (.ireturn, 1) := by decide +kernel
set_option maxRecDepth 20000 in
theorem ggX8_coreNumber_X8_cored : GoodIn wsX8_coreNumber wsX8_cored := goodIn_r _ [5, 6, 7, 8, 9, 4, 10, 11, 12, 13, 14, 15, 16, 17, 18, 19, 20, 21, 22, 23, 24, 25, 26, 27, 28, 29, 30, 31, 32, 33] (by decide +kernel) (by decide +kernel)
set_option maxRecDepth 20000 in
theorem gX8_coreNumber_X8_cored : GoodIn wsX8_coreNumber (wsV RX8 62 RX8 yX8_cored wsX8_cored) := goodIn_app (goodIn_of _ (by decide +kernel)) ggX8_coreNumber_X8_cored
set_option maxRecDepth 20000 in
theorem ggX8_coreNumber_X8_has : GoodIn wsX8_coreNumber wsX8_has := goodIn_r _ [17] (by decide +kernel) (by decide +kernel)
set_option maxRecDepth 20000 in
theorem gX8_coreNumber_X8_has : GoodIn wsX8_coreNumber (va_wsS RX8 50 yX8_has wsX8_has) := goodIn_app (goodIn_of _ (by decide +kernel)) ggX8_coreNumber_X8_has
theorem dX8_coreNumber_0 : decode cX8_coreNumber 0 = .ok (.bipush 15, 2) := by decide +kernel
theorem dX8_coreNumber_2 : decode cX8_coreNumber 2 = .ok (.istore_n 2, 1) := by decide +kernel
theorem dX8_coreNumber_3 : decode cX8_coreNumber 3 = .ok (.aload_n 0, 1) := by decide +kernel
theorem dX8_coreNumber_4 : decode cX8_coreNumber 4 = .ok (.iload_n 2, 1) := by decide +kernel
theorem dX8_coreNumber_5 : decode cX8_coreNumber 5 = .ok (.invokevirtual 62, 3) := by decide +kernel
theorem dX8_coreNumber_8 : decode cX8_coreNumber 8 = .ok (.iload_n 1, 1) := by decide +kernel
theorem dX8_coreNumber_9 : decode cX8_coreNumber 9 = .ok (.invokestatic 50, 3) := by decide +kernel
theorem dX8_coreNumber_12 : decode cX8_coreNumber 12 = .ok (.ifCond .ne 9, 3) := by decide +kernel
theorem dX8_coreNumber_15 : decode cX8_coreNumber 15 = .ok (.iinc 2 (-1), 3) := by decide +kernel
theorem dX8_coreNumber_18 : decode cX8_coreNumber 18 = .ok (.goto (-15), 3) := by decide +kernel
theorem dX8_coreNumber_21 : decode cX8_coreNumber 21 = .ok (.iload_n 2, 1) := by decide +kernel
theorem dX8_coreNumber_22 : decode cX8_coreNumber 22 = .ok (.ireturn, 1) := by decide +kernel
set_option maxRecDepth 20000 in
theorem ggX8_falls_X8_all : GoodIn wsX8_falls wsX8_all := goodIn_r _ [7, 1, 14, 15, 16, 17, 18, 19, 20, 21, 22, 23, 24, 25, 26] (by decide +kernel) (by decide +kernel)
set_option maxRecDepth 20000 in
theorem gX8_falls_X8_all : GoodIn wsX8_falls (wsV RX8 54 RX8 yX8_all wsX8_all) := goodIn_app (goodIn_of _ (by decide +kernel)) ggX8_falls_X8_all
set_option maxRecDepth 20000 in
theorem ggX8_falls_X8_has : GoodIn wsX8_falls wsX8_has := goodIn_r _ [10] (by decide +kernel) (by decide +kernel)
set_option maxRecDepth 20000 in
theorem gX8_falls_X8_has : GoodIn wsX8_falls (va_wsS RX8 50 yX8_has wsX8_has) := goodIn_app (goodIn_of _ (by decide +kernel)) ggX8_falls_X8_has
set_option maxRecDepth 20000 in
theorem ggX8_falls_X8_bits : GoodIn wsX8_falls wsX8_bits := goodIn_r _ [13] (by decide +kernel) (by decide +kernel)
set_option maxRecDepth 20000 in
theorem gX8_falls_X8_bits : GoodIn wsX8_falls (va_wsS RX8 46 yX8_bits wsX8_bits) := goodIn_app (goodIn_of _ (by decide +kernel)) ggX8_falls_X8_bits
theorem dX8_falls_0 : decode cX8_falls 0 = .ok (.aload_n 0, 1) := by decide +kernel
theorem dX8_falls_1 : decode cX8_falls 1 = .ok (.invokevirtual 54, 3) := by decide +kernel
theorem dX8_falls_4 : decode cX8_falls 4 = .ok (.istore_n 1, 1) := by decide +kernel
theorem dX8_falls_5 : decode cX8_falls 5 = .ok (.iconst 0, 1) := by decide +kernel
theorem dX8_falls_6 : decode cX8_falls 6 = .ok (.istore_n 2, 1) := by decide +kernel
theorem dX8_falls_7 : decode cX8_falls 7 = .ok (.iload_n 2, 1) := by decide +kernel
theorem dX8_falls_8 : decode cX8_falls 8 = .ok (.aload_n 0, 1) := by decide +kernel
theorem dX8_falls_9 : decode cX8_falls 9 = .ok (.getfield 7, 3) := by decide +kernel
theorem dX8_falls_12 : decode cX8_falls 12 = .ok (.iconst 0, 1) := by decide +kernel
theorem dX8_falls_13 : decode cX8_falls 13 = .ok (.iaload, 1) := by decide +kernel
theorem dX8_falls_14 : decode cX8_falls 14 = .ok (.if_icmp .ge 169, 3) := by decide +kernel
theorem dX8_falls_17 : decode cX8_falls 17 = .ok (.iload_n 1, 1) := by decide +kernel
theorem dX8_falls_18 : decode cX8_falls 18 = .ok (.aload_n 0, 1) := by decide +kernel
theorem dX8_falls_19 : decode cX8_falls 19 = .ok (.getfield 7, 3) := by decide +kernel
theorem dX8_falls_22 : decode cX8_falls 22 = .ok (.iconst 1, 1) := by decide +kernel
theorem dX8_falls_23 : decode cX8_falls 23 = .ok (.iaload, 1) := by decide +kernel
theorem dX8_falls_24 : decode cX8_falls 24 = .ok (.iconst (-1), 1) := by decide +kernel
theorem dX8_falls_25 : decode cX8_falls 25 = .ok (.ixor, 1) := by decide +kernel
theorem dX8_falls_26 : decode cX8_falls 26 = .ok (.iand, 1) := by decide +kernel
theorem dX8_falls_27 : decode cX8_falls 27 = .ok (.ifCond .eq 7, 3) := by decide +kernel
theorem dX8_falls_30 : decode cX8_falls 30 = .ok (.iconst 1, 1) := by decide +kernel
theorem dX8_falls_31 : decode cX8_falls 31 = .ok (.goto 4, 3) := by decide +kernel
theorem dX8_falls_34 : decode cX8_falls 34 = .ok (.iconst 0, 1) := by decide +kernel
theorem dX8_falls_35 : decode cX8_falls 35 = .ok (.istore_n 3, 1) := by decide +kernel
theorem dX8_falls_36 : decode cX8_falls 36 = .ok (.iconst (-1), 1) := by decide +kernel
theorem dX8_falls_37 : decode cX8_falls 37 = .ok (.istore 4, 2) := by decide +kernel
theorem dX8_falls_39 : decode cX8_falls 39 = .ok (.aload_n 0, 1) := by decide +kernel
theorem dX8_falls_40 : decode cX8_falls 40 = .ok (.getfield 7, 3) := by decide +kernel
theorem dX8_falls_43 : decode cX8_falls 43 = .ok (.iconst 0, 1) := by decide +kernel
theorem dX8_falls_44 : decode cX8_falls 44 = .ok (.iaload, 1) := by decide +kernel
theorem dX8_falls_45 : decode cX8_falls 45 = .ok (.iconst 1, 1) := by decide +kernel
theorem dX8_falls_46 : decode cX8_falls 46 = .ok (.isub, 1) := by decide +kernel
theorem dX8_falls_47 : decode cX8_falls 47 = .ok (.istore 5, 2) := by decide +kernel
theorem dX8_falls_49 : decode cX8_falls 49 = .ok (.iload 5, 2) := by decide +kernel
theorem dX8_falls_51 : decode cX8_falls 51 = .ok (.ifCond .lt 109, 3) := by decide +kernel
theorem dX8_falls_54 : decode cX8_falls 54 = .ok (.iload_n 1, 1) := by decide +kernel
theorem dX8_falls_55 : decode cX8_falls 55 = .ok (.iload 5, 2) := by decide +kernel
theorem dX8_falls_57 : decode cX8_falls 57 = .ok (.invokestatic 50, 3) := by decide +kernel
theorem dX8_falls_60 : decode cX8_falls 60 = .ok (.ifCond .eq 25, 3) := by decide +kernel
theorem dX8_falls_63 : decode cX8_falls 63 = .ok (.iload_n 3, 1) := by decide +kernel
theorem dX8_falls_64 : decode cX8_falls 64 = .ok (.ifCond .eq 17, 3) := by decide +kernel
theorem dX8_falls_67 : decode cX8_falls 67 = .ok (.aload_n 0, 1) := by decide +kernel
theorem dX8_falls_68 : decode cX8_falls 68 = .ok (.getfield 7, 3) := by decide +kernel
theorem dX8_falls_71 : decode cX8_falls 71 = .ok (.iconst 1, 1) := by decide +kernel
theorem dX8_falls_72 : decode cX8_falls 72 = .ok (.iaload, 1) := by decide +kernel
theorem dX8_falls_73 : decode cX8_falls 73 = .ok (.iload 5, 2) := by decide +kernel
theorem dX8_falls_75 : decode cX8_falls 75 = .ok (.invokestatic 50, 3) := by decide +kernel
theorem dX8_falls_78 : decode cX8_falls 78 = .ok (.ifCond .ne 7, 3) := by decide +kernel
theorem dX8_falls_81 : decode cX8_falls 81 = .ok (.iconst 1, 1) := by decide +kernel
theorem dX8_falls_82 : decode cX8_falls 82 = .ok (.goto 4, 3) := by decide +kernel
theorem dX8_falls_85 : decode cX8_falls 85 = .ok (.iconst 0, 1) := by decide +kernel
theorem dX8_falls_86 : decode cX8_falls 86 = .ok (.istore 6, 2) := by decide +kernel
theorem dX8_falls_88 : decode cX8_falls 88 = .ok (.iload 4, 2) := by decide +kernel
theorem dX8_falls_90 : decode cX8_falls 90 = .ok (.ifCond .lt 38, 3) := by decide +kernel
theorem dX8_falls_93 : decode cX8_falls 93 = .ok (.iload_n 3, 1) := by decide +kernel
theorem dX8_falls_94 : decode cX8_falls 94 = .ok (.ifCond .eq 34, 3) := by decide +kernel
theorem dX8_falls_97 : decode cX8_falls 97 = .ok (.aload_n 0, 1) := by decide +kernel
theorem dX8_falls_98 : decode cX8_falls 98 = .ok (.getfield 7, 3) := by decide +kernel
theorem dX8_falls_101 : decode cX8_falls 101 = .ok (.iconst 2, 1) := by decide +kernel
theorem dX8_falls_102 : decode cX8_falls 102 = .ok (.iload 5, 2) := by decide +kernel
theorem dX8_falls_104 : decode cX8_falls 104 = .ok (.iadd, 1) := by decide +kernel
theorem dX8_falls_105 : decode cX8_falls 105 = .ok (.iaload, 1) := by decide +kernel
theorem dX8_falls_106 : decode cX8_falls 106 = .ok (.iload_n 1, 1) := by decide +kernel
theorem dX8_falls_107 : decode cX8_falls 107 = .ok (.iand, 1) := by decide +kernel
theorem dX8_falls_108 : decode cX8_falls 108 = .ok (.invokestatic 46, 3) := by decide +kernel
theorem dX8_falls_111 : decode cX8_falls 111 = .ok (.aload_n 0, 1) := by decide +kernel
theorem dX8_falls_112 : decode cX8_falls 112 = .ok (.getfield 7, 3) := by decide +kernel
theorem dX8_falls_115 : decode cX8_falls 115 = .ok (.iconst 2, 1) := by decide +kernel
theorem dX8_falls_116 : decode cX8_falls 116 = .ok (.iload 4, 2) := by decide +kernel
theorem dX8_falls_118 : decode cX8_falls 118 = .ok (.iadd, 1) := by decide +kernel
theorem dX8_falls_119 : decode cX8_falls 119 = .ok (.iaload, 1) := by decide +kernel
theorem dX8_falls_120 : decode cX8_falls 120 = .ok (.iload_n 1, 1) := by decide +kernel
theorem dX8_falls_121 : decode cX8_falls 121 = .ok (.iand, 1) := by decide +kernel
theorem dX8_falls_122 : decode cX8_falls 122 = .ok (.invokestatic 46, 3) := by decide +kernel
theorem dX8_falls_125 : decode cX8_falls 125 = .ok (.if_icmp .gt 7, 3) := by decide +kernel
theorem dX8_falls_128 : decode cX8_falls 128 = .ok (.iconst 1, 1) := by decide +kernel
theorem dX8_falls_129 : decode cX8_falls 129 = .ok (.goto 4, 3) := by decide +kernel
theorem dX8_falls_132 : decode cX8_falls 132 = .ok (.iconst 0, 1) := by decide +kernel
theorem dX8_falls_133 : decode cX8_falls 133 = .ok (.istore 7, 2) := by decide +kernel
theorem dX8_falls_135 : decode cX8_falls 135 = .ok (.iload 6, 2) := by decide +kernel
theorem dX8_falls_137 : decode cX8_falls 137 = .ok (.ifCond .eq 13, 3) := by decide +kernel
theorem dX8_falls_140 : decode cX8_falls 140 = .ok (.iload 7, 2) := by decide +kernel
theorem dX8_falls_142 : decode cX8_falls 142 = .ok (.ifCond .eq 8, 3) := by decide +kernel
theorem dX8_falls_145 : decode cX8_falls 145 = .ok (.iload 5, 2) := by decide +kernel
theorem dX8_falls_147 : decode cX8_falls 147 = .ok (.goto 5, 3) := by decide +kernel
theorem dX8_falls_150 : decode cX8_falls 150 = .ok (.iload 4, 2) := by decide +kernel
theorem dX8_falls_152 : decode cX8_falls 152 = .ok (.istore 4, 2) := by decide +kernel
theorem dX8_falls_154 : decode cX8_falls 154 = .ok (.iinc 5 (-1), 3) := by decide +kernel
theorem dX8_falls_157 : decode cX8_falls 157 = .ok (.goto (-108), 3) := by decide +kernel
theorem dX8_falls_160 : decode cX8_falls 160 = .ok (.aload_n 0, 1) := by decide +kernel
theorem dX8_falls_161 : decode cX8_falls 161 = .ok (.getfield 22, 3) := by decide +kernel
theorem dX8_falls_164 : decode cX8_falls 164 = .ok (.iload_n 2, 1) := by decide +kernel
theorem dX8_falls_165 : decode cX8_falls 165 = .ok (.iload 4, 2) := by decide +kernel
theorem dX8_falls_167 : decode cX8_falls 167 = .ok (.iastore, 1) := by decide +kernel
theorem dX8_falls_168 : decode cX8_falls 168 = .ok (.iload_n 1, 1) := by decide +kernel
theorem dX8_falls_169 : decode cX8_falls 169 = .ok (.iconst 1, 1) := by decide +kernel
theorem dX8_falls_170 : decode cX8_falls 170 = .ok (.iload 4, 2) := by decide +kernel
theorem dX8_falls_172 : decode cX8_falls 172 = .ok (.ishl, 1) := by decide +kernel
theorem dX8_falls_173 : decode cX8_falls 173 = .ok (.iconst (-1), 1) := by decide +kernel
theorem dX8_falls_174 : decode cX8_falls 174 = .ok (.ixor, 1) := by decide +kernel
theorem dX8_falls_175 : decode cX8_falls 175 = .ok (.iand, 1) := by decide +kernel
theorem dX8_falls_176 : decode cX8_falls 176 = .ok (.istore_n 1, 1) := by decide +kernel
theorem dX8_falls_177 : decode cX8_falls 177 = .ok (.iinc 2 1, 3) := by decide +kernel
theorem dX8_falls_180 : decode cX8_falls 180 = .ok (.goto (-173), 3) := by decide +kernel
theorem dX8_falls_183 : decode cX8_falls 183 = .ok (.return_, 1) := by decide +kernel
set_option maxRecDepth 20000 in
theorem ggX8_colorsAll_X8_falls : GoodIn wsX8_colorsAll wsX8_falls := goodIn_r _ [8, 1, 2, 9, 10, 11, 7, 12, 13, 14, 15, 16, 17, 18, 19, 20, 21, 22, 23, 24, 25, 26, 27, 28, 29, 30, 31] (by decide +kernel) (by decide +kernel)
set_option maxRecDepth 20000 in
theorem gX8_colorsAll_X8_falls : GoodIn wsX8_colorsAll (wsV RX8 65 RX8 yX8_falls wsX8_falls) := goodIn_app (goodIn_of _ (by decide +kernel)) ggX8_colorsAll_X8_falls
set_option maxRecDepth 20000 in
theorem ggX8_colorsAll_X8_has : GoodIn wsX8_colorsAll wsX8_has := goodIn_r _ [15] (by decide +kernel) (by decide +kernel)
set_option maxRecDepth 20000 in
theorem gX8_colorsAll_X8_has : GoodIn wsX8_colorsAll (va_wsS RX8 50 yX8_has wsX8_has) := goodIn_app (goodIn_of _ (by decide +kernel)) ggX8_colorsAll_X8_has
theorem dX8_colorsAll_0 : decode cX8_colorsAll 0 = .ok (.aload_n 0, 1) := by decide +kernel
theorem dX8_colorsAll_1 : decode cX8_colorsAll 1 = .ok (.invokevirtual 65, 3) := by decide +kernel
theorem dX8_colorsAll_4 : decode cX8_colorsAll 4 = .ok (.iconst 0, 1) := by decide +kernel
theorem dX8_colorsAll_5 : decode cX8_colorsAll 5 = .ok (.istore_n 1, 1) := by decide +kernel
theorem dX8_colorsAll_6 : decode cX8_colorsAll 6 = .ok (.aload_n 0, 1) := by decide +kernel
theorem dX8_colorsAll_7 : decode cX8_colorsAll 7 = .ok (.getfield 7, 3) := by decide +kernel
theorem dX8_colorsAll_10 : decode cX8_colorsAll 10 = .ok (.iconst 0, 1) := by decide +kernel
theorem dX8_colorsAll_11 : decode cX8_colorsAll 11 = .ok (.iaload, 1) := by decide +kernel
theorem dX8_colorsAll_12 : decode cX8_colorsAll 12 = .ok (.iconst 1, 1) := by decide +kernel
theorem dX8_colorsAll_13 : decode cX8_colorsAll 13 = .ok (.isub, 1) := by decide +kernel
theorem dX8_colorsAll_14 : decode cX8_colorsAll 14 = .ok (.istore_n 2, 1) := by decide +kernel
theorem dX8_colorsAll_15 : decode cX8_colorsAll 15 = .ok (.iload_n 2, 1) := by decide +kernel
theorem dX8_colorsAll_16 : decode cX8_colorsAll 16 = .ok (.ifCond .lt 115, 3) := by decide +kernel
theorem dX8_colorsAll_19 : decode cX8_colorsAll 19 = .ok (.aload_n 0, 1) := by decide +kernel
theorem dX8_colorsAll_20 : decode cX8_colorsAll 20 = .ok (.getfield 22, 3) := by decide +kernel
theorem dX8_colorsAll_23 : decode cX8_colorsAll 23 = .ok (.iload_n 2, 1) := by decide +kernel
theorem dX8_colorsAll_24 : decode cX8_colorsAll 24 = .ok (.iaload, 1) := by decide +kernel
theorem dX8_colorsAll_25 : decode cX8_colorsAll 25 = .ok (.istore_n 3, 1) := by decide +kernel
theorem dX8_colorsAll_26 : decode cX8_colorsAll 26 = .ok (.iconst 0, 1) := by decide +kernel
theorem dX8_colorsAll_27 : decode cX8_colorsAll 27 = .ok (.istore 4, 2) := by decide +kernel
theorem dX8_colorsAll_29 : decode cX8_colorsAll 29 = .ok (.iconst 0, 1) := by decide +kernel
theorem dX8_colorsAll_30 : decode cX8_colorsAll 30 = .ok (.istore 5, 2) := by decide +kernel
theorem dX8_colorsAll_32 : decode cX8_colorsAll 32 = .ok (.iload 5, 2) := by decide +kernel
theorem dX8_colorsAll_34 : decode cX8_colorsAll 34 = .ok (.aload_n 0, 1) := by decide +kernel
theorem dX8_colorsAll_35 : decode cX8_colorsAll 35 = .ok (.getfield 7, 3) := by decide +kernel
theorem dX8_colorsAll_38 : decode cX8_colorsAll 38 = .ok (.iconst 0, 1) := by decide +kernel
theorem dX8_colorsAll_39 : decode cX8_colorsAll 39 = .ok (.iaload, 1) := by decide +kernel
theorem dX8_colorsAll_40 : decode cX8_colorsAll 40 = .ok (.if_icmp .ge 45, 3) := by decide +kernel
theorem dX8_colorsAll_43 : decode cX8_colorsAll 43 = .ok (.iload 4, 2) := by decide +kernel
theorem dX8_colorsAll_45 : decode cX8_colorsAll 45 = .ok (.iload_n 1, 1) := by decide +kernel
theorem dX8_colorsAll_46 : decode cX8_colorsAll 46 = .ok (.aload_n 0, 1) := by decide +kernel
theorem dX8_colorsAll_47 : decode cX8_colorsAll 47 = .ok (.getfield 7, 3) := by decide +kernel
theorem dX8_colorsAll_50 : decode cX8_colorsAll 50 = .ok (.iconst 2, 1) := by decide +kernel
theorem dX8_colorsAll_51 : decode cX8_colorsAll 51 = .ok (.iload_n 3, 1) := by decide +kernel
theorem dX8_colorsAll_52 : decode cX8_colorsAll 52 = .ok (.iadd, 1) := by decide +kernel
theorem dX8_colorsAll_53 : decode cX8_colorsAll 53 = .ok (.iaload, 1) := by decide +kernel
theorem dX8_colorsAll_54 : decode cX8_colorsAll 54 = .ok (.iand, 1) := by decide +kernel
theorem dX8_colorsAll_55 : decode cX8_colorsAll 55 = .ok (.iload 5, 2) := by decide +kernel
theorem dX8_colorsAll_57 : decode cX8_colorsAll 57 = .ok (.invokestatic 50, 3) := by decide +kernel
theorem dX8_colorsAll_60 : decode cX8_colorsAll 60 = .ok (.ifCond .eq 15, 3) := by decide +kernel
theorem dX8_colorsAll_63 : decode cX8_colorsAll 63 = .ok (.iconst 1, 1) := by decide +kernel
theorem dX8_colorsAll_64 : decode cX8_colorsAll 64 = .ok (.aload_n 0, 1) := by decide +kernel
theorem dX8_colorsAll_65 : decode cX8_colorsAll 65 = .ok (.getfield 25, 3) := by decide +kernel
theorem dX8_colorsAll_68 : decode cX8_colorsAll 68 = .ok (.iload 5, 2) := by decide +kernel
theorem dX8_colorsAll_70 : decode cX8_colorsAll 70 = .ok (.iaload, 1) := by decide +kernel
theorem dX8_colorsAll_71 : decode cX8_colorsAll 71 = .ok (.ishl, 1) := by decide +kernel
theorem dX8_colorsAll_72 : decode cX8_colorsAll 72 = .ok (.goto 4, 3) := by decide +kernel
theorem dX8_colorsAll_75 : decode cX8_colorsAll 75 = .ok (.iconst 0, 1) := by decide +kernel
theorem dX8_colorsAll_76 : decode cX8_colorsAll 76 = .ok (.ior, 1) := by decide +kernel
theorem dX8_colorsAll_77 : decode cX8_colorsAll 77 = .ok (.istore 4, 2) := by decide +kernel
theorem dX8_colorsAll_79 : decode cX8_colorsAll 79 = .ok (.iinc 5 1, 3) := by decide +kernel
theorem dX8_colorsAll_82 : decode cX8_colorsAll 82 = .ok (.goto (-50), 3) := by decide +kernel
theorem dX8_colorsAll_85 : decode cX8_colorsAll 85 = .ok (.aload_n 0, 1) := by decide +kernel
theorem dX8_colorsAll_86 : decode cX8_colorsAll 86 = .ok (.getfield 25, 3) := by decide +kernel
theorem dX8_colorsAll_89 : decode cX8_colorsAll 89 = .ok (.iload_n 3, 1) := by decide +kernel
theorem dX8_colorsAll_90 : decode cX8_colorsAll 90 = .ok (.iconst 0, 1) := by decide +kernel
theorem dX8_colorsAll_91 : decode cX8_colorsAll 91 = .ok (.iastore, 1) := by decide +kernel
theorem dX8_colorsAll_92 : decode cX8_colorsAll 92 = .ok (.iload 4, 2) := by decide +kernel
theorem dX8_colorsAll_94 : decode cX8_colorsAll 94 = .ok (.aload_n 0, 1) := by decide +kernel
theorem dX8_colorsAll_95 : decode cX8_colorsAll 95 = .ok (.getfield 25, 3) := by decide +kernel
theorem dX8_colorsAll_98 : decode cX8_colorsAll 98 = .ok (.iload_n 3, 1) := by decide +kernel
theorem dX8_colorsAll_99 : decode cX8_colorsAll 99 = .ok (.iaload, 1) := by decide +kernel
theorem dX8_colorsAll_100 : decode cX8_colorsAll 100 = .ok (.invokestatic 50, 3) := by decide +kernel
theorem dX8_colorsAll_103 : decode cX8_colorsAll 103 = .ok (.ifCond .eq 16, 3) := by decide +kernel
theorem dX8_colorsAll_106 : decode cX8_colorsAll 106 = .ok (.aload_n 0, 1) := by decide +kernel
theorem dX8_colorsAll_107 : decode cX8_colorsAll 107 = .ok (.getfield 25, 3) := by decide +kernel
theorem dX8_colorsAll_110 : decode cX8_colorsAll 110 = .ok (.iload_n 3, 1) := by decide +kernel
theorem dX8_colorsAll_111 : decode cX8_colorsAll 111 = .ok (.dup2, 1) := by decide +kernel
theorem dX8_colorsAll_112 : decode cX8_colorsAll 112 = .ok (.iaload, 1) := by decide +kernel
theorem dX8_colorsAll_113 : decode cX8_colorsAll 113 = .ok (.iconst 1, 1) := by decide +kernel
theorem dX8_colorsAll_114 : decode cX8_colorsAll 114 = .ok (.iadd, 1) := by decide +kernel
theorem dX8_colorsAll_115 : decode cX8_colorsAll 115 = .ok (.iastore, 1) := by decide +kernel
theorem dX8_colorsAll_116 : decode cX8_colorsAll 116 = .ok (.goto (-24), 3) := by decide +kernel
theorem dX8_colorsAll_119 : decode cX8_colorsAll 119 = .ok (.iload_n 1, 1) := by decide +kernel
theorem dX8_colorsAll_120 : decode cX8_colorsAll 120 = .ok (.iconst 1, 1) := by decide +kernel
theorem dX8_colorsAll_121 : decode cX8_colorsAll 121 = .ok (.iload_n 3, 1) := by decide +kernel
theorem dX8_colorsAll_122 : decode cX8_colorsAll 122 = .ok (.ishl, 1) := by decide +kernel
theorem dX8_colorsAll_123 : decode cX8_colorsAll 123 = .ok (.ior, 1) := by decide +kernel
theorem dX8_colorsAll_124 : decode cX8_colorsAll 124 = .ok (.istore_n 1, 1) := by decide +kernel
theorem dX8_colorsAll_125 : decode cX8_colorsAll 125 = .ok (.iinc 2 (-1), 3) := by decide +kernel
theorem dX8_colorsAll_128 : decode cX8_colorsAll 128 = .ok (.goto (-113), 3) := by decide +kernel
theorem dX8_colorsAll_131 : decode cX8_colorsAll 131 = .ok (.return_, 1) := by decide +kernel
set_option maxRecDepth 20000 in
theorem ggX8_supported_X8_bits : GoodIn wsX8_supported wsX8_bits := goodIn_r _ [5] (by decide +kernel) (by decide +kernel)
set_option maxRecDepth 20000 in
theorem gX8_supported_X8_bits : GoodIn wsX8_supported (va_wsS RX8 46 yX8_bits wsX8_bits) := goodIn_app (goodIn_of _ (by decide +kernel)) ggX8_supported_X8_bits
theorem dX8_supported_0 : decode cX8_supported 0 = .ok (.aload_n 0, 1) := by decide +kernel
theorem dX8_supported_1 : decode cX8_supported 1 = .ok (.getfield 28, 3) := by decide +kernel
theorem dX8_supported_4 : decode cX8_supported 4 = .ok (.iload_n 1, 1) := by decide +kernel
theorem dX8_supported_5 : decode cX8_supported 5 = .ok (.iaload, 1) := by decide +kernel
theorem dX8_supported_6 : decode cX8_supported 6 = .ok (.aload_n 0, 1) := by decide +kernel
theorem dX8_supported_7 : decode cX8_supported 7 = .ok (.getfield 28, 3) := by decide +kernel
theorem dX8_supported_10 : decode cX8_supported 10 = .ok (.iload_n 2, 1) := by decide +kernel
theorem dX8_supported_11 : decode cX8_supported 11 = .ok (.iaload, 1) := by decide +kernel
theorem dX8_supported_12 : decode cX8_supported 12 = .ok (.iand, 1) := by decide +kernel
theorem dX8_supported_13 : decode cX8_supported 13 = .ok (.invokestatic 46, 3) := by decide +kernel
theorem dX8_supported_16 : decode cX8_supported 16 = .ok (.ireturn, 1) := by decide +kernel
set_option maxRecDepth 20000 in
theorem ggX8_trusses_X8_has : GoodIn wsX8_trusses wsX8_has := goodIn_r _ [6] (by decide +kernel) (by decide +kernel)
set_option maxRecDepth 20000 in
theorem gX8_trusses_X8_has : GoodIn wsX8_trusses (va_wsS RX8 50 yX8_has wsX8_has) := goodIn_app (goodIn_of _ (by decide +kernel)) ggX8_trusses_X8_has
set_option maxRecDepth 20000 in
theorem ggX8_trusses_X8_supported : GoodIn wsX8_trusses wsX8_supported := goodIn_r _ [10, 2, 11, 12, 5, 13, 14, 15, 16, 17, 18, 19, 20, 21, 22, 23, 24, 25, 26] (by decide +kernel) (by decide +kernel)
set_option maxRecDepth 20000 in
theorem gX8_trusses_X8_supported : GoodIn wsX8_trusses (wsV RX8 68 RX8 yX8_supported wsX8_supported) := goodIn_app (goodIn_of _ (by decide +kernel)) ggX8_trusses_X8_supported
theorem dX8_trusses_0 : decode cX8_trusses 0 = .ok (.iconst 0, 1) := by decide +kernel
theorem dX8_trusses_1 : decode cX8_trusses 1 = .ok (.istore_n 2, 1) := by decide +kernel
theorem dX8_trusses_2 : decode cX8_trusses 2 = .ok (.iload_n 2, 1) := by decide +kernel
theorem dX8_trusses_3 : decode cX8_trusses 3 = .ok (.aload_n 0, 1) := by decide +kernel
theorem dX8_trusses_4 : decode cX8_trusses 4 = .ok (.getfield 7, 3) := by decide +kernel
theorem dX8_trusses_7 : decode cX8_trusses 7 = .ok (.iconst 0, 1) := by decide +kernel
theorem dX8_trusses_8 : decode cX8_trusses 8 = .ok (.iaload, 1) := by decide +kernel
theorem dX8_trusses_9 : decode cX8_trusses 9 = .ok (.if_icmp .ge 23, 3) := by decide +kernel
theorem dX8_trusses_12 : decode cX8_trusses 12 = .ok (.aload_n 0, 1) := by decide +kernel
theorem dX8_trusses_13 : decode cX8_trusses 13 = .ok (.getfield 28, 3) := by decide +kernel
theorem dX8_trusses_16 : decode cX8_trusses 16 = .ok (.iload_n 2, 1) := by decide +kernel
theorem dX8_trusses_17 : decode cX8_trusses 17 = .ok (.aload_n 0, 1) := by decide +kernel
theorem dX8_trusses_18 : decode cX8_trusses 18 = .ok (.getfield 7, 3) := by decide +kernel
theorem dX8_trusses_21 : decode cX8_trusses 21 = .ok (.iconst 2, 1) := by decide +kernel
theorem dX8_trusses_22 : decode cX8_trusses 22 = .ok (.iload_n 2, 1) := by decide +kernel
theorem dX8_trusses_23 : decode cX8_trusses 23 = .ok (.iadd, 1) := by decide +kernel
theorem dX8_trusses_24 : decode cX8_trusses 24 = .ok (.iaload, 1) := by decide +kernel
theorem dX8_trusses_25 : decode cX8_trusses 25 = .ok (.iastore, 1) := by decide +kernel
theorem dX8_trusses_26 : decode cX8_trusses 26 = .ok (.iinc 2 1, 3) := by decide +kernel
theorem dX8_trusses_29 : decode cX8_trusses 29 = .ok (.goto (-27), 3) := by decide +kernel
theorem dX8_trusses_32 : decode cX8_trusses 32 = .ok (.iconst 1, 1) := by decide +kernel
theorem dX8_trusses_33 : decode cX8_trusses 33 = .ok (.istore_n 2, 1) := by decide +kernel
theorem dX8_trusses_34 : decode cX8_trusses 34 = .ok (.iload_n 2, 1) := by decide +kernel
theorem dX8_trusses_35 : decode cX8_trusses 35 = .ok (.ifCond .eq 98, 3) := by decide +kernel
theorem dX8_trusses_38 : decode cX8_trusses 38 = .ok (.iconst 0, 1) := by decide +kernel
theorem dX8_trusses_39 : decode cX8_trusses 39 = .ok (.istore_n 2, 1) := by decide +kernel
theorem dX8_trusses_40 : decode cX8_trusses 40 = .ok (.iconst 0, 1) := by decide +kernel
theorem dX8_trusses_41 : decode cX8_trusses 41 = .ok (.istore_n 3, 1) := by decide +kernel
theorem dX8_trusses_42 : decode cX8_trusses 42 = .ok (.iload_n 3, 1) := by decide +kernel
theorem dX8_trusses_43 : decode cX8_trusses 43 = .ok (.aload_n 0, 1) := by decide +kernel
theorem dX8_trusses_44 : decode cX8_trusses 44 = .ok (.getfield 7, 3) := by decide +kernel
theorem dX8_trusses_47 : decode cX8_trusses 47 = .ok (.iconst 0, 1) := by decide +kernel
theorem dX8_trusses_48 : decode cX8_trusses 48 = .ok (.iaload, 1) := by decide +kernel
theorem dX8_trusses_49 : decode cX8_trusses 49 = .ok (.if_icmp .ge 81, 3) := by decide +kernel
theorem dX8_trusses_52 : decode cX8_trusses 52 = .ok (.iconst 0, 1) := by decide +kernel
theorem dX8_trusses_53 : decode cX8_trusses 53 = .ok (.istore 4, 2) := by decide +kernel
theorem dX8_trusses_55 : decode cX8_trusses 55 = .ok (.iload 4, 2) := by decide +kernel
theorem dX8_trusses_57 : decode cX8_trusses 57 = .ok (.iload_n 3, 1) := by decide +kernel
theorem dX8_trusses_58 : decode cX8_trusses 58 = .ok (.if_icmp .ge 66, 3) := by decide +kernel
theorem dX8_trusses_61 : decode cX8_trusses 61 = .ok (.aload_n 0, 1) := by decide +kernel
theorem dX8_trusses_62 : decode cX8_trusses 62 = .ok (.getfield 28, 3) := by decide +kernel
theorem dX8_trusses_65 : decode cX8_trusses 65 = .ok (.iload_n 3, 1) := by decide +kernel
theorem dX8_trusses_66 : decode cX8_trusses 66 = .ok (.iaload, 1) := by decide +kernel
theorem dX8_trusses_67 : decode cX8_trusses 67 = .ok (.iload 4, 2) := by decide +kernel
theorem dX8_trusses_69 : decode cX8_trusses 69 = .ok (.invokestatic 50, 3) := by decide +kernel
theorem dX8_trusses_72 : decode cX8_trusses 72 = .ok (.ifCond .eq 46, 3) := by decide +kernel
theorem dX8_trusses_75 : decode cX8_trusses 75 = .ok (.aload_n 0, 1) := by decide +kernel
theorem dX8_trusses_76 : decode cX8_trusses 76 = .ok (.iload_n 3, 1) := by decide +kernel
theorem dX8_trusses_77 : decode cX8_trusses 77 = .ok (.iload 4, 2) := by decide +kernel
theorem dX8_trusses_79 : decode cX8_trusses 79 = .ok (.invokevirtual 68, 3) := by decide +kernel
theorem dX8_trusses_82 : decode cX8_trusses 82 = .ok (.iload_n 1, 1) := by decide +kernel
theorem dX8_trusses_83 : decode cX8_trusses 83 = .ok (.if_icmp .ge 35, 3) := by decide +kernel
theorem dX8_trusses_86 : decode cX8_trusses 86 = .ok (.aload_n 0, 1) := by decide +kernel
theorem dX8_trusses_87 : decode cX8_trusses 87 = .ok (.getfield 28, 3) := by decide +kernel
theorem dX8_trusses_90 : decode cX8_trusses 90 = .ok (.iload_n 3, 1) := by decide +kernel
theorem dX8_trusses_91 : decode cX8_trusses 91 = .ok (.dup2, 1) := by decide +kernel
theorem dX8_trusses_92 : decode cX8_trusses 92 = .ok (.iaload, 1) := by decide +kernel
theorem dX8_trusses_93 : decode cX8_trusses 93 = .ok (.iconst 1, 1) := by decide +kernel
theorem dX8_trusses_94 : decode cX8_trusses 94 = .ok (.iload 4, 2) := by decide +kernel
theorem dX8_trusses_96 : decode cX8_trusses 96 = .ok (.ishl, 1) := by decide +kernel
theorem dX8_trusses_97 : decode cX8_trusses 97 = .ok (.iconst (-1), 1) := by decide +kernel
theorem dX8_trusses_98 : decode cX8_trusses 98 = .ok (.ixor, 1) := by decide +kernel
theorem dX8_trusses_99 : decode cX8_trusses 99 = .ok (.iand, 1) := by decide +kernel
theorem dX8_trusses_100 : decode cX8_trusses 100 = .ok (.iastore, 1) := by decide +kernel
theorem dX8_trusses_101 : decode cX8_trusses 101 = .ok (.aload_n 0, 1) := by decide +kernel
theorem dX8_trusses_102 : decode cX8_trusses 102 = .ok (.getfield 28, 3) := by decide +kernel
theorem dX8_trusses_105 : decode cX8_trusses 105 = .ok (.iload 4, 2) := by decide +kernel
theorem dX8_trusses_107 : decode cX8_trusses 107 = .ok (.dup2, 1) := by decide +kernel
theorem dX8_trusses_108 : decode cX8_trusses 108 = .ok (.iaload, 1) := by decide +kernel
theorem dX8_trusses_109 : decode cX8_trusses 109 = .ok (.iconst 1, 1) := by decide +kernel
theorem dX8_trusses_110 : decode cX8_trusses 110 = .ok (.iload_n 3, 1) := by decide +kernel
theorem dX8_trusses_111 : decode cX8_trusses 111 = .ok (.ishl, 1) := by decide +kernel
theorem dX8_trusses_112 : decode cX8_trusses 112 = .ok (.iconst (-1), 1) := by decide +kernel
theorem dX8_trusses_113 : decode cX8_trusses 113 = .ok (.ixor, 1) := by decide +kernel
theorem dX8_trusses_114 : decode cX8_trusses 114 = .ok (.iand, 1) := by decide +kernel
theorem dX8_trusses_115 : decode cX8_trusses 115 = .ok (.iastore, 1) := by decide +kernel
theorem dX8_trusses_116 : decode cX8_trusses 116 = .ok (.iconst 1, 1) := by decide +kernel
theorem dX8_trusses_117 : decode cX8_trusses 117 = .ok (.istore_n 2, 1) := by decide +kernel
theorem dX8_trusses_118 : decode cX8_trusses 118 = .ok (.iinc 4 1, 3) := by decide +kernel
theorem dX8_trusses_121 : decode cX8_trusses 121 = .ok (.goto (-66), 3) := by decide +kernel
theorem dX8_trusses_124 : decode cX8_trusses 124 = .ok (.iinc 3 1, 3) := by decide +kernel
theorem dX8_trusses_127 : decode cX8_trusses 127 = .ok (.goto (-85), 3) := by decide +kernel
theorem dX8_trusses_130 : decode cX8_trusses 130 = .ok (.goto (-96), 3) := by decide +kernel
theorem dX8_trusses_133 : decode cX8_trusses 133 = .ok (.return_, 1) := by decide +kernel
set_option maxRecDepth 20000 in
theorem ggX8_thorns_X8_trusses : GoodIn wsX8_thorns wsX8_trusses := goodIn_r _ [7, 1, 2, 8, 9, 6, 10, 11, 12, 13, 14, 15, 16, 17, 18, 19, 20, 21, 22, 23, 24, 25, 26, 27, 28, 29, 30] (by decide +kernel) (by decide +kernel)
set_option maxRecDepth 20000 in
theorem gX8_thorns_X8_trusses : GoodIn wsX8_thorns (wsV RX8 72 RX8 yX8_trusses wsX8_trusses) := goodIn_app (goodIn_of _ (by decide +kernel)) ggX8_thorns_X8_trusses
set_option maxRecDepth 20000 in
theorem ggX8_thorns_X8_bits : GoodIn wsX8_thorns wsX8_bits := goodIn_r _ [17] (by decide +kernel) (by decide +kernel)
set_option maxRecDepth 20000 in
theorem gX8_thorns_X8_bits : GoodIn wsX8_thorns (va_wsS RX8 46 yX8_bits wsX8_bits) := goodIn_app (goodIn_of _ (by decide +kernel)) ggX8_thorns_X8_bits
theorem dX8_thorns_0 : decode cX8_thorns 0 = .ok (.aload_n 0, 1) := by decide +kernel
theorem dX8_thorns_1 : decode cX8_thorns 1 = .ok (.iload_n 1, 1) := by decide +kernel
theorem dX8_thorns_2 : decode cX8_thorns 2 = .ok (.invokevirtual 72, 3) := by decide +kernel
theorem dX8_thorns_5 : decode cX8_thorns 5 = .ok (.iconst 0, 1) := by decide +kernel
theorem dX8_thorns_6 : decode cX8_thorns 6 = .ok (.istore_n 2, 1) := by decide +kernel
theorem dX8_thorns_7 : decode cX8_thorns 7 = .ok (.iconst 0, 1) := by decide +kernel
theorem dX8_thorns_8 : decode cX8_thorns 8 = .ok (.istore_n 3, 1) := by decide +kernel
theorem dX8_thorns_9 : decode cX8_thorns 9 = .ok (.iload_n 3, 1) := by decide +kernel
theorem dX8_thorns_10 : decode cX8_thorns 10 = .ok (.aload_n 0, 1) := by decide +kernel
theorem dX8_thorns_11 : decode cX8_thorns 11 = .ok (.getfield 7, 3) := by decide +kernel
theorem dX8_thorns_14 : decode cX8_thorns 14 = .ok (.iconst 0, 1) := by decide +kernel
theorem dX8_thorns_15 : decode cX8_thorns 15 = .ok (.iaload, 1) := by decide +kernel
theorem dX8_thorns_16 : decode cX8_thorns 16 = .ok (.if_icmp .ge 21, 3) := by decide +kernel
theorem dX8_thorns_19 : decode cX8_thorns 19 = .ok (.iload_n 2, 1) := by decide +kernel
theorem dX8_thorns_20 : decode cX8_thorns 20 = .ok (.aload_n 0, 1) := by decide +kernel
theorem dX8_thorns_21 : decode cX8_thorns 21 = .ok (.getfield 28, 3) := by decide +kernel
theorem dX8_thorns_24 : decode cX8_thorns 24 = .ok (.iload_n 3, 1) := by decide +kernel
theorem dX8_thorns_25 : decode cX8_thorns 25 = .ok (.iaload, 1) := by decide +kernel
theorem dX8_thorns_26 : decode cX8_thorns 26 = .ok (.invokestatic 46, 3) := by decide +kernel
theorem dX8_thorns_29 : decode cX8_thorns 29 = .ok (.iadd, 1) := by decide +kernel
theorem dX8_thorns_30 : decode cX8_thorns 30 = .ok (.istore_n 2, 1) := by decide +kernel
theorem dX8_thorns_31 : decode cX8_thorns 31 = .ok (.iinc 3 1, 3) := by decide +kernel
theorem dX8_thorns_34 : decode cX8_thorns 34 = .ok (.goto (-25), 3) := by decide +kernel
theorem dX8_thorns_37 : decode cX8_thorns 37 = .ok (.iload_n 2, 1) := by decide +kernel
theorem dX8_thorns_38 : decode cX8_thorns 38 = .ok (.iconst 2, 1) := by decide +kernel
theorem dX8_thorns_39 : decode cX8_thorns 39 = .ok (.idiv, 1) := by decide +kernel
theorem dX8_thorns_40 : decode cX8_thorns 40 = .ok (.ireturn, 1) := by decide +kernel
set_option maxRecDepth 20000 in
theorem ggX8_plant_X8_throwing : GoodIn wsX8_plant wsX8_throwing := goodIn_r _ [7, 1, 14, 15, 16, 17, 18, 19, 20, 21, 22, 23, 24, 25, 26] (by decide +kernel) (by decide +kernel)
set_option maxRecDepth 20000 in
theorem gX8_plant_X8_throwing : GoodIn wsX8_plant (wsV RX8 76 RX8 yX8_throwing wsX8_throwing) := goodIn_app (goodIn_of _ (by decide +kernel)) ggX8_plant_X8_throwing
set_option maxRecDepth 20000 in
theorem ggX8_plant_X8_record : GoodIn wsX8_plant wsX8_record := goodIn_r _ [11, 12, 13, 2, 14, 15, 16, 17, 18, 19, 20, 21, 22, 23, 24, 25, 26] (by decide +kernel) (by decide +kernel)
set_option maxRecDepth 20000 in
theorem gX8_plant_X8_record : GoodIn wsX8_plant (wsV RX8 79 RX8 yX8_record wsX8_record) := goodIn_app (goodIn_of _ (by decide +kernel)) ggX8_plant_X8_record
theorem dX8_plant_0 : decode cX8_plant 0 = .ok (.aload_n 0, 1) := by decide +kernel
theorem dX8_plant_1 : decode cX8_plant 1 = .ok (.iconst 0, 1) := by decide +kernel
theorem dX8_plant_2 : decode cX8_plant 2 = .ok (.putfield 31, 3) := by decide +kernel
theorem dX8_plant_5 : decode cX8_plant 5 = .ok (.aload_n 0, 1) := by decide +kernel
theorem dX8_plant_6 : decode cX8_plant 6 = .ok (.getfield 7, 3) := by decide +kernel
theorem dX8_plant_9 : decode cX8_plant 9 = .ok (.iconst 0, 1) := by decide +kernel
theorem dX8_plant_10 : decode cX8_plant 10 = .ok (.iaload, 1) := by decide +kernel
theorem dX8_plant_11 : decode cX8_plant 11 = .ok (.bipush 16, 2) := by decide +kernel
theorem dX8_plant_13 : decode cX8_plant 13 = .ok (.if_icmp .ne 9, 3) := by decide +kernel
theorem dX8_plant_16 : decode cX8_plant 16 = .ok (.aload_n 0, 1) := by decide +kernel
theorem dX8_plant_17 : decode cX8_plant 17 = .ok (.iconst 1, 1) := by decide +kernel
theorem dX8_plant_18 : decode cX8_plant 18 = .ok (.invokevirtual 76, 3) := by decide +kernel
theorem dX8_plant_21 : decode cX8_plant 21 = .ok (.ireturn, 1) := by decide +kernel
theorem dX8_plant_22 : decode cX8_plant 22 = .ok (.aload_n 0, 1) := by decide +kernel
theorem dX8_plant_23 : decode cX8_plant 23 = .ok (.invokevirtual 79, 3) := by decide +kernel
theorem dX8_plant_26 : decode cX8_plant 26 = .ok (.aload_n 0, 1) := by decide +kernel
theorem dX8_plant_27 : decode cX8_plant 27 = .ok (.getfield 7, 3) := by decide +kernel
theorem dX8_plant_30 : decode cX8_plant 30 = .ok (.iconst 0, 1) := by decide +kernel
theorem dX8_plant_31 : decode cX8_plant 31 = .ok (.dup2, 1) := by decide +kernel
theorem dX8_plant_32 : decode cX8_plant 32 = .ok (.iaload, 1) := by decide +kernel
theorem dX8_plant_33 : decode cX8_plant 33 = .ok (.iconst 1, 1) := by decide +kernel
theorem dX8_plant_34 : decode cX8_plant 34 = .ok (.iadd, 1) := by decide +kernel
theorem dX8_plant_35 : decode cX8_plant 35 = .ok (.iastore, 1) := by decide +kernel
theorem dX8_plant_36 : decode cX8_plant 36 = .ok (.aload_n 0, 1) := by decide +kernel
theorem dX8_plant_37 : decode cX8_plant 37 = .ok (.getfield 7, 3) := by decide +kernel
theorem dX8_plant_40 : decode cX8_plant 40 = .ok (.iconst 0, 1) := by decide +kernel
theorem dX8_plant_41 : decode cX8_plant 41 = .ok (.iaload, 1) := by decide +kernel
theorem dX8_plant_42 : decode cX8_plant 42 = .ok (.iconst 1, 1) := by decide +kernel
theorem dX8_plant_43 : decode cX8_plant 43 = .ok (.isub, 1) := by decide +kernel
theorem dX8_plant_44 : decode cX8_plant 44 = .ok (.ireturn, 1) := by decide +kernel
set_option maxRecDepth 20000 in
theorem ggX8_uproot_X8_isThere : GoodIn wsX8_uproot wsX8_isThere := goodIn_r _ [6, 7, 8, 9, 10, 5, 11, 1, 12, 13, 14, 27, 28, 29, 30, 31, 32, 33, 34, 35, 36, 37, 38, 39] (by decide +kernel) (by decide +kernel)
set_option maxRecDepth 20000 in
theorem gX8_uproot_X8_isThere : GoodIn wsX8_uproot (wsV RX8 82 RX8 yX8_isThere wsX8_isThere) := goodIn_app (goodIn_of _ (by decide +kernel)) ggX8_uproot_X8_isThere
set_option maxRecDepth 20000 in
theorem ggX8_uproot_X8_record : GoodIn wsX8_uproot wsX8_record := goodIn_r _ [18, 19, 20, 1, 27, 28, 29, 30, 31, 32, 33, 34, 35, 36, 37, 38, 39] (by decide +kernel) (by decide +kernel)
set_option maxRecDepth 20000 in
theorem gX8_uproot_X8_record : GoodIn wsX8_uproot (wsV RX8 79 RX8 yX8_record wsX8_record) := goodIn_app (goodIn_of _ (by decide +kernel)) ggX8_uproot_X8_record
set_option maxRecDepth 20000 in
theorem ggX8_uproot_X8_bits : GoodIn wsX8_uproot wsX8_bits := goodIn_r _ [23] (by decide +kernel) (by decide +kernel)
set_option maxRecDepth 20000 in
theorem gX8_uproot_X8_bits : GoodIn wsX8_uproot (va_wsS RX8 46 yX8_bits wsX8_bits) := goodIn_app (goodIn_of _ (by decide +kernel)) ggX8_uproot_X8_bits
set_option maxRecDepth 20000 in
theorem ggX8_uproot_X8_without : GoodIn wsX8_uproot wsX8_without := goodIn_r _ [26] (by decide +kernel) (by decide +kernel)
set_option maxRecDepth 20000 in
theorem gX8_uproot_X8_without : GoodIn wsX8_uproot (va_wsS RX8 85 yX8_without wsX8_without) := goodIn_app (goodIn_of _ (by decide +kernel)) ggX8_uproot_X8_without
theorem dX8_uproot_0 : decode cX8_uproot 0 = .ok (.aload_n 0, 1) := by decide +kernel
theorem dX8_uproot_1 : decode cX8_uproot 1 = .ok (.iload_n 1, 1) := by decide +kernel
theorem dX8_uproot_2 : decode cX8_uproot 2 = .ok (.invokevirtual 82, 3) := by decide +kernel
theorem dX8_uproot_5 : decode cX8_uproot 5 = .ok (.ifCond .ne 5, 3) := by decide +kernel
theorem dX8_uproot_8 : decode cX8_uproot 8 = .ok (.iconst 0, 1) := by decide +kernel
theorem dX8_uproot_9 : decode cX8_uproot 9 = .ok (.ireturn, 1) := by decide +kernel
theorem dX8_uproot_10 : decode cX8_uproot 10 = .ok (.aload_n 0, 1) := by decide +kernel
theorem dX8_uproot_11 : decode cX8_uproot 11 = .ok (.invokevirtual 79, 3) := by decide +kernel
theorem dX8_uproot_14 : decode cX8_uproot 14 = .ok (.aload_n 0, 1) := by decide +kernel
theorem dX8_uproot_15 : decode cX8_uproot 15 = .ok (.getfield 7, 3) := by decide +kernel
theorem dX8_uproot_18 : decode cX8_uproot 18 = .ok (.iconst 2, 1) := by decide +kernel
theorem dX8_uproot_19 : decode cX8_uproot 19 = .ok (.iload_n 1, 1) := by decide +kernel
theorem dX8_uproot_20 : decode cX8_uproot 20 = .ok (.iadd, 1) := by decide +kernel
theorem dX8_uproot_21 : decode cX8_uproot 21 = .ok (.iaload, 1) := by decide +kernel
theorem dX8_uproot_22 : decode cX8_uproot 22 = .ok (.invokestatic 46, 3) := by decide +kernel
theorem dX8_uproot_25 : decode cX8_uproot 25 = .ok (.istore_n 2, 1) := by decide +kernel
theorem dX8_uproot_26 : decode cX8_uproot 26 = .ok (.iload_n 1, 1) := by decide +kernel
theorem dX8_uproot_27 : decode cX8_uproot 27 = .ok (.istore_n 3, 1) := by decide +kernel
theorem dX8_uproot_28 : decode cX8_uproot 28 = .ok (.iload_n 3, 1) := by decide +kernel
theorem dX8_uproot_29 : decode cX8_uproot 29 = .ok (.aload_n 0, 1) := by decide +kernel
theorem dX8_uproot_30 : decode cX8_uproot 30 = .ok (.getfield 7, 3) := by decide +kernel
theorem dX8_uproot_33 : decode cX8_uproot 33 = .ok (.iconst 0, 1) := by decide +kernel
theorem dX8_uproot_34 : decode cX8_uproot 34 = .ok (.iaload, 1) := by decide +kernel
theorem dX8_uproot_35 : decode cX8_uproot 35 = .ok (.iconst 1, 1) := by decide +kernel
theorem dX8_uproot_36 : decode cX8_uproot 36 = .ok (.isub, 1) := by decide +kernel
theorem dX8_uproot_37 : decode cX8_uproot 37 = .ok (.if_icmp .ge 27, 3) := by decide +kernel
theorem dX8_uproot_40 : decode cX8_uproot 40 = .ok (.aload_n 0, 1) := by decide +kernel
theorem dX8_uproot_41 : decode cX8_uproot 41 = .ok (.getfield 7, 3) := by decide +kernel
theorem dX8_uproot_44 : decode cX8_uproot 44 = .ok (.iconst 2, 1) := by decide +kernel
theorem dX8_uproot_45 : decode cX8_uproot 45 = .ok (.iload_n 3, 1) := by decide +kernel
theorem dX8_uproot_46 : decode cX8_uproot 46 = .ok (.iadd, 1) := by decide +kernel
theorem dX8_uproot_47 : decode cX8_uproot 47 = .ok (.aload_n 0, 1) := by decide +kernel
theorem dX8_uproot_48 : decode cX8_uproot 48 = .ok (.getfield 7, 3) := by decide +kernel
theorem dX8_uproot_51 : decode cX8_uproot 51 = .ok (.iconst 2, 1) := by decide +kernel
theorem dX8_uproot_52 : decode cX8_uproot 52 = .ok (.iload_n 3, 1) := by decide +kernel
theorem dX8_uproot_53 : decode cX8_uproot 53 = .ok (.iadd, 1) := by decide +kernel
theorem dX8_uproot_54 : decode cX8_uproot 54 = .ok (.iconst 1, 1) := by decide +kernel
theorem dX8_uproot_55 : decode cX8_uproot 55 = .ok (.iadd, 1) := by decide +kernel
theorem dX8_uproot_56 : decode cX8_uproot 56 = .ok (.iaload, 1) := by decide +kernel
theorem dX8_uproot_57 : decode cX8_uproot 57 = .ok (.iastore, 1) := by decide +kernel
theorem dX8_uproot_58 : decode cX8_uproot 58 = .ok (.iinc 3 1, 3) := by decide +kernel
theorem dX8_uproot_61 : decode cX8_uproot 61 = .ok (.goto (-33), 3) := by decide +kernel
theorem dX8_uproot_64 : decode cX8_uproot 64 = .ok (.aload_n 0, 1) := by decide +kernel
theorem dX8_uproot_65 : decode cX8_uproot 65 = .ok (.getfield 7, 3) := by decide +kernel
theorem dX8_uproot_68 : decode cX8_uproot 68 = .ok (.iconst 0, 1) := by decide +kernel
theorem dX8_uproot_69 : decode cX8_uproot 69 = .ok (.dup2, 1) := by decide +kernel
theorem dX8_uproot_70 : decode cX8_uproot 70 = .ok (.iaload, 1) := by decide +kernel
theorem dX8_uproot_71 : decode cX8_uproot 71 = .ok (.iconst 1, 1) := by decide +kernel
theorem dX8_uproot_72 : decode cX8_uproot 72 = .ok (.isub, 1) := by decide +kernel
theorem dX8_uproot_73 : decode cX8_uproot 73 = .ok (.iastore, 1) := by decide +kernel
theorem dX8_uproot_74 : decode cX8_uproot 74 = .ok (.aload_n 0, 1) := by decide +kernel
theorem dX8_uproot_75 : decode cX8_uproot 75 = .ok (.getfield 7, 3) := by decide +kernel
theorem dX8_uproot_78 : decode cX8_uproot 78 = .ok (.iconst 2, 1) := by decide +kernel
theorem dX8_uproot_79 : decode cX8_uproot 79 = .ok (.aload_n 0, 1) := by decide +kernel
theorem dX8_uproot_80 : decode cX8_uproot 80 = .ok (.getfield 7, 3) := by decide +kernel
theorem dX8_uproot_83 : decode cX8_uproot 83 = .ok (.iconst 0, 1) := by decide +kernel
theorem dX8_uproot_84 : decode cX8_uproot 84 = .ok (.iaload, 1) := by decide +kernel
theorem dX8_uproot_85 : decode cX8_uproot 85 = .ok (.iadd, 1) := by decide +kernel
theorem dX8_uproot_86 : decode cX8_uproot 86 = .ok (.iconst 0, 1) := by decide +kernel
theorem dX8_uproot_87 : decode cX8_uproot 87 = .ok (.iastore, 1) := by decide +kernel
theorem dX8_uproot_88 : decode cX8_uproot 88 = .ok (.iconst 0, 1) := by decide +kernel
theorem dX8_uproot_89 : decode cX8_uproot 89 = .ok (.istore_n 3, 1) := by decide +kernel
theorem dX8_uproot_90 : decode cX8_uproot 90 = .ok (.iload_n 3, 1) := by decide +kernel
theorem dX8_uproot_91 : decode cX8_uproot 91 = .ok (.aload_n 0, 1) := by decide +kernel
theorem dX8_uproot_92 : decode cX8_uproot 92 = .ok (.getfield 7, 3) := by decide +kernel
theorem dX8_uproot_95 : decode cX8_uproot 95 = .ok (.iconst 0, 1) := by decide +kernel
theorem dX8_uproot_96 : decode cX8_uproot 96 = .ok (.iaload, 1) := by decide +kernel
theorem dX8_uproot_97 : decode cX8_uproot 97 = .ok (.if_icmp .ge 29, 3) := by decide +kernel
theorem dX8_uproot_100 : decode cX8_uproot 100 = .ok (.aload_n 0, 1) := by decide +kernel
theorem dX8_uproot_101 : decode cX8_uproot 101 = .ok (.getfield 7, 3) := by decide +kernel
theorem dX8_uproot_104 : decode cX8_uproot 104 = .ok (.iconst 2, 1) := by decide +kernel
theorem dX8_uproot_105 : decode cX8_uproot 105 = .ok (.iload_n 3, 1) := by decide +kernel
theorem dX8_uproot_106 : decode cX8_uproot 106 = .ok (.iadd, 1) := by decide +kernel
theorem dX8_uproot_107 : decode cX8_uproot 107 = .ok (.aload_n 0, 1) := by decide +kernel
theorem dX8_uproot_108 : decode cX8_uproot 108 = .ok (.getfield 7, 3) := by decide +kernel
theorem dX8_uproot_111 : decode cX8_uproot 111 = .ok (.iconst 2, 1) := by decide +kernel
theorem dX8_uproot_112 : decode cX8_uproot 112 = .ok (.iload_n 3, 1) := by decide +kernel
theorem dX8_uproot_113 : decode cX8_uproot 113 = .ok (.iadd, 1) := by decide +kernel
theorem dX8_uproot_114 : decode cX8_uproot 114 = .ok (.iaload, 1) := by decide +kernel
theorem dX8_uproot_115 : decode cX8_uproot 115 = .ok (.iload_n 1, 1) := by decide +kernel
theorem dX8_uproot_116 : decode cX8_uproot 116 = .ok (.invokestatic 85, 3) := by decide +kernel
theorem dX8_uproot_119 : decode cX8_uproot 119 = .ok (.iastore, 1) := by decide +kernel
theorem dX8_uproot_120 : decode cX8_uproot 120 = .ok (.iinc 3 1, 3) := by decide +kernel
theorem dX8_uproot_123 : decode cX8_uproot 123 = .ok (.goto (-33), 3) := by decide +kernel
theorem dX8_uproot_126 : decode cX8_uproot 126 = .ok (.aload_n 0, 1) := by decide +kernel
theorem dX8_uproot_127 : decode cX8_uproot 127 = .ok (.getfield 7, 3) := by decide +kernel
theorem dX8_uproot_130 : decode cX8_uproot 130 = .ok (.iconst 1, 1) := by decide +kernel
theorem dX8_uproot_131 : decode cX8_uproot 131 = .ok (.aload_n 0, 1) := by decide +kernel
theorem dX8_uproot_132 : decode cX8_uproot 132 = .ok (.getfield 7, 3) := by decide +kernel
theorem dX8_uproot_135 : decode cX8_uproot 135 = .ok (.iconst 1, 1) := by decide +kernel
theorem dX8_uproot_136 : decode cX8_uproot 136 = .ok (.iaload, 1) := by decide +kernel
theorem dX8_uproot_137 : decode cX8_uproot 137 = .ok (.iload_n 1, 1) := by decide +kernel
theorem dX8_uproot_138 : decode cX8_uproot 138 = .ok (.invokestatic 85, 3) := by decide +kernel
theorem dX8_uproot_141 : decode cX8_uproot 141 = .ok (.iastore, 1) := by decide +kernel
theorem dX8_uproot_142 : decode cX8_uproot 142 = .ok (.iload_n 2, 1) := by decide +kernel
theorem dX8_uproot_143 : decode cX8_uproot 143 = .ok (.ireturn, 1) := by decide +kernel
set_option maxRecDepth 20000 in
theorem ggX8_areThere_X8_isPlant : GoodIn wsX8_areThere wsX8_isPlant := goodIn_r _ [6, 7, 8, 9, 5, 10, 11, 12, 13, 14, 15, 16, 17, 18, 19, 20, 21, 22, 23] (by decide +kernel) (by decide +kernel)
set_option maxRecDepth 20000 in
theorem gX8_areThere_X8_isPlant : GoodIn wsX8_areThere (wsV RX8 39 RX8 yX8_isPlant wsX8_isPlant) := goodIn_app (goodIn_of _ (by decide +kernel)) ggX8_areThere_X8_isPlant
theorem dX8_areThere_0 : decode cX8_areThere 0 = .ok (.aload_n 0, 1) := by decide +kernel
theorem dX8_areThere_1 : decode cX8_areThere 1 = .ok (.aload_n 0, 1) := by decide +kernel
theorem dX8_areThere_2 : decode cX8_areThere 2 = .ok (.iload_n 1, 1) := by decide +kernel
theorem dX8_areThere_3 : decode cX8_areThere 3 = .ok (.invokevirtual 39, 3) := by decide +kernel
theorem dX8_areThere_6 : decode cX8_areThere 6 = .ok (.ifCond .eq 11, 3) := by decide +kernel
theorem dX8_areThere_9 : decode cX8_areThere 9 = .ok (.aload_n 0, 1) := by decide +kernel
theorem dX8_areThere_10 : decode cX8_areThere 10 = .ok (.iload_n 2, 1) := by decide +kernel
theorem dX8_areThere_11 : decode cX8_areThere 11 = .ok (.invokevirtual 39, 3) := by decide +kernel
theorem dX8_areThere_14 : decode cX8_areThere 14 = .ok (.ifCond .ne 7, 3) := by decide +kernel
theorem dX8_areThere_17 : decode cX8_areThere 17 = .ok (.iconst 1, 1) := by decide +kernel
theorem dX8_areThere_18 : decode cX8_areThere 18 = .ok (.goto 13, 3) := by decide +kernel
theorem dX8_areThere_21 : decode cX8_areThere 21 = .ok (.iload_n 1, 1) := by decide +kernel
theorem dX8_areThere_22 : decode cX8_areThere 22 = .ok (.iload_n 2, 1) := by decide +kernel
theorem dX8_areThere_23 : decode cX8_areThere 23 = .ok (.if_icmp .ne 7, 3) := by decide +kernel
theorem dX8_areThere_26 : decode cX8_areThere 26 = .ok (.iconst 2, 1) := by decide +kernel
theorem dX8_areThere_27 : decode cX8_areThere 27 = .ok (.goto 4, 3) := by decide +kernel
theorem dX8_areThere_30 : decode cX8_areThere 30 = .ok (.iconst 0, 1) := by decide +kernel
theorem dX8_areThere_31 : decode cX8_areThere 31 = .ok (.putfield 31, 3) := by decide +kernel
theorem dX8_areThere_34 : decode cX8_areThere 34 = .ok (.aload_n 0, 1) := by decide +kernel
theorem dX8_areThere_35 : decode cX8_areThere 35 = .ok (.getfield 31, 3) := by decide +kernel
theorem dX8_areThere_38 : decode cX8_areThere 38 = .ok (.ifCond .ne 7, 3) := by decide +kernel
theorem dX8_areThere_41 : decode cX8_areThere 41 = .ok (.iconst 1, 1) := by decide +kernel
theorem dX8_areThere_42 : decode cX8_areThere 42 = .ok (.goto 4, 3) := by decide +kernel
theorem dX8_areThere_45 : decode cX8_areThere 45 = .ok (.iconst 0, 1) := by decide +kernel
theorem dX8_areThere_46 : decode cX8_areThere 46 = .ok (.ireturn, 1) := by decide +kernel
set_option maxRecDepth 20000 in
theorem ggX8_bind_X8_areThere : GoodIn wsX8_bind wsX8_areThere := goodIn_r _ [5, 6, 7, 8, 9, 4, 10, 11, 12, 13, 14, 39, 40, 41, 42, 43, 44, 45, 46, 47, 48, 49, 50, 51] (by decide +kernel) (by decide +kernel)
set_option maxRecDepth 20000 in
theorem gX8_bind_X8_areThere : GoodIn wsX8_bind (wsV RX8 88 RX8 yX8_areThere wsX8_areThere) := goodIn_app (goodIn_of _ (by decide +kernel)) ggX8_bind_X8_areThere
set_option maxRecDepth 20000 in
theorem ggX8_bind_X8_areBound : GoodIn wsX8_bind wsX8_areBound := goodIn_r _ [18, 11, 19, 20, 4, 21, 39, 40, 41, 42, 43, 44, 45, 46, 47, 48, 49, 50, 51] (by decide +kernel) (by decide +kernel)
set_option maxRecDepth 20000 in
theorem gX8_bind_X8_areBound : GoodIn wsX8_bind (wsV RX8 91 RX8 yX8_areBound wsX8_areBound) := goodIn_app (goodIn_of _ (by decide +kernel)) ggX8_bind_X8_areBound
set_option maxRecDepth 20000 in
theorem ggX8_bind_X8_throwing : GoodIn wsX8_bind wsX8_throwing := goodIn_r _ [25, 6, 39, 40, 41, 42, 43, 44, 45, 46, 47, 48, 49, 50, 51] (by decide +kernel) (by decide +kernel)
set_option maxRecDepth 20000 in
theorem gX8_bind_X8_throwing : GoodIn wsX8_bind (wsV RX8 76 RX8 yX8_throwing wsX8_throwing) := goodIn_app (goodIn_of _ (by decide +kernel)) ggX8_bind_X8_throwing
set_option maxRecDepth 20000 in
theorem ggX8_bind_X8_record : GoodIn wsX8_bind wsX8_record := goodIn_r _ [29, 30, 31, 11, 39, 40, 41, 42, 43, 44, 45, 46, 47, 48, 49, 50, 51] (by decide +kernel) (by decide +kernel)
set_option maxRecDepth 20000 in
theorem gX8_bind_X8_record : GoodIn wsX8_bind (wsV RX8 79 RX8 yX8_record wsX8_record) := goodIn_app (goodIn_of _ (by decide +kernel)) ggX8_bind_X8_record
set_option maxRecDepth 20000 in
theorem ggX8_bind_X8_binds : GoodIn wsX8_bind wsX8_binds := goodIn_r _ [35, 11, 36, 37, 4, 38, 39, 40, 41, 42, 43, 44, 45, 46, 47, 48, 49, 50, 51] (by decide +kernel) (by decide +kernel)
set_option maxRecDepth 20000 in
theorem gX8_bind_X8_binds : GoodIn wsX8_bind (wsV RX8 94 RX8 yX8_binds wsX8_binds) := goodIn_app (goodIn_of _ (by decide +kernel)) ggX8_bind_X8_binds
theorem dX8_bind_0 : decode cX8_bind 0 = .ok (.aload_n 0, 1) := by decide +kernel
theorem dX8_bind_1 : decode cX8_bind 1 = .ok (.iload_n 1, 1) := by decide +kernel
theorem dX8_bind_2 : decode cX8_bind 2 = .ok (.iload_n 2, 1) := by decide +kernel
theorem dX8_bind_3 : decode cX8_bind 3 = .ok (.invokevirtual 88, 3) := by decide +kernel
theorem dX8_bind_6 : decode cX8_bind 6 = .ok (.ifCond .ne 5, 3) := by decide +kernel
theorem dX8_bind_9 : decode cX8_bind 9 = .ok (.iconst 0, 1) := by decide +kernel
theorem dX8_bind_10 : decode cX8_bind 10 = .ok (.ireturn, 1) := by decide +kernel
theorem dX8_bind_11 : decode cX8_bind 11 = .ok (.aload_n 0, 1) := by decide +kernel
theorem dX8_bind_12 : decode cX8_bind 12 = .ok (.iload_n 1, 1) := by decide +kernel
theorem dX8_bind_13 : decode cX8_bind 13 = .ok (.iload_n 2, 1) := by decide +kernel
theorem dX8_bind_14 : decode cX8_bind 14 = .ok (.invokevirtual 91, 3) := by decide +kernel
theorem dX8_bind_17 : decode cX8_bind 17 = .ok (.ifCond .eq 9, 3) := by decide +kernel
theorem dX8_bind_20 : decode cX8_bind 20 = .ok (.aload_n 0, 1) := by decide +kernel
theorem dX8_bind_21 : decode cX8_bind 21 = .ok (.iconst 3, 1) := by decide +kernel
theorem dX8_bind_22 : decode cX8_bind 22 = .ok (.invokevirtual 76, 3) := by decide +kernel
theorem dX8_bind_25 : decode cX8_bind 25 = .ok (.ireturn, 1) := by decide +kernel
theorem dX8_bind_26 : decode cX8_bind 26 = .ok (.aload_n 0, 1) := by decide +kernel
theorem dX8_bind_27 : decode cX8_bind 27 = .ok (.invokevirtual 79, 3) := by decide +kernel
theorem dX8_bind_30 : decode cX8_bind 30 = .ok (.aload_n 0, 1) := by decide +kernel
theorem dX8_bind_31 : decode cX8_bind 31 = .ok (.iload_n 1, 1) := by decide +kernel
theorem dX8_bind_32 : decode cX8_bind 32 = .ok (.iload_n 2, 1) := by decide +kernel
theorem dX8_bind_33 : decode cX8_bind 33 = .ok (.invokevirtual 94, 3) := by decide +kernel
theorem dX8_bind_36 : decode cX8_bind 36 = .ok (.ireturn, 1) := by decide +kernel
set_option maxRecDepth 20000 in
theorem ggX8_cut_X8_areThere : GoodIn wsX8_cut wsX8_areThere := goodIn_r _ [5, 6, 7, 8, 9, 4, 10, 11, 12, 13, 14, 39, 40, 41, 42, 43, 44, 45, 46, 47, 48, 49, 50, 51] (by decide +kernel) (by decide +kernel)
set_option maxRecDepth 20000 in
theorem gX8_cut_X8_areThere : GoodIn wsX8_cut (wsV RX8 88 RX8 yX8_areThere wsX8_areThere) := goodIn_app (goodIn_of _ (by decide +kernel)) ggX8_cut_X8_areThere
set_option maxRecDepth 20000 in
theorem ggX8_cut_X8_areBound : GoodIn wsX8_cut wsX8_areBound := goodIn_r _ [18, 11, 19, 20, 4, 21, 39, 40, 41, 42, 43, 44, 45, 46, 47, 48, 49, 50, 51] (by decide +kernel) (by decide +kernel)
set_option maxRecDepth 20000 in
theorem gX8_cut_X8_areBound : GoodIn wsX8_cut (wsV RX8 91 RX8 yX8_areBound wsX8_areBound) := goodIn_app (goodIn_of _ (by decide +kernel)) ggX8_cut_X8_areBound
set_option maxRecDepth 20000 in
theorem ggX8_cut_X8_throwing : GoodIn wsX8_cut wsX8_throwing := goodIn_r _ [25, 6, 39, 40, 41, 42, 43, 44, 45, 46, 47, 48, 49, 50, 51] (by decide +kernel) (by decide +kernel)
set_option maxRecDepth 20000 in
theorem gX8_cut_X8_throwing : GoodIn wsX8_cut (wsV RX8 76 RX8 yX8_throwing wsX8_throwing) := goodIn_app (goodIn_of _ (by decide +kernel)) ggX8_cut_X8_throwing
set_option maxRecDepth 20000 in
theorem ggX8_cut_X8_record : GoodIn wsX8_cut wsX8_record := goodIn_r _ [29, 30, 31, 11, 39, 40, 41, 42, 43, 44, 45, 46, 47, 48, 49, 50, 51] (by decide +kernel) (by decide +kernel)
set_option maxRecDepth 20000 in
theorem gX8_cut_X8_record : GoodIn wsX8_cut (wsV RX8 79 RX8 yX8_record wsX8_record) := goodIn_app (goodIn_of _ (by decide +kernel)) ggX8_cut_X8_record
set_option maxRecDepth 20000 in
theorem ggX8_cut_X8_cuts : GoodIn wsX8_cut wsX8_cuts := goodIn_r _ [35, 11, 36, 37, 4, 38, 39, 40, 41, 42, 43, 44, 45, 46, 47, 48, 49, 50, 51] (by decide +kernel) (by decide +kernel)
set_option maxRecDepth 20000 in
theorem gX8_cut_X8_cuts : GoodIn wsX8_cut (wsV RX8 97 RX8 yX8_cuts wsX8_cuts) := goodIn_app (goodIn_of _ (by decide +kernel)) ggX8_cut_X8_cuts
theorem dX8_cut_0 : decode cX8_cut 0 = .ok (.aload_n 0, 1) := by decide +kernel
theorem dX8_cut_1 : decode cX8_cut 1 = .ok (.iload_n 1, 1) := by decide +kernel
theorem dX8_cut_2 : decode cX8_cut 2 = .ok (.iload_n 2, 1) := by decide +kernel
theorem dX8_cut_3 : decode cX8_cut 3 = .ok (.invokevirtual 88, 3) := by decide +kernel
theorem dX8_cut_6 : decode cX8_cut 6 = .ok (.ifCond .ne 5, 3) := by decide +kernel
theorem dX8_cut_9 : decode cX8_cut 9 = .ok (.iconst 0, 1) := by decide +kernel
theorem dX8_cut_10 : decode cX8_cut 10 = .ok (.ireturn, 1) := by decide +kernel
theorem dX8_cut_11 : decode cX8_cut 11 = .ok (.aload_n 0, 1) := by decide +kernel
theorem dX8_cut_12 : decode cX8_cut 12 = .ok (.iload_n 1, 1) := by decide +kernel
theorem dX8_cut_13 : decode cX8_cut 13 = .ok (.iload_n 2, 1) := by decide +kernel
theorem dX8_cut_14 : decode cX8_cut 14 = .ok (.invokevirtual 91, 3) := by decide +kernel
theorem dX8_cut_17 : decode cX8_cut 17 = .ok (.ifCond .ne 9, 3) := by decide +kernel
theorem dX8_cut_20 : decode cX8_cut 20 = .ok (.aload_n 0, 1) := by decide +kernel
theorem dX8_cut_21 : decode cX8_cut 21 = .ok (.iconst 3, 1) := by decide +kernel
theorem dX8_cut_22 : decode cX8_cut 22 = .ok (.invokevirtual 76, 3) := by decide +kernel
theorem dX8_cut_25 : decode cX8_cut 25 = .ok (.ireturn, 1) := by decide +kernel
theorem dX8_cut_26 : decode cX8_cut 26 = .ok (.aload_n 0, 1) := by decide +kernel
theorem dX8_cut_27 : decode cX8_cut 27 = .ok (.invokevirtual 79, 3) := by decide +kernel
theorem dX8_cut_30 : decode cX8_cut 30 = .ok (.aload_n 0, 1) := by decide +kernel
theorem dX8_cut_31 : decode cX8_cut 31 = .ok (.iload_n 1, 1) := by decide +kernel
theorem dX8_cut_32 : decode cX8_cut 32 = .ok (.iload_n 2, 1) := by decide +kernel
theorem dX8_cut_33 : decode cX8_cut 33 = .ok (.invokevirtual 97, 3) := by decide +kernel
theorem dX8_cut_36 : decode cX8_cut 36 = .ok (.ireturn, 1) := by decide +kernel
set_option maxRecDepth 20000 in
theorem ggX8_switchProp_X8_isThere : GoodIn wsX8_switchProp wsX8_isThere := goodIn_r _ [6, 7, 8, 9, 10, 5, 11, 1, 12, 13, 14, 24, 25, 26, 27, 28, 29, 30, 31, 32, 33, 34, 35, 36] (by decide +kernel) (by decide +kernel)
set_option maxRecDepth 20000 in
theorem gX8_switchProp_X8_isThere : GoodIn wsX8_switchProp (wsV RX8 82 RX8 yX8_isThere wsX8_isThere) := goodIn_app (goodIn_of _ (by decide +kernel)) ggX8_switchProp_X8_isThere
set_option maxRecDepth 20000 in
theorem ggX8_switchProp_X8_record : GoodIn wsX8_switchProp wsX8_record := goodIn_r _ [18, 19, 20, 1, 24, 25, 26, 27, 28, 29, 30, 31, 32, 33, 34, 35, 36] (by decide +kernel) (by decide +kernel)
set_option maxRecDepth 20000 in
theorem gX8_switchProp_X8_record : GoodIn wsX8_switchProp (wsV RX8 79 RX8 yX8_record wsX8_record) := goodIn_app (goodIn_of _ (by decide +kernel)) ggX8_switchProp_X8_record
set_option maxRecDepth 20000 in
theorem ggX8_switchProp_X8_has : GoodIn wsX8_switchProp wsX8_has := goodIn_r _ [23] (by decide +kernel) (by decide +kernel)
set_option maxRecDepth 20000 in
theorem gX8_switchProp_X8_has : GoodIn wsX8_switchProp (va_wsS RX8 50 yX8_has wsX8_has) := goodIn_app (goodIn_of _ (by decide +kernel)) ggX8_switchProp_X8_has
theorem dX8_switchProp_0 : decode cX8_switchProp 0 = .ok (.aload_n 0, 1) := by decide +kernel
theorem dX8_switchProp_1 : decode cX8_switchProp 1 = .ok (.iload_n 1, 1) := by decide +kernel
theorem dX8_switchProp_2 : decode cX8_switchProp 2 = .ok (.invokevirtual 82, 3) := by decide +kernel
theorem dX8_switchProp_5 : decode cX8_switchProp 5 = .ok (.ifCond .ne 5, 3) := by decide +kernel
theorem dX8_switchProp_8 : decode cX8_switchProp 8 = .ok (.iconst 0, 1) := by decide +kernel
theorem dX8_switchProp_9 : decode cX8_switchProp 9 = .ok (.ireturn, 1) := by decide +kernel
theorem dX8_switchProp_10 : decode cX8_switchProp 10 = .ok (.aload_n 0, 1) := by decide +kernel
theorem dX8_switchProp_11 : decode cX8_switchProp 11 = .ok (.invokevirtual 79, 3) := by decide +kernel
theorem dX8_switchProp_14 : decode cX8_switchProp 14 = .ok (.aload_n 0, 1) := by decide +kernel
theorem dX8_switchProp_15 : decode cX8_switchProp 15 = .ok (.getfield 7, 3) := by decide +kernel
theorem dX8_switchProp_18 : decode cX8_switchProp 18 = .ok (.iconst 1, 1) := by decide +kernel
theorem dX8_switchProp_19 : decode cX8_switchProp 19 = .ok (.dup2, 1) := by decide +kernel
theorem dX8_switchProp_20 : decode cX8_switchProp 20 = .ok (.iaload, 1) := by decide +kernel
theorem dX8_switchProp_21 : decode cX8_switchProp 21 = .ok (.iconst 1, 1) := by decide +kernel
theorem dX8_switchProp_22 : decode cX8_switchProp 22 = .ok (.iload_n 1, 1) := by decide +kernel
theorem dX8_switchProp_23 : decode cX8_switchProp 23 = .ok (.ishl, 1) := by decide +kernel
theorem dX8_switchProp_24 : decode cX8_switchProp 24 = .ok (.ixor, 1) := by decide +kernel
theorem dX8_switchProp_25 : decode cX8_switchProp 25 = .ok (.iastore, 1) := by decide +kernel
theorem dX8_switchProp_26 : decode cX8_switchProp 26 = .ok (.aload_n 0, 1) := by decide +kernel
theorem dX8_switchProp_27 : decode cX8_switchProp 27 = .ok (.getfield 7, 3) := by decide +kernel
theorem dX8_switchProp_30 : decode cX8_switchProp 30 = .ok (.iconst 1, 1) := by decide +kernel
theorem dX8_switchProp_31 : decode cX8_switchProp 31 = .ok (.iaload, 1) := by decide +kernel
theorem dX8_switchProp_32 : decode cX8_switchProp 32 = .ok (.iload_n 1, 1) := by decide +kernel
theorem dX8_switchProp_33 : decode cX8_switchProp 33 = .ok (.invokestatic 50, 3) := by decide +kernel
theorem dX8_switchProp_36 : decode cX8_switchProp 36 = .ok (.ireturn, 1) := by decide +kernel
set_option maxRecDepth 20000 in
theorem ggX8_append_X8_throwing : GoodIn wsX8_append wsX8_throwing := goodIn_r _ [8, 1, 9, 10, 11, 12, 13, 14, 15, 16, 17, 18, 19, 20, 21] (by decide +kernel) (by decide +kernel)
set_option maxRecDepth 20000 in
theorem gX8_append_X8_throwing : GoodIn wsX8_append (wsV RX8 76 RX8 yX8_throwing wsX8_throwing) := goodIn_app (goodIn_of _ (by decide +kernel)) ggX8_append_X8_throwing
theorem dX8_append_0 : decode cX8_append 0 = .ok (.aload_n 0, 1) := by decide +kernel
theorem dX8_append_1 : decode cX8_append 1 = .ok (.iconst 0, 1) := by decide +kernel
theorem dX8_append_2 : decode cX8_append 2 = .ok (.putfield 31, 3) := by decide +kernel
theorem dX8_append_5 : decode cX8_append 5 = .ok (.aload_n 0, 1) := by decide +kernel
theorem dX8_append_6 : decode cX8_append 6 = .ok (.getfield 100, 3) := by decide +kernel
theorem dX8_append_9 : decode cX8_append 9 = .ok (.bipush 60, 2) := by decide +kernel
theorem dX8_append_11 : decode cX8_append 11 = .ok (.if_icmp .ne 9, 3) := by decide +kernel
theorem dX8_append_14 : decode cX8_append 14 = .ok (.aload_n 0, 1) := by decide +kernel
theorem dX8_append_15 : decode cX8_append 15 = .ok (.iconst 1, 1) := by decide +kernel
theorem dX8_append_16 : decode cX8_append 16 = .ok (.invokevirtual 76, 3) := by decide +kernel
theorem dX8_append_19 : decode cX8_append 19 = .ok (.ireturn, 1) := by decide +kernel
theorem dX8_append_20 : decode cX8_append 20 = .ok (.aload_n 0, 1) := by decide +kernel
theorem dX8_append_21 : decode cX8_append 21 = .ok (.getfield 19, 3) := by decide +kernel
theorem dX8_append_24 : decode cX8_append 24 = .ok (.aload_n 0, 1) := by decide +kernel
theorem dX8_append_25 : decode cX8_append 25 = .ok (.getfield 100, 3) := by decide +kernel
theorem dX8_append_28 : decode cX8_append 28 = .ok (.iload_n 1, 1) := by decide +kernel
theorem dX8_append_29 : decode cX8_append 29 = .ok (.iastore, 1) := by decide +kernel
theorem dX8_append_30 : decode cX8_append 30 = .ok (.aload_n 0, 1) := by decide +kernel
theorem dX8_append_31 : decode cX8_append 31 = .ok (.dup, 1) := by decide +kernel
theorem dX8_append_32 : decode cX8_append 32 = .ok (.getfield 100, 3) := by decide +kernel
theorem dX8_append_35 : decode cX8_append 35 = .ok (.iconst 1, 1) := by decide +kernel
theorem dX8_append_36 : decode cX8_append 36 = .ok (.iadd, 1) := by decide +kernel
theorem dX8_append_37 : decode cX8_append 37 = .ok (.putfield 100, 3) := by decide +kernel
theorem dX8_append_40 : decode cX8_append 40 = .ok (.aload_n 0, 1) := by decide +kernel
theorem dX8_append_41 : decode cX8_append 41 = .ok (.getfield 100, 3) := by decide +kernel
theorem dX8_append_44 : decode cX8_append 44 = .ok (.ireturn, 1) := by decide +kernel
theorem dX8_clearText_0 : decode cX8_clearText 0 = .ok (.aload_n 0, 1) := by decide +kernel
theorem dX8_clearText_1 : decode cX8_clearText 1 = .ok (.iconst 0, 1) := by decide +kernel
theorem dX8_clearText_2 : decode cX8_clearText 2 = .ok (.putfield 31, 3) := by decide +kernel
theorem dX8_clearText_5 : decode cX8_clearText 5 = .ok (.aload_n 0, 1) := by decide +kernel
theorem dX8_clearText_6 : decode cX8_clearText 6 = .ok (.getfield 100, 3) := by decide +kernel
theorem dX8_clearText_9 : decode cX8_clearText 9 = .ok (.istore_n 1, 1) := by decide +kernel
theorem dX8_clearText_10 : decode cX8_clearText 10 = .ok (.aload_n 0, 1) := by decide +kernel
theorem dX8_clearText_11 : decode cX8_clearText 11 = .ok (.iconst 0, 1) := by decide +kernel
theorem dX8_clearText_12 : decode cX8_clearText 12 = .ok (.putfield 100, 3) := by decide +kernel
theorem dX8_clearText_15 : decode cX8_clearText 15 = .ok (.iload_n 1, 1) := by decide +kernel
theorem dX8_clearText_16 : decode cX8_clearText 16 = .ok (.ireturn, 1) := by decide +kernel
set_option maxRecDepth 20000 in
theorem ggX8_name_X8_in : GoodIn wsX8_name wsX8_in := goodIn_r _ [8] (by decide +kernel) (by decide +kernel)
set_option maxRecDepth 20000 in
theorem gX8_name_X8_in : GoodIn wsX8_name (va_wsS RX8 35 yX8_in wsX8_in) := goodIn_app (goodIn_of _ (by decide +kernel)) ggX8_name_X8_in
theorem dX8_name_0 : decode cX8_name 0 = .ok (.aload_n 0, 1) := by decide +kernel
theorem dX8_name_1 : decode cX8_name 1 = .ok (.getfield 103, 3) := by decide +kernel
theorem dX8_name_4 : decode cX8_name 4 = .ok (.aload_n 0, 1) := by decide +kernel
theorem dX8_name_5 : decode cX8_name 5 = .ok (.getfield 100, 3) := by decide +kernel
theorem dX8_name_8 : decode cX8_name 8 = .ok (.if_icmp .ge 22, 3) := by decide +kernel
theorem dX8_name_11 : decode cX8_name 11 = .ok (.aload_n 0, 1) := by decide +kernel
theorem dX8_name_12 : decode cX8_name 12 = .ok (.getfield 106, 3) := by decide +kernel
theorem dX8_name_15 : decode cX8_name 15 = .ok (.ifCond .ne 15, 3) := by decide +kernel
theorem dX8_name_18 : decode cX8_name 18 = .ok (.aload_n 0, 1) := by decide +kernel
theorem dX8_name_19 : decode cX8_name 19 = .ok (.getfield 19, 3) := by decide +kernel
theorem dX8_name_22 : decode cX8_name 22 = .ok (.aload_n 0, 1) := by decide +kernel
theorem dX8_name_23 : decode cX8_name 23 = .ok (.getfield 103, 3) := by decide +kernel
theorem dX8_name_26 : decode cX8_name 26 = .ok (.iaload, 1) := by decide +kernel
theorem dX8_name_27 : decode cX8_name 27 = .ok (.goto 4, 3) := by decide +kernel
theorem dX8_name_30 : decode cX8_name 30 = .ok (.iconst 0, 1) := by decide +kernel
theorem dX8_name_31 : decode cX8_name 31 = .ok (.istore_n 2, 1) := by decide +kernel
theorem dX8_name_32 : decode cX8_name 32 = .ok (.aload_n 0, 1) := by decide +kernel
theorem dX8_name_33 : decode cX8_name 33 = .ok (.aload_n 0, 1) := by decide +kernel
theorem dX8_name_34 : decode cX8_name 34 = .ok (.getfield 106, 3) := by decide +kernel
theorem dX8_name_37 : decode cX8_name 37 = .ok (.ifCond .ne 19, 3) := by decide +kernel
theorem dX8_name_40 : decode cX8_name 40 = .ok (.iload_n 2, 1) := by decide +kernel
theorem dX8_name_41 : decode cX8_name 41 = .ok (.bipush 97, 2) := by decide +kernel
theorem dX8_name_43 : decode cX8_name 43 = .ok (.bipush 112, 2) := by decide +kernel
theorem dX8_name_45 : decode cX8_name 45 = .ok (.invokestatic 35, 3) := by decide +kernel
theorem dX8_name_48 : decode cX8_name 48 = .ok (.ifCond .eq 8, 3) := by decide +kernel
theorem dX8_name_51 : decode cX8_name 51 = .ok (.iload_n 2, 1) := by decide +kernel
theorem dX8_name_52 : decode cX8_name 52 = .ok (.iload_n 1, 1) := by decide +kernel
theorem dX8_name_53 : decode cX8_name 53 = .ok (.if_icmp .ne 7, 3) := by decide +kernel
theorem dX8_name_56 : decode cX8_name 56 = .ok (.iconst 1, 1) := by decide +kernel
theorem dX8_name_57 : decode cX8_name 57 = .ok (.goto 4, 3) := by decide +kernel
theorem dX8_name_60 : decode cX8_name 60 = .ok (.iconst 0, 1) := by decide +kernel
theorem dX8_name_61 : decode cX8_name 61 = .ok (.putfield 106, 3) := by decide +kernel
theorem dX8_name_64 : decode cX8_name 64 = .ok (.aload_n 0, 1) := by decide +kernel
theorem dX8_name_65 : decode cX8_name 65 = .ok (.dup, 1) := by decide +kernel
theorem dX8_name_66 : decode cX8_name 66 = .ok (.getfield 103, 3) := by decide +kernel
theorem dX8_name_69 : decode cX8_name 69 = .ok (.aload_n 0, 1) := by decide +kernel
theorem dX8_name_70 : decode cX8_name 70 = .ok (.getfield 106, 3) := by decide +kernel
theorem dX8_name_73 : decode cX8_name 73 = .ok (.ifCond .eq 7, 3) := by decide +kernel
theorem dX8_name_76 : decode cX8_name 76 = .ok (.iconst 0, 1) := by decide +kernel
theorem dX8_name_77 : decode cX8_name 77 = .ok (.goto 4, 3) := by decide +kernel
theorem dX8_name_80 : decode cX8_name 80 = .ok (.iconst 1, 1) := by decide +kernel
theorem dX8_name_81 : decode cX8_name 81 = .ok (.iadd, 1) := by decide +kernel
theorem dX8_name_82 : decode cX8_name 82 = .ok (.putfield 103, 3) := by decide +kernel
theorem dX8_name_85 : decode cX8_name 85 = .ok (.iload_n 2, 1) := by decide +kernel
theorem dX8_name_86 : decode cX8_name 86 = .ok (.bipush 97, 2) := by decide +kernel
theorem dX8_name_88 : decode cX8_name 88 = .ok (.isub, 1) := by decide +kernel
theorem dX8_name_89 : decode cX8_name 89 = .ok (.ireturn, 1) := by decide +kernel
theorem dX8_isNext_0 : decode cX8_isNext 0 = .ok (.aload_n 0, 1) := by decide +kernel
theorem dX8_isNext_1 : decode cX8_isNext 1 = .ok (.getfield 106, 3) := by decide +kernel
theorem dX8_isNext_4 : decode cX8_isNext 4 = .ok (.ifCond .ne 31, 3) := by decide +kernel
