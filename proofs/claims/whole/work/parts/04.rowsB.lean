theorem dX8_isNext_7 : decode cX8_isNext 7 = .ok (.aload_n 0, 1) := by decide +kernel
theorem dX8_isNext_8 : decode cX8_isNext 8 = .ok (.getfield 103, 3) := by decide +kernel
theorem dX8_isNext_11 : decode cX8_isNext 11 = .ok (.aload_n 0, 1) := by decide +kernel
theorem dX8_isNext_12 : decode cX8_isNext 12 = .ok (.getfield 100, 3) := by decide +kernel
theorem dX8_isNext_15 : decode cX8_isNext 15 = .ok (.if_icmp .ge 20, 3) := by decide +kernel
theorem dX8_isNext_18 : decode cX8_isNext 18 = .ok (.aload_n 0, 1) := by decide +kernel
theorem dX8_isNext_19 : decode cX8_isNext 19 = .ok (.getfield 19, 3) := by decide +kernel
theorem dX8_isNext_22 : decode cX8_isNext 22 = .ok (.aload_n 0, 1) := by decide +kernel
theorem dX8_isNext_23 : decode cX8_isNext 23 = .ok (.getfield 103, 3) := by decide +kernel
theorem dX8_isNext_26 : decode cX8_isNext 26 = .ok (.iaload, 1) := by decide +kernel
theorem dX8_isNext_27 : decode cX8_isNext 27 = .ok (.iload_n 1, 1) := by decide +kernel
theorem dX8_isNext_28 : decode cX8_isNext 28 = .ok (.if_icmp .ne 7, 3) := by decide +kernel
theorem dX8_isNext_31 : decode cX8_isNext 31 = .ok (.iconst 1, 1) := by decide +kernel
theorem dX8_isNext_32 : decode cX8_isNext 32 = .ok (.goto 4, 3) := by decide +kernel
theorem dX8_isNext_35 : decode cX8_isNext 35 = .ok (.iconst 0, 1) := by decide +kernel
theorem dX8_isNext_36 : decode cX8_isNext 36 = .ok (.istore_n 2, 1) := by decide +kernel
theorem dX8_isNext_37 : decode cX8_isNext 37 = .ok (.aload_n 0, 1) := by decide +kernel
theorem dX8_isNext_38 : decode cX8_isNext 38 = .ok (.dup, 1) := by decide +kernel
theorem dX8_isNext_39 : decode cX8_isNext 39 = .ok (.getfield 103, 3) := by decide +kernel
theorem dX8_isNext_42 : decode cX8_isNext 42 = .ok (.iload_n 2, 1) := by decide +kernel
theorem dX8_isNext_43 : decode cX8_isNext 43 = .ok (.ifCond .eq 7, 3) := by decide +kernel
theorem dX8_isNext_46 : decode cX8_isNext 46 = .ok (.iconst 1, 1) := by decide +kernel
theorem dX8_isNext_47 : decode cX8_isNext 47 = .ok (.goto 4, 3) := by decide +kernel
theorem dX8_isNext_50 : decode cX8_isNext 50 = .ok (.iconst 0, 1) := by decide +kernel
theorem dX8_isNext_51 : decode cX8_isNext 51 = .ok (.iadd, 1) := by decide +kernel
theorem dX8_isNext_52 : decode cX8_isNext 52 = .ok (.putfield 103, 3) := by decide +kernel
theorem dX8_isNext_55 : decode cX8_isNext 55 = .ok (.iload_n 2, 1) := by decide +kernel
theorem dX8_isNext_56 : decode cX8_isNext 56 = .ok (.ireturn, 1) := by decide +kernel
set_option maxRecDepth 20000 in
theorem ggX8_makes_X8_isNext : GoodIn wsX8_makes wsX8_isNext := goodIn_r _ [7, 2, 8, 9, 10, 40, 41, 42, 43, 44, 45, 46, 47, 48, 49, 50, 51, 52] (by decide +kernel) (by decide +kernel)
set_option maxRecDepth 20000 in
theorem gX8_makes_X8_isNext : GoodIn wsX8_makes (wsV RX8 110 RX8 yX8_isNext wsX8_isNext) := goodIn_app (goodIn_of _ (by decide +kernel)) ggX8_makes_X8_isNext
set_option maxRecDepth 20000 in
theorem ggX8_makes_X8_name : GoodIn wsX8_makes wsX8_name := goodIn_r _ [14, 8, 9, 2, 10, 15, 16, 6, 17, 40, 41, 42, 43, 44, 45, 46, 47, 48, 49, 50, 51, 52] (by decide +kernel) (by decide +kernel)
set_option maxRecDepth 20000 in
theorem gX8_makes_X8_name : GoodIn wsX8_makes (wsV RX8 113 RX8 yX8_name wsX8_name) := goodIn_app (goodIn_of _ (by decide +kernel)) ggX8_makes_X8_name
set_option maxRecDepth 20000 in
theorem ggX8_makes_X8_isPlant : GoodIn wsX8_makes wsX8_isPlant := goodIn_r _ [21, 1, 15, 16, 6, 17, 40, 41, 42, 43, 44, 45, 46, 47, 48, 49, 50, 51, 52] (by decide +kernel) (by decide +kernel)
set_option maxRecDepth 20000 in
theorem gX8_makes_X8_isPlant : GoodIn wsX8_makes (wsV RX8 39 RX8 yX8_isPlant wsX8_isPlant) := goodIn_app (goodIn_of _ (by decide +kernel)) ggX8_makes_X8_isPlant
set_option maxRecDepth 20000 in
theorem ggX8_makes_X8_areBound : GoodIn wsX8_makes wsX8_areBound := goodIn_r _ [25, 1, 26, 27, 6, 28, 40, 41, 42, 43, 44, 45, 46, 47, 48, 49, 50, 51, 52] (by decide +kernel) (by decide +kernel)
set_option maxRecDepth 20000 in
theorem gX8_makes_X8_areBound : GoodIn wsX8_makes (wsV RX8 91 RX8 yX8_areBound wsX8_areBound) := goodIn_app (goodIn_of _ (by decide +kernel)) ggX8_makes_X8_areBound
set_option maxRecDepth 20000 in
theorem ggX8_makes_X8_binds : GoodIn wsX8_makes wsX8_binds := goodIn_r _ [32, 1, 33, 34, 6, 35, 40, 41, 42, 43, 44, 45, 46, 47, 48, 49, 50, 51, 52] (by decide +kernel) (by decide +kernel)
set_option maxRecDepth 20000 in
theorem gX8_makes_X8_binds : GoodIn wsX8_makes (wsV RX8 94 RX8 yX8_binds wsX8_binds) := goodIn_app (goodIn_of _ (by decide +kernel)) ggX8_makes_X8_binds
set_option maxRecDepth 20000 in
theorem ggX8_makes_X8_cuts : GoodIn wsX8_makes wsX8_cuts := goodIn_r _ [39, 1, 33, 34, 6, 35, 40, 41, 42, 43, 44, 45, 46, 47, 48, 49, 50, 51, 52] (by decide +kernel) (by decide +kernel)
set_option maxRecDepth 20000 in
theorem gX8_makes_X8_cuts : GoodIn wsX8_makes (wsV RX8 97 RX8 yX8_cuts wsX8_cuts) := goodIn_app (goodIn_of _ (by decide +kernel)) ggX8_makes_X8_cuts
theorem dX8_makes_0 : decode cX8_makes 0 = .ok (.aload_n 0, 1) := by decide +kernel
theorem dX8_makes_1 : decode cX8_makes 1 = .ok (.bipush 43, 2) := by decide +kernel
theorem dX8_makes_3 : decode cX8_makes 3 = .ok (.invokevirtual 110, 3) := by decide +kernel
theorem dX8_makes_6 : decode cX8_makes 6 = .ok (.ifCond .eq 44, 3) := by decide +kernel
theorem dX8_makes_9 : decode cX8_makes 9 = .ok (.iload_n 1, 1) := by decide +kernel
theorem dX8_makes_10 : decode cX8_makes 10 = .ok (.ifCond .eq 18, 3) := by decide +kernel
theorem dX8_makes_13 : decode cX8_makes 13 = .ok (.aload_n 0, 1) := by decide +kernel
theorem dX8_makes_14 : decode cX8_makes 14 = .ok (.getfield 7, 3) := by decide +kernel
theorem dX8_makes_17 : decode cX8_makes 17 = .ok (.iconst 0, 1) := by decide +kernel
theorem dX8_makes_18 : decode cX8_makes 18 = .ok (.iaload, 1) := by decide +kernel
theorem dX8_makes_19 : decode cX8_makes 19 = .ok (.bipush 16, 2) := by decide +kernel
theorem dX8_makes_21 : decode cX8_makes 21 = .ok (.if_icmp .ge 7, 3) := by decide +kernel
theorem dX8_makes_24 : decode cX8_makes 24 = .ok (.iconst 1, 1) := by decide +kernel
theorem dX8_makes_25 : decode cX8_makes 25 = .ok (.goto 4, 3) := by decide +kernel
theorem dX8_makes_28 : decode cX8_makes 28 = .ok (.iconst 0, 1) := by decide +kernel
theorem dX8_makes_29 : decode cX8_makes 29 = .ok (.istore_n 2, 1) := by decide +kernel
theorem dX8_makes_30 : decode cX8_makes 30 = .ok (.aload_n 0, 1) := by decide +kernel
theorem dX8_makes_31 : decode cX8_makes 31 = .ok (.getfield 7, 3) := by decide +kernel
theorem dX8_makes_34 : decode cX8_makes 34 = .ok (.iconst 0, 1) := by decide +kernel
theorem dX8_makes_35 : decode cX8_makes 35 = .ok (.dup2, 1) := by decide +kernel
theorem dX8_makes_36 : decode cX8_makes 36 = .ok (.iaload, 1) := by decide +kernel
theorem dX8_makes_37 : decode cX8_makes 37 = .ok (.iload_n 2, 1) := by decide +kernel
theorem dX8_makes_38 : decode cX8_makes 38 = .ok (.ifCond .eq 7, 3) := by decide +kernel
theorem dX8_makes_41 : decode cX8_makes 41 = .ok (.iconst 1, 1) := by decide +kernel
theorem dX8_makes_42 : decode cX8_makes 42 = .ok (.goto 4, 3) := by decide +kernel
theorem dX8_makes_45 : decode cX8_makes 45 = .ok (.iconst 0, 1) := by decide +kernel
theorem dX8_makes_46 : decode cX8_makes 46 = .ok (.iadd, 1) := by decide +kernel
theorem dX8_makes_47 : decode cX8_makes 47 = .ok (.iastore, 1) := by decide +kernel
theorem dX8_makes_48 : decode cX8_makes 48 = .ok (.iload_n 2, 1) := by decide +kernel
theorem dX8_makes_49 : decode cX8_makes 49 = .ok (.ireturn, 1) := by decide +kernel
theorem dX8_makes_50 : decode cX8_makes 50 = .ok (.aload_n 0, 1) := by decide +kernel
theorem dX8_makes_51 : decode cX8_makes 51 = .ok (.bipush 33, 2) := by decide +kernel
theorem dX8_makes_53 : decode cX8_makes 53 = .ok (.invokevirtual 110, 3) := by decide +kernel
theorem dX8_makes_56 : decode cX8_makes 56 = .ok (.ifCond .eq 49, 3) := by decide +kernel
theorem dX8_makes_59 : decode cX8_makes 59 = .ok (.aload_n 0, 1) := by decide +kernel
theorem dX8_makes_60 : decode cX8_makes 60 = .ok (.iconst 0, 1) := by decide +kernel
theorem dX8_makes_61 : decode cX8_makes 61 = .ok (.invokevirtual 113, 3) := by decide +kernel
theorem dX8_makes_64 : decode cX8_makes 64 = .ok (.istore_n 2, 1) := by decide +kernel
theorem dX8_makes_65 : decode cX8_makes 65 = .ok (.iload_n 1, 1) := by decide +kernel
theorem dX8_makes_66 : decode cX8_makes 66 = .ok (.ifCond .eq 15, 3) := by decide +kernel
theorem dX8_makes_69 : decode cX8_makes 69 = .ok (.aload_n 0, 1) := by decide +kernel
theorem dX8_makes_70 : decode cX8_makes 70 = .ok (.iload_n 2, 1) := by decide +kernel
theorem dX8_makes_71 : decode cX8_makes 71 = .ok (.invokevirtual 39, 3) := by decide +kernel
theorem dX8_makes_74 : decode cX8_makes 74 = .ok (.ifCond .eq 7, 3) := by decide +kernel
theorem dX8_makes_77 : decode cX8_makes 77 = .ok (.iconst 1, 1) := by decide +kernel
theorem dX8_makes_78 : decode cX8_makes 78 = .ok (.goto 4, 3) := by decide +kernel
theorem dX8_makes_81 : decode cX8_makes 81 = .ok (.iconst 0, 1) := by decide +kernel
theorem dX8_makes_82 : decode cX8_makes 82 = .ok (.istore_n 3, 1) := by decide +kernel
theorem dX8_makes_83 : decode cX8_makes 83 = .ok (.aload_n 0, 1) := by decide +kernel
theorem dX8_makes_84 : decode cX8_makes 84 = .ok (.getfield 7, 3) := by decide +kernel
theorem dX8_makes_87 : decode cX8_makes 87 = .ok (.iconst 1, 1) := by decide +kernel
theorem dX8_makes_88 : decode cX8_makes 88 = .ok (.dup2, 1) := by decide +kernel
theorem dX8_makes_89 : decode cX8_makes 89 = .ok (.iaload, 1) := by decide +kernel
theorem dX8_makes_90 : decode cX8_makes 90 = .ok (.iload_n 3, 1) := by decide +kernel
theorem dX8_makes_91 : decode cX8_makes 91 = .ok (.ifCond .eq 9, 3) := by decide +kernel
theorem dX8_makes_94 : decode cX8_makes 94 = .ok (.iconst 1, 1) := by decide +kernel
theorem dX8_makes_95 : decode cX8_makes 95 = .ok (.iload_n 2, 1) := by decide +kernel
theorem dX8_makes_96 : decode cX8_makes 96 = .ok (.ishl, 1) := by decide +kernel
theorem dX8_makes_97 : decode cX8_makes 97 = .ok (.goto 4, 3) := by decide +kernel
theorem dX8_makes_100 : decode cX8_makes 100 = .ok (.iconst 0, 1) := by decide +kernel
theorem dX8_makes_101 : decode cX8_makes 101 = .ok (.ixor, 1) := by decide +kernel
theorem dX8_makes_102 : decode cX8_makes 102 = .ok (.iastore, 1) := by decide +kernel
theorem dX8_makes_103 : decode cX8_makes 103 = .ok (.iload_n 3, 1) := by decide +kernel
theorem dX8_makes_104 : decode cX8_makes 104 = .ok (.ireturn, 1) := by decide +kernel
theorem dX8_makes_105 : decode cX8_makes 105 = .ok (.aload_n 0, 1) := by decide +kernel
theorem dX8_makes_106 : decode cX8_makes 106 = .ok (.iconst 0, 1) := by decide +kernel
theorem dX8_makes_107 : decode cX8_makes 107 = .ok (.invokevirtual 113, 3) := by decide +kernel
theorem dX8_makes_110 : decode cX8_makes 110 = .ok (.istore_n 2, 1) := by decide +kernel
theorem dX8_makes_111 : decode cX8_makes 111 = .ok (.aload_n 0, 1) := by decide +kernel
theorem dX8_makes_112 : decode cX8_makes 112 = .ok (.bipush 45, 2) := by decide +kernel
theorem dX8_makes_114 : decode cX8_makes 114 = .ok (.invokevirtual 110, 3) := by decide +kernel
theorem dX8_makes_117 : decode cX8_makes 117 = .ok (.istore_n 3, 1) := by decide +kernel
theorem dX8_makes_118 : decode cX8_makes 118 = .ok (.aload_n 0, 1) := by decide +kernel
theorem dX8_makes_119 : decode cX8_makes 119 = .ok (.aload_n 0, 1) := by decide +kernel
theorem dX8_makes_120 : decode cX8_makes 120 = .ok (.getfield 106, 3) := by decide +kernel
theorem dX8_makes_123 : decode cX8_makes 123 = .ok (.ifCond .ne 16, 3) := by decide +kernel
theorem dX8_makes_126 : decode cX8_makes 126 = .ok (.iload_n 3, 1) := by decide +kernel
theorem dX8_makes_127 : decode cX8_makes 127 = .ok (.ifCond .ne 16, 3) := by decide +kernel
theorem dX8_makes_130 : decode cX8_makes 130 = .ok (.aload_n 0, 1) := by decide +kernel
theorem dX8_makes_131 : decode cX8_makes 131 = .ok (.bipush 47, 2) := by decide +kernel
theorem dX8_makes_133 : decode cX8_makes 133 = .ok (.invokevirtual 110, 3) := by decide +kernel
theorem dX8_makes_136 : decode cX8_makes 136 = .ok (.ifCond .ne 7, 3) := by decide +kernel
theorem dX8_makes_139 : decode cX8_makes 139 = .ok (.iconst 1, 1) := by decide +kernel
theorem dX8_makes_140 : decode cX8_makes 140 = .ok (.goto 4, 3) := by decide +kernel
theorem dX8_makes_143 : decode cX8_makes 143 = .ok (.iconst 0, 1) := by decide +kernel
theorem dX8_makes_144 : decode cX8_makes 144 = .ok (.putfield 106, 3) := by decide +kernel
theorem dX8_makes_147 : decode cX8_makes 147 = .ok (.aload_n 0, 1) := by decide +kernel
theorem dX8_makes_148 : decode cX8_makes 148 = .ok (.iload_n 2, 1) := by decide +kernel
theorem dX8_makes_149 : decode cX8_makes 149 = .ok (.bipush 97, 2) := by decide +kernel
theorem dX8_makes_151 : decode cX8_makes 151 = .ok (.iadd, 1) := by decide +kernel
theorem dX8_makes_152 : decode cX8_makes 152 = .ok (.invokevirtual 113, 3) := by decide +kernel
theorem dX8_makes_155 : decode cX8_makes 155 = .ok (.istore 4, 2) := by decide +kernel
theorem dX8_makes_157 : decode cX8_makes 157 = .ok (.iload_n 1, 1) := by decide +kernel
theorem dX8_makes_158 : decode cX8_makes 158 = .ok (.ifCond .eq 35, 3) := by decide +kernel
theorem dX8_makes_161 : decode cX8_makes 161 = .ok (.aload_n 0, 1) := by decide +kernel
theorem dX8_makes_162 : decode cX8_makes 162 = .ok (.iload_n 2, 1) := by decide +kernel
theorem dX8_makes_163 : decode cX8_makes 163 = .ok (.invokevirtual 39, 3) := by decide +kernel
theorem dX8_makes_166 : decode cX8_makes 166 = .ok (.ifCond .eq 27, 3) := by decide +kernel
theorem dX8_makes_169 : decode cX8_makes 169 = .ok (.aload_n 0, 1) := by decide +kernel
theorem dX8_makes_170 : decode cX8_makes 170 = .ok (.iload 4, 2) := by decide +kernel
theorem dX8_makes_172 : decode cX8_makes 172 = .ok (.invokevirtual 39, 3) := by decide +kernel
theorem dX8_makes_175 : decode cX8_makes 175 = .ok (.ifCond .eq 18, 3) := by decide +kernel
theorem dX8_makes_178 : decode cX8_makes 178 = .ok (.aload_n 0, 1) := by decide +kernel
theorem dX8_makes_179 : decode cX8_makes 179 = .ok (.iload_n 2, 1) := by decide +kernel
theorem dX8_makes_180 : decode cX8_makes 180 = .ok (.iload 4, 2) := by decide +kernel
theorem dX8_makes_182 : decode cX8_makes 182 = .ok (.invokevirtual 91, 3) := by decide +kernel
theorem dX8_makes_185 : decode cX8_makes 185 = .ok (.iload_n 3, 1) := by decide +kernel
theorem dX8_makes_186 : decode cX8_makes 186 = .ok (.if_icmp .eq 7, 3) := by decide +kernel
theorem dX8_makes_189 : decode cX8_makes 189 = .ok (.iconst 1, 1) := by decide +kernel
theorem dX8_makes_190 : decode cX8_makes 190 = .ok (.goto 4, 3) := by decide +kernel
theorem dX8_makes_193 : decode cX8_makes 193 = .ok (.iconst 0, 1) := by decide +kernel
theorem dX8_makes_194 : decode cX8_makes 194 = .ok (.istore 5, 2) := by decide +kernel
theorem dX8_makes_196 : decode cX8_makes 196 = .ok (.iload 5, 2) := by decide +kernel
theorem dX8_makes_198 : decode cX8_makes 198 = .ok (.ifCond .eq 26, 3) := by decide +kernel
theorem dX8_makes_201 : decode cX8_makes 201 = .ok (.iload_n 3, 1) := by decide +kernel
theorem dX8_makes_202 : decode cX8_makes 202 = .ok (.ifCond .eq 13, 3) := by decide +kernel
theorem dX8_makes_205 : decode cX8_makes 205 = .ok (.aload_n 0, 1) := by decide +kernel
theorem dX8_makes_206 : decode cX8_makes 206 = .ok (.iload_n 2, 1) := by decide +kernel
theorem dX8_makes_207 : decode cX8_makes 207 = .ok (.iload 4, 2) := by decide +kernel
theorem dX8_makes_209 : decode cX8_makes 209 = .ok (.invokevirtual 94, 3) := by decide +kernel
theorem dX8_makes_212 : decode cX8_makes 212 = .ok (.goto 10, 3) := by decide +kernel
theorem dX8_makes_215 : decode cX8_makes 215 = .ok (.aload_n 0, 1) := by decide +kernel
theorem dX8_makes_216 : decode cX8_makes 216 = .ok (.iload_n 2, 1) := by decide +kernel
theorem dX8_makes_217 : decode cX8_makes 217 = .ok (.iload 4, 2) := by decide +kernel
theorem dX8_makes_219 : decode cX8_makes 219 = .ok (.invokevirtual 97, 3) := by decide +kernel
theorem dX8_makes_222 : decode cX8_makes 222 = .ok (.istore 6, 2) := by decide +kernel
theorem dX8_makes_224 : decode cX8_makes 224 = .ok (.iload 5, 2) := by decide +kernel
theorem dX8_makes_226 : decode cX8_makes 226 = .ok (.ireturn, 1) := by decide +kernel
set_option maxRecDepth 20000 in
theorem ggX8_go_X8_makes : GoodIn wsX8_go wsX8_makes := goodIn_r _ [8, 9, 2, 10, 11, 12, 7, 13, 1, 3, 14, 15, 16, 17, 18, 19, 20, 21, 22, 23, 24, 25, 26, 27, 28, 29, 30, 31, 32, 33, 34, 35, 36, 37, 38, 39, 40, 41, 42, 43, 44, 45, 46, 47, 48, 49, 50, 51, 52, 53, 54, 55, 56] (by decide +kernel) (by decide +kernel)
set_option maxRecDepth 20000 in
theorem gX8_go_X8_makes : GoodIn wsX8_go (wsV RX8 116 RX8 yX8_makes wsX8_makes) := goodIn_app (goodIn_of _ (by decide +kernel)) ggX8_go_X8_makes
set_option maxRecDepth 20000 in
theorem ggX8_go_X8_isNext : GoodIn wsX8_go wsX8_isNext := goodIn_r _ [13, 2, 1, 3, 14, 44, 45, 46, 47, 48, 49, 50, 51, 52, 53, 54, 55, 56] (by decide +kernel) (by decide +kernel)
set_option maxRecDepth 20000 in
theorem gX8_go_X8_isNext : GoodIn wsX8_go (wsV RX8 110 RX8 yX8_isNext wsX8_isNext) := goodIn_app (goodIn_of _ (by decide +kernel)) ggX8_go_X8_isNext
theorem dX8_go_0 : decode cX8_go 0 = .ok (.aload_n 0, 1) := by decide +kernel
theorem dX8_go_1 : decode cX8_go 1 = .ok (.iconst 0, 1) := by decide +kernel
theorem dX8_go_2 : decode cX8_go 2 = .ok (.putfield 103, 3) := by decide +kernel
theorem dX8_go_5 : decode cX8_go 5 = .ok (.aload_n 0, 1) := by decide +kernel
theorem dX8_go_6 : decode cX8_go 6 = .ok (.iconst 0, 1) := by decide +kernel
theorem dX8_go_7 : decode cX8_go 7 = .ok (.putfield 106, 3) := by decide +kernel
theorem dX8_go_10 : decode cX8_go 10 = .ok (.iconst 0, 1) := by decide +kernel
theorem dX8_go_11 : decode cX8_go 11 = .ok (.istore_n 2, 1) := by decide +kernel
theorem dX8_go_12 : decode cX8_go 12 = .ok (.iconst 1, 1) := by decide +kernel
theorem dX8_go_13 : decode cX8_go 13 = .ok (.istore_n 3, 1) := by decide +kernel
theorem dX8_go_14 : decode cX8_go 14 = .ok (.iload_n 3, 1) := by decide +kernel
theorem dX8_go_15 : decode cX8_go 15 = .ok (.ifCond .eq 81, 3) := by decide +kernel
theorem dX8_go_18 : decode cX8_go 18 = .ok (.iload_n 2, 1) := by decide +kernel
theorem dX8_go_19 : decode cX8_go 19 = .ok (.aload_n 0, 1) := by decide +kernel
theorem dX8_go_20 : decode cX8_go 20 = .ok (.iload_n 1, 1) := by decide +kernel
theorem dX8_go_21 : decode cX8_go 21 = .ok (.invokevirtual 116, 3) := by decide +kernel
theorem dX8_go_24 : decode cX8_go 24 = .ok (.ifCond .eq 7, 3) := by decide +kernel
theorem dX8_go_27 : decode cX8_go 27 = .ok (.iconst 1, 1) := by decide +kernel
theorem dX8_go_28 : decode cX8_go 28 = .ok (.goto 4, 3) := by decide +kernel
theorem dX8_go_31 : decode cX8_go 31 = .ok (.iconst 0, 1) := by decide +kernel
theorem dX8_go_32 : decode cX8_go 32 = .ok (.iadd, 1) := by decide +kernel
theorem dX8_go_33 : decode cX8_go 33 = .ok (.istore_n 2, 1) := by decide +kernel
theorem dX8_go_34 : decode cX8_go 34 = .ok (.aload_n 0, 1) := by decide +kernel
theorem dX8_go_35 : decode cX8_go 35 = .ok (.getfield 106, 3) := by decide +kernel
theorem dX8_go_38 : decode cX8_go 38 = .ok (.ifCond .ne 18, 3) := by decide +kernel
theorem dX8_go_41 : decode cX8_go 41 = .ok (.aload_n 0, 1) := by decide +kernel
theorem dX8_go_42 : decode cX8_go 42 = .ok (.getfield 103, 3) := by decide +kernel
theorem dX8_go_45 : decode cX8_go 45 = .ok (.aload_n 0, 1) := by decide +kernel
theorem dX8_go_46 : decode cX8_go 46 = .ok (.getfield 100, 3) := by decide +kernel
theorem dX8_go_49 : decode cX8_go 49 = .ok (.if_icmp .ge 7, 3) := by decide +kernel
theorem dX8_go_52 : decode cX8_go 52 = .ok (.iconst 1, 1) := by decide +kernel
theorem dX8_go_53 : decode cX8_go 53 = .ok (.goto 4, 3) := by decide +kernel
theorem dX8_go_56 : decode cX8_go 56 = .ok (.iconst 0, 1) := by decide +kernel
theorem dX8_go_57 : decode cX8_go 57 = .ok (.istore_n 3, 1) := by decide +kernel
theorem dX8_go_58 : decode cX8_go 58 = .ok (.iload_n 3, 1) := by decide +kernel
theorem dX8_go_59 : decode cX8_go 59 = .ok (.ifCond .eq (-45), 3) := by decide +kernel
theorem dX8_go_62 : decode cX8_go 62 = .ok (.aload_n 0, 1) := by decide +kernel
theorem dX8_go_63 : decode cX8_go 63 = .ok (.aload_n 0, 1) := by decide +kernel
theorem dX8_go_64 : decode cX8_go 64 = .ok (.bipush 44, 2) := by decide +kernel
theorem dX8_go_66 : decode cX8_go 66 = .ok (.invokevirtual 110, 3) := by decide +kernel
theorem dX8_go_69 : decode cX8_go 69 = .ok (.ifCond .ne 7, 3) := by decide +kernel
theorem dX8_go_72 : decode cX8_go 72 = .ok (.iconst 1, 1) := by decide +kernel
theorem dX8_go_73 : decode cX8_go 73 = .ok (.goto 4, 3) := by decide +kernel
theorem dX8_go_76 : decode cX8_go 76 = .ok (.iconst 0, 1) := by decide +kernel
theorem dX8_go_77 : decode cX8_go 77 = .ok (.putfield 106, 3) := by decide +kernel
theorem dX8_go_80 : decode cX8_go 80 = .ok (.aload_n 0, 1) := by decide +kernel
theorem dX8_go_81 : decode cX8_go 81 = .ok (.getfield 106, 3) := by decide +kernel
theorem dX8_go_84 : decode cX8_go 84 = .ok (.ifCond .ne 7, 3) := by decide +kernel
theorem dX8_go_87 : decode cX8_go 87 = .ok (.iconst 1, 1) := by decide +kernel
theorem dX8_go_88 : decode cX8_go 88 = .ok (.goto 4, 3) := by decide +kernel
theorem dX8_go_91 : decode cX8_go 91 = .ok (.iconst 0, 1) := by decide +kernel
theorem dX8_go_92 : decode cX8_go 92 = .ok (.istore_n 3, 1) := by decide +kernel
theorem dX8_go_93 : decode cX8_go 93 = .ok (.goto (-79), 3) := by decide +kernel
theorem dX8_go_96 : decode cX8_go 96 = .ok (.iload_n 2, 1) := by decide +kernel
theorem dX8_go_97 : decode cX8_go 97 = .ok (.ireturn, 1) := by decide +kernel
set_option maxRecDepth 20000 in
theorem ggX8_isValid_X8_go : GoodIn wsX8_isValid wsX8_go := goodIn_r _ [7, 8, 2, 9, 10, 11, 12, 6, 13, 14, 15, 16, 17, 18, 19, 20, 21, 22, 23, 24, 25, 26, 27, 28, 29, 30, 31, 32, 33, 34, 35, 36, 37, 38, 39, 40, 41, 42, 43, 44, 45, 46, 47, 48, 49, 50, 51, 52, 53, 54, 55, 56, 57, 58, 59, 60, 61] (by decide +kernel) (by decide +kernel)
set_option maxRecDepth 20000 in
theorem gX8_isValid_X8_go : GoodIn wsX8_isValid (wsV RX8 120 RX8 yX8_go wsX8_go) := goodIn_app (goodIn_of _ (by decide +kernel)) ggX8_isValid_X8_go
theorem dX8_isValid_0 : decode cX8_isValid 0 = .ok (.aload_n 0, 1) := by decide +kernel
theorem dX8_isValid_1 : decode cX8_isValid 1 = .ok (.iconst 0, 1) := by decide +kernel
theorem dX8_isValid_2 : decode cX8_isValid 2 = .ok (.putfield 31, 3) := by decide +kernel
theorem dX8_isValid_5 : decode cX8_isValid 5 = .ok (.aload_n 0, 1) := by decide +kernel
theorem dX8_isValid_6 : decode cX8_isValid 6 = .ok (.iconst 0, 1) := by decide +kernel
theorem dX8_isValid_7 : decode cX8_isValid 7 = .ok (.invokevirtual 120, 3) := by decide +kernel
theorem dX8_isValid_10 : decode cX8_isValid 10 = .ok (.istore_n 1, 1) := by decide +kernel
theorem dX8_isValid_11 : decode cX8_isValid 11 = .ok (.aload_n 0, 1) := by decide +kernel
theorem dX8_isValid_12 : decode cX8_isValid 12 = .ok (.getfield 106, 3) := by decide +kernel
theorem dX8_isValid_15 : decode cX8_isValid 15 = .ok (.ifCond .ne 7, 3) := by decide +kernel
theorem dX8_isValid_18 : decode cX8_isValid 18 = .ok (.iconst 1, 1) := by decide +kernel
theorem dX8_isValid_19 : decode cX8_isValid 19 = .ok (.goto 4, 3) := by decide +kernel
theorem dX8_isValid_22 : decode cX8_isValid 22 = .ok (.iconst 0, 1) := by decide +kernel
theorem dX8_isValid_23 : decode cX8_isValid 23 = .ok (.ireturn, 1) := by decide +kernel
set_option maxRecDepth 20000 in
theorem ggX8_firstError_X8_go : GoodIn wsX8_firstError wsX8_go := goodIn_r _ [8, 3, 2, 9, 10, 11, 12, 7, 13, 14, 15, 16, 17, 18, 19, 20, 21, 22, 23, 24, 25, 26, 27, 28, 29, 30, 31, 32, 33, 34, 35, 36, 37, 38, 39, 40, 41, 42, 43, 44, 45, 46, 47, 48, 53, 54, 55, 56, 57, 58, 59, 60, 61, 62, 63, 64, 65] (by decide +kernel) (by decide +kernel)
set_option maxRecDepth 20000 in
theorem gX8_firstError_X8_go : GoodIn wsX8_firstError (wsV RX8 120 RX8 yX8_go wsX8_go) := goodIn_app (goodIn_of _ (by decide +kernel)) ggX8_firstError_X8_go
set_option maxRecDepth 20000 in
theorem ggX8_firstError_X8_throwing : GoodIn wsX8_firstError wsX8_throwing := goodIn_r _ [52, 1, 53, 54, 55, 56, 57, 58, 59, 60, 61, 62, 63, 64, 65] (by decide +kernel) (by decide +kernel)
set_option maxRecDepth 20000 in
theorem gX8_firstError_X8_throwing : GoodIn wsX8_firstError (wsV RX8 76 RX8 yX8_throwing wsX8_throwing) := goodIn_app (goodIn_of _ (by decide +kernel)) ggX8_firstError_X8_throwing
theorem dX8_firstError_0 : decode cX8_firstError 0 = .ok (.aload_n 0, 1) := by decide +kernel
theorem dX8_firstError_1 : decode cX8_firstError 1 = .ok (.iconst 0, 1) := by decide +kernel
theorem dX8_firstError_2 : decode cX8_firstError 2 = .ok (.putfield 31, 3) := by decide +kernel
theorem dX8_firstError_5 : decode cX8_firstError 5 = .ok (.aload_n 0, 1) := by decide +kernel
theorem dX8_firstError_6 : decode cX8_firstError 6 = .ok (.iconst 0, 1) := by decide +kernel
theorem dX8_firstError_7 : decode cX8_firstError 7 = .ok (.invokevirtual 120, 3) := by decide +kernel
theorem dX8_firstError_10 : decode cX8_firstError 10 = .ok (.istore_n 1, 1) := by decide +kernel
theorem dX8_firstError_11 : decode cX8_firstError 11 = .ok (.aload_n 0, 1) := by decide +kernel
theorem dX8_firstError_12 : decode cX8_firstError 12 = .ok (.getfield 106, 3) := by decide +kernel
theorem dX8_firstError_15 : decode cX8_firstError 15 = .ok (.ifCond .eq 10, 3) := by decide +kernel
theorem dX8_firstError_18 : decode cX8_firstError 18 = .ok (.aload_n 0, 1) := by decide +kernel
theorem dX8_firstError_19 : decode cX8_firstError 19 = .ok (.getfield 103, 3) := by decide +kernel
theorem dX8_firstError_22 : decode cX8_firstError 22 = .ok (.goto 8, 3) := by decide +kernel
theorem dX8_firstError_25 : decode cX8_firstError 25 = .ok (.aload_n 0, 1) := by decide +kernel
theorem dX8_firstError_26 : decode cX8_firstError 26 = .ok (.iconst 1, 1) := by decide +kernel
theorem dX8_firstError_27 : decode cX8_firstError 27 = .ok (.invokevirtual 76, 3) := by decide +kernel
theorem dX8_firstError_30 : decode cX8_firstError 30 = .ok (.ireturn, 1) := by decide +kernel
set_option maxRecDepth 20000 in
theorem ggX8_change_X8_go : GoodIn wsX8_change wsX8_go := goodIn_r _ [7, 8, 2, 9, 10, 11, 12, 6, 13, 14, 15, 16, 17, 18, 19, 20, 21, 22, 23, 24, 25, 26, 27, 28, 29, 30, 31, 32, 33, 34, 35, 36, 37, 38, 39, 40, 41, 42, 43, 44, 45, 46, 47, 48, 59, 60, 61, 62, 63, 64, 65, 66, 67, 68, 69, 70, 71] (by decide +kernel) (by decide +kernel)
set_option maxRecDepth 20000 in
theorem gX8_change_X8_go : GoodIn wsX8_change (wsV RX8 120 RX8 yX8_go wsX8_go) := goodIn_app (goodIn_of _ (by decide +kernel)) ggX8_change_X8_go
set_option maxRecDepth 20000 in
theorem ggX8_change_X8_throwing : GoodIn wsX8_change wsX8_throwing := goodIn_r _ [52, 1, 59, 60, 61, 62, 63, 64, 65, 66, 67, 68, 69, 70, 71] (by decide +kernel) (by decide +kernel)
set_option maxRecDepth 20000 in
theorem gX8_change_X8_throwing : GoodIn wsX8_change (wsV RX8 76 RX8 yX8_throwing wsX8_throwing) := goodIn_app (goodIn_of _ (by decide +kernel)) ggX8_change_X8_throwing
set_option maxRecDepth 20000 in
theorem ggX8_change_X8_record : GoodIn wsX8_change wsX8_record := goodIn_r _ [56, 57, 58, 14, 59, 60, 61, 62, 63, 64, 65, 66, 67, 68, 69, 70, 71] (by decide +kernel) (by decide +kernel)
set_option maxRecDepth 20000 in
theorem gX8_change_X8_record : GoodIn wsX8_change (wsV RX8 79 RX8 yX8_record wsX8_record) := goodIn_app (goodIn_of _ (by decide +kernel)) ggX8_change_X8_record
theorem dX8_change_0 : decode cX8_change 0 = .ok (.aload_n 0, 1) := by decide +kernel
theorem dX8_change_1 : decode cX8_change 1 = .ok (.iconst 0, 1) := by decide +kernel
theorem dX8_change_2 : decode cX8_change 2 = .ok (.putfield 31, 3) := by decide +kernel
theorem dX8_change_5 : decode cX8_change 5 = .ok (.aload_n 0, 1) := by decide +kernel
theorem dX8_change_6 : decode cX8_change 6 = .ok (.iconst 0, 1) := by decide +kernel
theorem dX8_change_7 : decode cX8_change 7 = .ok (.invokevirtual 120, 3) := by decide +kernel
theorem dX8_change_10 : decode cX8_change 10 = .ok (.istore_n 1, 1) := by decide +kernel
theorem dX8_change_11 : decode cX8_change 11 = .ok (.aload_n 0, 1) := by decide +kernel
theorem dX8_change_12 : decode cX8_change 12 = .ok (.getfield 106, 3) := by decide +kernel
theorem dX8_change_15 : decode cX8_change 15 = .ok (.ifCond .eq 9, 3) := by decide +kernel
theorem dX8_change_18 : decode cX8_change 18 = .ok (.aload_n 0, 1) := by decide +kernel
theorem dX8_change_19 : decode cX8_change 19 = .ok (.iconst 1, 1) := by decide +kernel
theorem dX8_change_20 : decode cX8_change 20 = .ok (.invokevirtual 76, 3) := by decide +kernel
theorem dX8_change_23 : decode cX8_change 23 = .ok (.ireturn, 1) := by decide +kernel
theorem dX8_change_24 : decode cX8_change 24 = .ok (.aload_n 0, 1) := by decide +kernel
theorem dX8_change_25 : decode cX8_change 25 = .ok (.invokevirtual 79, 3) := by decide +kernel
theorem dX8_change_28 : decode cX8_change 28 = .ok (.aload_n 0, 1) := by decide +kernel
theorem dX8_change_29 : decode cX8_change 29 = .ok (.iconst 1, 1) := by decide +kernel
theorem dX8_change_30 : decode cX8_change 30 = .ok (.invokevirtual 120, 3) := by decide +kernel
theorem dX8_change_33 : decode cX8_change 33 = .ok (.ireturn, 1) := by decide +kernel
set_option maxRecDepth 20000 in
theorem ggX8_undo_X8_throwing : GoodIn wsX8_undo wsX8_throwing := goodIn_r _ [9, 1, 10, 11, 12, 13, 14, 15, 16, 17, 18, 19, 20, 21, 22] (by decide +kernel) (by decide +kernel)
set_option maxRecDepth 20000 in
theorem gX8_undo_X8_throwing : GoodIn wsX8_undo (wsV RX8 76 RX8 yX8_throwing wsX8_throwing) := goodIn_app (goodIn_of _ (by decide +kernel)) ggX8_undo_X8_throwing
theorem dX8_undo_0 : decode cX8_undo 0 = .ok (.aload_n 0, 1) := by decide +kernel
theorem dX8_undo_1 : decode cX8_undo 1 = .ok (.iconst 0, 1) := by decide +kernel
theorem dX8_undo_2 : decode cX8_undo 2 = .ok (.putfield 31, 3) := by decide +kernel
theorem dX8_undo_5 : decode cX8_undo 5 = .ok (.aload_n 0, 1) := by decide +kernel
theorem dX8_undo_6 : decode cX8_undo 6 = .ok (.getfield 43, 3) := by decide +kernel
theorem dX8_undo_9 : decode cX8_undo 9 = .ok (.ifCond .ne 9, 3) := by decide +kernel
theorem dX8_undo_12 : decode cX8_undo 12 = .ok (.aload_n 0, 1) := by decide +kernel
theorem dX8_undo_13 : decode cX8_undo 13 = .ok (.iconst 1, 1) := by decide +kernel
theorem dX8_undo_14 : decode cX8_undo 14 = .ok (.invokevirtual 76, 3) := by decide +kernel
theorem dX8_undo_17 : decode cX8_undo 17 = .ok (.ireturn, 1) := by decide +kernel
theorem dX8_undo_18 : decode cX8_undo 18 = .ok (.aload_n 0, 1) := by decide +kernel
theorem dX8_undo_19 : decode cX8_undo 19 = .ok (.dup, 1) := by decide +kernel
theorem dX8_undo_20 : decode cX8_undo 20 = .ok (.getfield 43, 3) := by decide +kernel
theorem dX8_undo_23 : decode cX8_undo 23 = .ok (.iconst 1, 1) := by decide +kernel
theorem dX8_undo_24 : decode cX8_undo 24 = .ok (.isub, 1) := by decide +kernel
theorem dX8_undo_25 : decode cX8_undo 25 = .ok (.putfield 43, 3) := by decide +kernel
theorem dX8_undo_28 : decode cX8_undo 28 = .ok (.iconst 0, 1) := by decide +kernel
theorem dX8_undo_29 : decode cX8_undo 29 = .ok (.istore_n 1, 1) := by decide +kernel
theorem dX8_undo_30 : decode cX8_undo 30 = .ok (.iload_n 1, 1) := by decide +kernel
theorem dX8_undo_31 : decode cX8_undo 31 = .ok (.bipush 18, 2) := by decide +kernel
theorem dX8_undo_33 : decode cX8_undo 33 = .ok (.if_icmp .ge 29, 3) := by decide +kernel
theorem dX8_undo_36 : decode cX8_undo 36 = .ok (.aload_n 0, 1) := by decide +kernel
theorem dX8_undo_37 : decode cX8_undo 37 = .ok (.getfield 7, 3) := by decide +kernel
theorem dX8_undo_40 : decode cX8_undo 40 = .ok (.iload_n 1, 1) := by decide +kernel
theorem dX8_undo_41 : decode cX8_undo 41 = .ok (.aload_n 0, 1) := by decide +kernel
theorem dX8_undo_42 : decode cX8_undo 42 = .ok (.getfield 13, 3) := by decide +kernel
theorem dX8_undo_45 : decode cX8_undo 45 = .ok (.bipush 18, 2) := by decide +kernel
theorem dX8_undo_47 : decode cX8_undo 47 = .ok (.aload_n 0, 1) := by decide +kernel
theorem dX8_undo_48 : decode cX8_undo 48 = .ok (.getfield 43, 3) := by decide +kernel
theorem dX8_undo_51 : decode cX8_undo 51 = .ok (.imul, 1) := by decide +kernel
theorem dX8_undo_52 : decode cX8_undo 52 = .ok (.iload_n 1, 1) := by decide +kernel
theorem dX8_undo_53 : decode cX8_undo 53 = .ok (.iadd, 1) := by decide +kernel
theorem dX8_undo_54 : decode cX8_undo 54 = .ok (.iaload, 1) := by decide +kernel
theorem dX8_undo_55 : decode cX8_undo 55 = .ok (.iastore, 1) := by decide +kernel
theorem dX8_undo_56 : decode cX8_undo 56 = .ok (.iinc 1 1, 3) := by decide +kernel
theorem dX8_undo_59 : decode cX8_undo 59 = .ok (.goto (-29), 3) := by decide +kernel
theorem dX8_undo_62 : decode cX8_undo 62 = .ok (.aload_n 0, 1) := by decide +kernel
theorem dX8_undo_63 : decode cX8_undo 63 = .ok (.getfield 43, 3) := by decide +kernel
theorem dX8_undo_66 : decode cX8_undo 66 = .ok (.ireturn, 1) := by decide +kernel
theorem dX8_takeSnapshot_0 : decode cX8_takeSnapshot 0 = .ok (.aload_n 0, 1) := by decide +kernel
theorem dX8_takeSnapshot_1 : decode cX8_takeSnapshot 1 = .ok (.iconst 0, 1) := by decide +kernel
theorem dX8_takeSnapshot_2 : decode cX8_takeSnapshot 2 = .ok (.putfield 31, 3) := by decide +kernel
theorem dX8_takeSnapshot_5 : decode cX8_takeSnapshot 5 = .ok (.iconst 0, 1) := by decide +kernel
theorem dX8_takeSnapshot_6 : decode cX8_takeSnapshot 6 = .ok (.istore_n 1, 1) := by decide +kernel
theorem dX8_takeSnapshot_7 : decode cX8_takeSnapshot 7 = .ok (.iload_n 1, 1) := by decide +kernel
theorem dX8_takeSnapshot_8 : decode cX8_takeSnapshot 8 = .ok (.bipush 18, 2) := by decide +kernel
theorem dX8_takeSnapshot_10 : decode cX8_takeSnapshot 10 = .ok (.if_icmp .ge 21, 3) := by decide +kernel
theorem dX8_takeSnapshot_13 : decode cX8_takeSnapshot 13 = .ok (.aload_n 0, 1) := by decide +kernel
theorem dX8_takeSnapshot_14 : decode cX8_takeSnapshot 14 = .ok (.getfield 16, 3) := by decide +kernel
theorem dX8_takeSnapshot_17 : decode cX8_takeSnapshot 17 = .ok (.iload_n 1, 1) := by decide +kernel
theorem dX8_takeSnapshot_18 : decode cX8_takeSnapshot 18 = .ok (.aload_n 0, 1) := by decide +kernel
theorem dX8_takeSnapshot_19 : decode cX8_takeSnapshot 19 = .ok (.getfield 7, 3) := by decide +kernel
theorem dX8_takeSnapshot_22 : decode cX8_takeSnapshot 22 = .ok (.iload_n 1, 1) := by decide +kernel
theorem dX8_takeSnapshot_23 : decode cX8_takeSnapshot 23 = .ok (.iaload, 1) := by decide +kernel
theorem dX8_takeSnapshot_24 : decode cX8_takeSnapshot 24 = .ok (.iastore, 1) := by decide +kernel
theorem dX8_takeSnapshot_25 : decode cX8_takeSnapshot 25 = .ok (.iinc 1 1, 3) := by decide +kernel
theorem dX8_takeSnapshot_28 : decode cX8_takeSnapshot 28 = .ok (.goto (-21), 3) := by decide +kernel
theorem dX8_takeSnapshot_31 : decode cX8_takeSnapshot 31 = .ok (.aload_n 0, 1) := by decide +kernel
theorem dX8_takeSnapshot_32 : decode cX8_takeSnapshot 32 = .ok (.iconst 1, 1) := by decide +kernel
theorem dX8_takeSnapshot_33 : decode cX8_takeSnapshot 33 = .ok (.putfield 124, 3) := by decide +kernel
theorem dX8_takeSnapshot_36 : decode cX8_takeSnapshot 36 = .ok (.aload_n 0, 1) := by decide +kernel
theorem dX8_takeSnapshot_37 : decode cX8_takeSnapshot 37 = .ok (.getfield 7, 3) := by decide +kernel
theorem dX8_takeSnapshot_40 : decode cX8_takeSnapshot 40 = .ok (.iconst 0, 1) := by decide +kernel
theorem dX8_takeSnapshot_41 : decode cX8_takeSnapshot 41 = .ok (.iaload, 1) := by decide +kernel
theorem dX8_takeSnapshot_42 : decode cX8_takeSnapshot 42 = .ok (.ireturn, 1) := by decide +kernel
set_option maxRecDepth 20000 in
theorem ggX8_restoreSnapshot_X8_throwing : GoodIn wsX8_restoreSnapshot wsX8_throwing := goodIn_r _ [9, 1, 16, 17, 18, 19, 20, 21, 22, 23, 24, 25, 26, 27, 28] (by decide +kernel) (by decide +kernel)
set_option maxRecDepth 20000 in
theorem gX8_restoreSnapshot_X8_throwing : GoodIn wsX8_restoreSnapshot (wsV RX8 76 RX8 yX8_throwing wsX8_throwing) := goodIn_app (goodIn_of _ (by decide +kernel)) ggX8_restoreSnapshot_X8_throwing
set_option maxRecDepth 20000 in
theorem ggX8_restoreSnapshot_X8_record : GoodIn wsX8_restoreSnapshot wsX8_record := goodIn_r _ [13, 14, 15, 3, 16, 17, 18, 19, 20, 21, 22, 23, 24, 25, 26, 27, 28] (by decide +kernel) (by decide +kernel)
set_option maxRecDepth 20000 in
theorem gX8_restoreSnapshot_X8_record : GoodIn wsX8_restoreSnapshot (wsV RX8 79 RX8 yX8_record wsX8_record) := goodIn_app (goodIn_of _ (by decide +kernel)) ggX8_restoreSnapshot_X8_record
theorem dX8_restoreSnapshot_0 : decode cX8_restoreSnapshot 0 = .ok (.aload_n 0, 1) := by decide +kernel
theorem dX8_restoreSnapshot_1 : decode cX8_restoreSnapshot 1 = .ok (.iconst 0, 1) := by decide +kernel
theorem dX8_restoreSnapshot_2 : decode cX8_restoreSnapshot 2 = .ok (.putfield 31, 3) := by decide +kernel
theorem dX8_restoreSnapshot_5 : decode cX8_restoreSnapshot 5 = .ok (.aload_n 0, 1) := by decide +kernel
theorem dX8_restoreSnapshot_6 : decode cX8_restoreSnapshot 6 = .ok (.getfield 124, 3) := by decide +kernel
theorem dX8_restoreSnapshot_9 : decode cX8_restoreSnapshot 9 = .ok (.ifCond .ne 9, 3) := by decide +kernel
theorem dX8_restoreSnapshot_12 : decode cX8_restoreSnapshot 12 = .ok (.aload_n 0, 1) := by decide +kernel
theorem dX8_restoreSnapshot_13 : decode cX8_restoreSnapshot 13 = .ok (.iconst 1, 1) := by decide +kernel
theorem dX8_restoreSnapshot_14 : decode cX8_restoreSnapshot 14 = .ok (.invokevirtual 76, 3) := by decide +kernel
theorem dX8_restoreSnapshot_17 : decode cX8_restoreSnapshot 17 = .ok (.ireturn, 1) := by decide +kernel
theorem dX8_restoreSnapshot_18 : decode cX8_restoreSnapshot 18 = .ok (.aload_n 0, 1) := by decide +kernel
theorem dX8_restoreSnapshot_19 : decode cX8_restoreSnapshot 19 = .ok (.invokevirtual 79, 3) := by decide +kernel
theorem dX8_restoreSnapshot_22 : decode cX8_restoreSnapshot 22 = .ok (.iconst 0, 1) := by decide +kernel
theorem dX8_restoreSnapshot_23 : decode cX8_restoreSnapshot 23 = .ok (.istore_n 1, 1) := by decide +kernel
theorem dX8_restoreSnapshot_24 : decode cX8_restoreSnapshot 24 = .ok (.iload_n 1, 1) := by decide +kernel
theorem dX8_restoreSnapshot_25 : decode cX8_restoreSnapshot 25 = .ok (.bipush 18, 2) := by decide +kernel
theorem dX8_restoreSnapshot_27 : decode cX8_restoreSnapshot 27 = .ok (.if_icmp .ge 21, 3) := by decide +kernel
theorem dX8_restoreSnapshot_30 : decode cX8_restoreSnapshot 30 = .ok (.aload_n 0, 1) := by decide +kernel
theorem dX8_restoreSnapshot_31 : decode cX8_restoreSnapshot 31 = .ok (.getfield 7, 3) := by decide +kernel
theorem dX8_restoreSnapshot_34 : decode cX8_restoreSnapshot 34 = .ok (.iload_n 1, 1) := by decide +kernel
theorem dX8_restoreSnapshot_35 : decode cX8_restoreSnapshot 35 = .ok (.aload_n 0, 1) := by decide +kernel
theorem dX8_restoreSnapshot_36 : decode cX8_restoreSnapshot 36 = .ok (.getfield 16, 3) := by decide +kernel
theorem dX8_restoreSnapshot_39 : decode cX8_restoreSnapshot 39 = .ok (.iload_n 1, 1) := by decide +kernel
theorem dX8_restoreSnapshot_40 : decode cX8_restoreSnapshot 40 = .ok (.iaload, 1) := by decide +kernel
theorem dX8_restoreSnapshot_41 : decode cX8_restoreSnapshot 41 = .ok (.iastore, 1) := by decide +kernel
theorem dX8_restoreSnapshot_42 : decode cX8_restoreSnapshot 42 = .ok (.iinc 1 1, 3) := by decide +kernel
theorem dX8_restoreSnapshot_45 : decode cX8_restoreSnapshot 45 = .ok (.goto (-21), 3) := by decide +kernel
theorem dX8_restoreSnapshot_48 : decode cX8_restoreSnapshot 48 = .ok (.aload_n 0, 1) := by decide +kernel
theorem dX8_restoreSnapshot_49 : decode cX8_restoreSnapshot 49 = .ok (.getfield 7, 3) := by decide +kernel
theorem dX8_restoreSnapshot_52 : decode cX8_restoreSnapshot 52 = .ok (.iconst 0, 1) := by decide +kernel
theorem dX8_restoreSnapshot_53 : decode cX8_restoreSnapshot 53 = .ok (.iaload, 1) := by decide +kernel
theorem dX8_restoreSnapshot_54 : decode cX8_restoreSnapshot 54 = .ok (.ireturn, 1) := by decide +kernel
theorem dX8_plantCount_0 : decode cX8_plantCount 0 = .ok (.aload_n 0, 1) := by decide +kernel
theorem dX8_plantCount_1 : decode cX8_plantCount 1 = .ok (.iconst 0, 1) := by decide +kernel
theorem dX8_plantCount_2 : decode cX8_plantCount 2 = .ok (.putfield 31, 3) := by decide +kernel
theorem dX8_plantCount_5 : decode cX8_plantCount 5 = .ok (.aload_n 0, 1) := by decide +kernel
theorem dX8_plantCount_6 : decode cX8_plantCount 6 = .ok (.getfield 7, 3) := by decide +kernel
theorem dX8_plantCount_9 : decode cX8_plantCount 9 = .ok (.iconst 0, 1) := by decide +kernel
theorem dX8_plantCount_10 : decode cX8_plantCount 10 = .ok (.iaload, 1) := by decide +kernel
theorem dX8_plantCount_11 : decode cX8_plantCount 11 = .ok (.ireturn, 1) := by decide +kernel
set_option maxRecDepth 20000 in
theorem ggX8_allThorns_X8_bits : GoodIn wsX8_allThorns wsX8_bits := goodIn_r _ [5] (by decide +kernel) (by decide +kernel)
set_option maxRecDepth 20000 in
theorem gX8_allThorns_X8_bits : GoodIn wsX8_allThorns (va_wsS RX8 46 yX8_bits wsX8_bits) := goodIn_app (goodIn_of _ (by decide +kernel)) ggX8_allThorns_X8_bits
theorem dX8_allThorns_0 : decode cX8_allThorns 0 = .ok (.iconst 0, 1) := by decide +kernel
theorem dX8_allThorns_1 : decode cX8_allThorns 1 = .ok (.istore_n 1, 1) := by decide +kernel
theorem dX8_allThorns_2 : decode cX8_allThorns 2 = .ok (.iconst 0, 1) := by decide +kernel
theorem dX8_allThorns_3 : decode cX8_allThorns 3 = .ok (.istore_n 2, 1) := by decide +kernel
theorem dX8_allThorns_4 : decode cX8_allThorns 4 = .ok (.iload_n 2, 1) := by decide +kernel
theorem dX8_allThorns_5 : decode cX8_allThorns 5 = .ok (.aload_n 0, 1) := by decide +kernel
theorem dX8_allThorns_6 : decode cX8_allThorns 6 = .ok (.getfield 7, 3) := by decide +kernel
theorem dX8_allThorns_9 : decode cX8_allThorns 9 = .ok (.iconst 0, 1) := by decide +kernel
theorem dX8_allThorns_10 : decode cX8_allThorns 10 = .ok (.iaload, 1) := by decide +kernel
theorem dX8_allThorns_11 : decode cX8_allThorns 11 = .ok (.if_icmp .ge 23, 3) := by decide +kernel
theorem dX8_allThorns_14 : decode cX8_allThorns 14 = .ok (.iload_n 1, 1) := by decide +kernel
theorem dX8_allThorns_15 : decode cX8_allThorns 15 = .ok (.aload_n 0, 1) := by decide +kernel
theorem dX8_allThorns_16 : decode cX8_allThorns 16 = .ok (.getfield 7, 3) := by decide +kernel
theorem dX8_allThorns_19 : decode cX8_allThorns 19 = .ok (.iconst 2, 1) := by decide +kernel
theorem dX8_allThorns_20 : decode cX8_allThorns 20 = .ok (.iload_n 2, 1) := by decide +kernel
theorem dX8_allThorns_21 : decode cX8_allThorns 21 = .ok (.iadd, 1) := by decide +kernel
theorem dX8_allThorns_22 : decode cX8_allThorns 22 = .ok (.iaload, 1) := by decide +kernel
theorem dX8_allThorns_23 : decode cX8_allThorns 23 = .ok (.invokestatic 46, 3) := by decide +kernel
theorem dX8_allThorns_26 : decode cX8_allThorns 26 = .ok (.iadd, 1) := by decide +kernel
theorem dX8_allThorns_27 : decode cX8_allThorns 27 = .ok (.istore_n 1, 1) := by decide +kernel
theorem dX8_allThorns_28 : decode cX8_allThorns 28 = .ok (.iinc 2 1, 3) := by decide +kernel
theorem dX8_allThorns_31 : decode cX8_allThorns 31 = .ok (.goto (-27), 3) := by decide +kernel
theorem dX8_allThorns_34 : decode cX8_allThorns 34 = .ok (.iload_n 1, 1) := by decide +kernel
theorem dX8_allThorns_35 : decode cX8_allThorns 35 = .ok (.iconst 2, 1) := by decide +kernel
theorem dX8_allThorns_36 : decode cX8_allThorns 36 = .ok (.idiv, 1) := by decide +kernel
theorem dX8_allThorns_37 : decode cX8_allThorns 37 = .ok (.ireturn, 1) := by decide +kernel
set_option maxRecDepth 20000 in
theorem ggX8_thornCount_X8_allThorns : GoodIn wsX8_thornCount wsX8_allThorns := goodIn_r _ [6, 7, 8, 9, 5, 10, 11, 12, 13, 14, 15, 16, 17, 18, 19, 20, 21, 22, 23] (by decide +kernel) (by decide +kernel)
set_option maxRecDepth 20000 in
theorem gX8_thornCount_X8_allThorns : GoodIn wsX8_thornCount (wsV RX8 127 RX8 yX8_allThorns wsX8_allThorns) := goodIn_app (goodIn_of _ (by decide +kernel)) ggX8_thornCount_X8_allThorns
theorem dX8_thornCount_0 : decode cX8_thornCount 0 = .ok (.aload_n 0, 1) := by decide +kernel
theorem dX8_thornCount_1 : decode cX8_thornCount 1 = .ok (.iconst 0, 1) := by decide +kernel
theorem dX8_thornCount_2 : decode cX8_thornCount 2 = .ok (.putfield 31, 3) := by decide +kernel
theorem dX8_thornCount_5 : decode cX8_thornCount 5 = .ok (.aload_n 0, 1) := by decide +kernel
theorem dX8_thornCount_6 : decode cX8_thornCount 6 = .ok (.invokevirtual 127, 3) := by decide +kernel
theorem dX8_thornCount_9 : decode cX8_thornCount 9 = .ok (.ireturn, 1) := by decide +kernel
set_option maxRecDepth 20000 in
theorem ggX8_neighbors_X8_isThere : GoodIn wsX8_neighbors wsX8_isThere := goodIn_r _ [6, 7, 8, 9, 10, 5, 11, 1, 12, 13, 14, 15, 16, 17, 18, 19, 20, 21, 22, 23, 24, 25, 26, 27] (by decide +kernel) (by decide +kernel)
set_option maxRecDepth 20000 in
theorem gX8_neighbors_X8_isThere : GoodIn wsX8_neighbors (wsV RX8 82 RX8 yX8_isThere wsX8_isThere) := goodIn_app (goodIn_of _ (by decide +kernel)) ggX8_neighbors_X8_isThere
theorem dX8_neighbors_0 : decode cX8_neighbors 0 = .ok (.aload_n 0, 1) := by decide +kernel
theorem dX8_neighbors_1 : decode cX8_neighbors 1 = .ok (.iload_n 1, 1) := by decide +kernel
theorem dX8_neighbors_2 : decode cX8_neighbors 2 = .ok (.invokevirtual 82, 3) := by decide +kernel
theorem dX8_neighbors_5 : decode cX8_neighbors 5 = .ok (.ifCond .eq 14, 3) := by decide +kernel
theorem dX8_neighbors_8 : decode cX8_neighbors 8 = .ok (.aload_n 0, 1) := by decide +kernel
theorem dX8_neighbors_9 : decode cX8_neighbors 9 = .ok (.getfield 7, 3) := by decide +kernel
theorem dX8_neighbors_12 : decode cX8_neighbors 12 = .ok (.iconst 2, 1) := by decide +kernel
theorem dX8_neighbors_13 : decode cX8_neighbors 13 = .ok (.iload_n 1, 1) := by decide +kernel
theorem dX8_neighbors_14 : decode cX8_neighbors 14 = .ok (.iadd, 1) := by decide +kernel
theorem dX8_neighbors_15 : decode cX8_neighbors 15 = .ok (.iaload, 1) := by decide +kernel
theorem dX8_neighbors_16 : decode cX8_neighbors 16 = .ok (.goto 4, 3) := by decide +kernel
theorem dX8_neighbors_19 : decode cX8_neighbors 19 = .ok (.iconst 0, 1) := by decide +kernel
theorem dX8_neighbors_20 : decode cX8_neighbors 20 = .ok (.ireturn, 1) := by decide +kernel
set_option maxRecDepth 20000 in
theorem ggX8_isPropped_X8_isThere : GoodIn wsX8_isPropped wsX8_isThere := goodIn_r _ [6, 7, 8, 9, 10, 5, 11, 1, 12, 13, 14, 18, 19, 20, 21, 22, 23, 24, 25, 26, 27, 28, 29, 30] (by decide +kernel) (by decide +kernel)
set_option maxRecDepth 20000 in
theorem gX8_isPropped_X8_isThere : GoodIn wsX8_isPropped (wsV RX8 82 RX8 yX8_isThere wsX8_isThere) := goodIn_app (goodIn_of _ (by decide +kernel)) ggX8_isPropped_X8_isThere
set_option maxRecDepth 20000 in
theorem ggX8_isPropped_X8_has : GoodIn wsX8_isPropped wsX8_has := goodIn_r _ [17] (by decide +kernel) (by decide +kernel)
set_option maxRecDepth 20000 in
theorem gX8_isPropped_X8_has : GoodIn wsX8_isPropped (va_wsS RX8 50 yX8_has wsX8_has) := goodIn_app (goodIn_of _ (by decide +kernel)) ggX8_isPropped_X8_has
theorem dX8_isPropped_0 : decode cX8_isPropped 0 = .ok (.aload_n 0, 1) := by decide +kernel
theorem dX8_isPropped_1 : decode cX8_isPropped 1 = .ok (.iload_n 1, 1) := by decide +kernel
theorem dX8_isPropped_2 : decode cX8_isPropped 2 = .ok (.invokevirtual 82, 3) := by decide +kernel
theorem dX8_isPropped_5 : decode cX8_isPropped 5 = .ok (.ifCond .eq 20, 3) := by decide +kernel
theorem dX8_isPropped_8 : decode cX8_isPropped 8 = .ok (.aload_n 0, 1) := by decide +kernel
theorem dX8_isPropped_9 : decode cX8_isPropped 9 = .ok (.getfield 7, 3) := by decide +kernel
theorem dX8_isPropped_12 : decode cX8_isPropped 12 = .ok (.iconst 1, 1) := by decide +kernel
theorem dX8_isPropped_13 : decode cX8_isPropped 13 = .ok (.iaload, 1) := by decide +kernel
theorem dX8_isPropped_14 : decode cX8_isPropped 14 = .ok (.iload_n 1, 1) := by decide +kernel
theorem dX8_isPropped_15 : decode cX8_isPropped 15 = .ok (.invokestatic 50, 3) := by decide +kernel
theorem dX8_isPropped_18 : decode cX8_isPropped 18 = .ok (.ifCond .eq 7, 3) := by decide +kernel
theorem dX8_isPropped_21 : decode cX8_isPropped 21 = .ok (.iconst 1, 1) := by decide +kernel
theorem dX8_isPropped_22 : decode cX8_isPropped 22 = .ok (.goto 4, 3) := by decide +kernel
theorem dX8_isPropped_25 : decode cX8_isPropped 25 = .ok (.iconst 0, 1) := by decide +kernel
theorem dX8_isPropped_26 : decode cX8_isPropped 26 = .ok (.ireturn, 1) := by decide +kernel
set_option maxRecDepth 20000 in
theorem ggX8_threes_X8_areBound : GoodIn wsX8_threes wsX8_areBound := goodIn_r _ [6, 1, 7, 8, 5, 9, 13, 14, 15, 16, 17, 18, 19, 20, 21, 22, 23, 24, 25] (by decide +kernel) (by decide +kernel)
set_option maxRecDepth 20000 in
theorem gX8_threes_X8_areBound : GoodIn wsX8_threes (wsV RX8 91 RX8 yX8_areBound wsX8_areBound) := goodIn_app (goodIn_of _ (by decide +kernel)) ggX8_threes_X8_areBound
set_option maxRecDepth 20000 in
theorem ggX8_threes_X8_bits : GoodIn wsX8_threes wsX8_bits := goodIn_r _ [12] (by decide +kernel) (by decide +kernel)
set_option maxRecDepth 20000 in
theorem gX8_threes_X8_bits : GoodIn wsX8_threes (va_wsS RX8 46 yX8_bits wsX8_bits) := goodIn_app (goodIn_of _ (by decide +kernel)) ggX8_threes_X8_bits
theorem dX8_threes_0 : decode cX8_threes 0 = .ok (.iconst 0, 1) := by decide +kernel
theorem dX8_threes_1 : decode cX8_threes 1 = .ok (.istore_n 1, 1) := by decide +kernel
theorem dX8_threes_2 : decode cX8_threes 2 = .ok (.iconst 0, 1) := by decide +kernel
theorem dX8_threes_3 : decode cX8_threes 3 = .ok (.istore_n 2, 1) := by decide +kernel
theorem dX8_threes_4 : decode cX8_threes 4 = .ok (.iload_n 2, 1) := by decide +kernel
theorem dX8_threes_5 : decode cX8_threes 5 = .ok (.aload_n 0, 1) := by decide +kernel
theorem dX8_threes_6 : decode cX8_threes 6 = .ok (.getfield 7, 3) := by decide +kernel
theorem dX8_threes_9 : decode cX8_threes 9 = .ok (.iconst 0, 1) := by decide +kernel
theorem dX8_threes_10 : decode cX8_threes 10 = .ok (.iaload, 1) := by decide +kernel
theorem dX8_threes_11 : decode cX8_threes 11 = .ok (.if_icmp .ge 64, 3) := by decide +kernel
theorem dX8_threes_14 : decode cX8_threes 14 = .ok (.iconst 0, 1) := by decide +kernel
theorem dX8_threes_15 : decode cX8_threes 15 = .ok (.istore_n 3, 1) := by decide +kernel
theorem dX8_threes_16 : decode cX8_threes 16 = .ok (.iload_n 3, 1) := by decide +kernel
theorem dX8_threes_17 : decode cX8_threes 17 = .ok (.iload_n 2, 1) := by decide +kernel
theorem dX8_threes_18 : decode cX8_threes 18 = .ok (.if_icmp .ge 51, 3) := by decide +kernel
theorem dX8_threes_21 : decode cX8_threes 21 = .ok (.iload_n 1, 1) := by decide +kernel
theorem dX8_threes_22 : decode cX8_threes 22 = .ok (.aload_n 0, 1) := by decide +kernel
theorem dX8_threes_23 : decode cX8_threes 23 = .ok (.iload_n 2, 1) := by decide +kernel
theorem dX8_threes_24 : decode cX8_threes 24 = .ok (.iload_n 3, 1) := by decide +kernel
theorem dX8_threes_25 : decode cX8_threes 25 = .ok (.invokevirtual 91, 3) := by decide +kernel
theorem dX8_threes_28 : decode cX8_threes 28 = .ok (.ifCond .eq 32, 3) := by decide +kernel
theorem dX8_threes_31 : decode cX8_threes 31 = .ok (.aload_n 0, 1) := by decide +kernel
theorem dX8_threes_32 : decode cX8_threes 32 = .ok (.getfield 7, 3) := by decide +kernel
theorem dX8_threes_35 : decode cX8_threes 35 = .ok (.iconst 2, 1) := by decide +kernel
theorem dX8_threes_36 : decode cX8_threes 36 = .ok (.iload_n 2, 1) := by decide +kernel
theorem dX8_threes_37 : decode cX8_threes 37 = .ok (.iadd, 1) := by decide +kernel
theorem dX8_threes_38 : decode cX8_threes 38 = .ok (.iaload, 1) := by decide +kernel
theorem dX8_threes_39 : decode cX8_threes 39 = .ok (.aload_n 0, 1) := by decide +kernel
theorem dX8_threes_40 : decode cX8_threes 40 = .ok (.getfield 7, 3) := by decide +kernel
theorem dX8_threes_43 : decode cX8_threes 43 = .ok (.iconst 2, 1) := by decide +kernel
theorem dX8_threes_44 : decode cX8_threes 44 = .ok (.iload_n 3, 1) := by decide +kernel
theorem dX8_threes_45 : decode cX8_threes 45 = .ok (.iadd, 1) := by decide +kernel
theorem dX8_threes_46 : decode cX8_threes 46 = .ok (.iaload, 1) := by decide +kernel
theorem dX8_threes_47 : decode cX8_threes 47 = .ok (.iand, 1) := by decide +kernel
theorem dX8_threes_48 : decode cX8_threes 48 = .ok (.iconst 1, 1) := by decide +kernel
theorem dX8_threes_49 : decode cX8_threes 49 = .ok (.iload_n 3, 1) := by decide +kernel
theorem dX8_threes_50 : decode cX8_threes 50 = .ok (.ishl, 1) := by decide +kernel
theorem dX8_threes_51 : decode cX8_threes 51 = .ok (.iconst 1, 1) := by decide +kernel
theorem dX8_threes_52 : decode cX8_threes 52 = .ok (.isub, 1) := by decide +kernel
theorem dX8_threes_53 : decode cX8_threes 53 = .ok (.iand, 1) := by decide +kernel
theorem dX8_threes_54 : decode cX8_threes 54 = .ok (.invokestatic 46, 3) := by decide +kernel
theorem dX8_threes_57 : decode cX8_threes 57 = .ok (.goto 4, 3) := by decide +kernel
theorem dX8_threes_60 : decode cX8_threes 60 = .ok (.iconst 0, 1) := by decide +kernel
theorem dX8_threes_61 : decode cX8_threes 61 = .ok (.iadd, 1) := by decide +kernel
theorem dX8_threes_62 : decode cX8_threes 62 = .ok (.istore_n 1, 1) := by decide +kernel
theorem dX8_threes_63 : decode cX8_threes 63 = .ok (.iinc 3 1, 3) := by decide +kernel
theorem dX8_threes_66 : decode cX8_threes 66 = .ok (.goto (-50), 3) := by decide +kernel
theorem dX8_threes_69 : decode cX8_threes 69 = .ok (.iinc 2 1, 3) := by decide +kernel
theorem dX8_threes_72 : decode cX8_threes 72 = .ok (.goto (-68), 3) := by decide +kernel
theorem dX8_threes_75 : decode cX8_threes 75 = .ok (.iload_n 1, 1) := by decide +kernel
theorem dX8_threes_76 : decode cX8_threes 76 = .ok (.ireturn, 1) := by decide +kernel
set_option maxRecDepth 20000 in
theorem ggX8_triangles_X8_threes : GoodIn wsX8_triangles wsX8_threes := goodIn_r _ [6, 7, 8, 9, 10, 5, 11, 12, 13, 14, 15, 16, 17, 18, 19, 20, 21, 22, 23, 24, 25, 26, 27, 28, 29, 30] (by decide +kernel) (by decide +kernel)
set_option maxRecDepth 20000 in
theorem gX8_triangles_X8_threes : GoodIn wsX8_triangles (wsV RX8 130 RX8 yX8_threes wsX8_threes) := goodIn_app (goodIn_of _ (by decide +kernel)) ggX8_triangles_X8_threes
theorem dX8_triangles_0 : decode cX8_triangles 0 = .ok (.aload_n 0, 1) := by decide +kernel
theorem dX8_triangles_1 : decode cX8_triangles 1 = .ok (.iconst 0, 1) := by decide +kernel
theorem dX8_triangles_2 : decode cX8_triangles 2 = .ok (.putfield 31, 3) := by decide +kernel
theorem dX8_triangles_5 : decode cX8_triangles 5 = .ok (.aload_n 0, 1) := by decide +kernel
theorem dX8_triangles_6 : decode cX8_triangles 6 = .ok (.invokevirtual 130, 3) := by decide +kernel
theorem dX8_triangles_9 : decode cX8_triangles 9 = .ok (.ireturn, 1) := by decide +kernel
set_option maxRecDepth 20000 in
theorem ggX8_trianglesBySupport_X8_threes : GoodIn wsX8_trianglesBySupport wsX8_threes := goodIn_r _ [6, 7, 8, 9, 10, 5, 11, 12, 13, 14, 15, 16, 17, 18, 19, 20, 21, 22, 23, 24, 25, 26, 27, 28, 29, 30] (by decide +kernel) (by decide +kernel)
set_option maxRecDepth 20000 in
theorem gX8_trianglesBySupport_X8_threes : GoodIn wsX8_trianglesBySupport (wsV RX8 130 RX8 yX8_threes wsX8_threes) := goodIn_app (goodIn_of _ (by decide +kernel)) ggX8_trianglesBySupport_X8_threes
theorem dX8_trianglesBySupport_0 : decode cX8_trianglesBySupport 0 = .ok (.aload_n 0, 1) := by decide +kernel
theorem dX8_trianglesBySupport_1 : decode cX8_trianglesBySupport 1 = .ok (.iconst 0, 1) := by decide +kernel
theorem dX8_trianglesBySupport_2 : decode cX8_trianglesBySupport 2 = .ok (.putfield 31, 3) := by decide +kernel
theorem dX8_trianglesBySupport_5 : decode cX8_trianglesBySupport 5 = .ok (.aload_n 0, 1) := by decide +kernel
theorem dX8_trianglesBySupport_6 : decode cX8_trianglesBySupport 6 = .ok (.invokevirtual 130, 3) := by decide +kernel
theorem dX8_trianglesBySupport_9 : decode cX8_trianglesBySupport 9 = .ok (.ireturn, 1) := by decide +kernel
set_option maxRecDepth 20000 in
theorem ggX8_core_X8_isDepth : GoodIn wsX8_core wsX8_isDepth := goodIn_r _ [5, 6, 7, 8, 4, 9, 29, 30, 31, 32, 33, 34, 35, 36, 37, 38, 39, 40, 41] (by decide +kernel) (by decide +kernel)
set_option maxRecDepth 20000 in
theorem gX8_core_X8_isDepth : GoodIn wsX8_core (wsV RX8 133 RX8 yX8_isDepth wsX8_isDepth) := goodIn_app (goodIn_of _ (by decide +kernel)) ggX8_core_X8_isDepth
set_option maxRecDepth 20000 in
theorem ggX8_core_X8_cored : GoodIn wsX8_core wsX8_cored := goodIn_r _ [13, 14, 15, 16, 17, 4, 18, 19, 20, 21, 22, 23, 24, 25, 26, 27, 28, 29, 30, 31, 32, 33, 34, 35, 36, 37, 38, 39, 40, 41] (by decide +kernel) (by decide +kernel)
set_option maxRecDepth 20000 in
theorem gX8_core_X8_cored : GoodIn wsX8_core (wsV RX8 62 RX8 yX8_cored wsX8_cored) := goodIn_app (goodIn_of _ (by decide +kernel)) ggX8_core_X8_cored
theorem dX8_core_0 : decode cX8_core 0 = .ok (.aload_n 0, 1) := by decide +kernel
theorem dX8_core_1 : decode cX8_core 1 = .ok (.iload_n 1, 1) := by decide +kernel
theorem dX8_core_2 : decode cX8_core 2 = .ok (.invokevirtual 133, 3) := by decide +kernel
theorem dX8_core_5 : decode cX8_core 5 = .ok (.ifCond .eq 11, 3) := by decide +kernel
theorem dX8_core_8 : decode cX8_core 8 = .ok (.aload_n 0, 1) := by decide +kernel
theorem dX8_core_9 : decode cX8_core 9 = .ok (.iload_n 1, 1) := by decide +kernel
theorem dX8_core_10 : decode cX8_core 10 = .ok (.invokevirtual 62, 3) := by decide +kernel
theorem dX8_core_13 : decode cX8_core 13 = .ok (.goto 4, 3) := by decide +kernel
theorem dX8_core_16 : decode cX8_core 16 = .ok (.iconst 0, 1) := by decide +kernel
theorem dX8_core_17 : decode cX8_core 17 = .ok (.ireturn, 1) := by decide +kernel
set_option maxRecDepth 20000 in
theorem ggX8_coreOf_X8_isThere : GoodIn wsX8_coreOf wsX8_isThere := goodIn_r _ [5, 6, 7, 8, 9, 4, 10, 11, 12, 13, 14, 37, 38, 39, 40, 41, 42, 43, 44, 45, 46, 47, 48, 49] (by decide +kernel) (by decide +kernel)
set_option maxRecDepth 20000 in
theorem gX8_coreOf_X8_isThere : GoodIn wsX8_coreOf (wsV RX8 82 RX8 yX8_isThere wsX8_isThere) := goodIn_app (goodIn_of _ (by decide +kernel)) ggX8_coreOf_X8_isThere
set_option maxRecDepth 20000 in
theorem ggX8_coreOf_X8_coreNumber : GoodIn wsX8_coreOf wsX8_coreNumber := goodIn_r _ [18, 19, 20, 21, 4, 22, 11, 23, 24, 25, 26, 27, 28, 29, 30, 31, 32, 33, 34, 35, 36, 37, 38, 39, 40, 41, 42, 43, 44, 45, 46, 47, 48, 49] (by decide +kernel) (by decide +kernel)
set_option maxRecDepth 20000 in
theorem gX8_coreOf_X8_coreNumber : GoodIn wsX8_coreOf (wsV RX8 136 RX8 yX8_coreNumber wsX8_coreNumber) := goodIn_app (goodIn_of _ (by decide +kernel)) ggX8_coreOf_X8_coreNumber
theorem dX8_coreOf_0 : decode cX8_coreOf 0 = .ok (.aload_n 0, 1) := by decide +kernel
theorem dX8_coreOf_1 : decode cX8_coreOf 1 = .ok (.iload_n 1, 1) := by decide +kernel
theorem dX8_coreOf_2 : decode cX8_coreOf 2 = .ok (.invokevirtual 82, 3) := by decide +kernel
theorem dX8_coreOf_5 : decode cX8_coreOf 5 = .ok (.ifCond .eq 11, 3) := by decide +kernel
theorem dX8_coreOf_8 : decode cX8_coreOf 8 = .ok (.aload_n 0, 1) := by decide +kernel
theorem dX8_coreOf_9 : decode cX8_coreOf 9 = .ok (.iload_n 1, 1) := by decide +kernel
theorem dX8_coreOf_10 : decode cX8_coreOf 10 = .ok (.invokevirtual 136, 3) := by decide +kernel
theorem dX8_coreOf_13 : decode cX8_coreOf 13 = .ok (.goto 4, 3) := by decide +kernel
theorem dX8_coreOf_16 : decode cX8_coreOf 16 = .ok (.iconst 0, 1) := by decide +kernel
theorem dX8_coreOf_17 : decode cX8_coreOf 17 = .ok (.ireturn, 1) := by decide +kernel
set_option maxRecDepth 20000 in
theorem ggX8_coreByRounds_X8_isThere : GoodIn wsX8_coreByRounds wsX8_isThere := goodIn_r _ [5, 6, 7, 8, 9, 4, 10, 11, 12, 13, 14, 37, 38, 39, 40, 41, 42, 43, 44, 45, 46, 47, 48, 49] (by decide +kernel) (by decide +kernel)
set_option maxRecDepth 20000 in
theorem gX8_coreByRounds_X8_isThere : GoodIn wsX8_coreByRounds (wsV RX8 82 RX8 yX8_isThere wsX8_isThere) := goodIn_app (goodIn_of _ (by decide +kernel)) ggX8_coreByRounds_X8_isThere
set_option maxRecDepth 20000 in
theorem ggX8_coreByRounds_X8_coreNumber : GoodIn wsX8_coreByRounds wsX8_coreNumber := goodIn_r _ [18, 19, 20, 21, 4, 22, 11, 23, 24, 25, 26, 27, 28, 29, 30, 31, 32, 33, 34, 35, 36, 37, 38, 39, 40, 41, 42, 43, 44, 45, 46, 47, 48, 49] (by decide +kernel) (by decide +kernel)
set_option maxRecDepth 20000 in
theorem gX8_coreByRounds_X8_coreNumber : GoodIn wsX8_coreByRounds (wsV RX8 136 RX8 yX8_coreNumber wsX8_coreNumber) := goodIn_app (goodIn_of _ (by decide +kernel)) ggX8_coreByRounds_X8_coreNumber
theorem dX8_coreByRounds_0 : decode cX8_coreByRounds 0 = .ok (.aload_n 0, 1) := by decide +kernel
theorem dX8_coreByRounds_1 : decode cX8_coreByRounds 1 = .ok (.iload_n 1, 1) := by decide +kernel
theorem dX8_coreByRounds_2 : decode cX8_coreByRounds 2 = .ok (.invokevirtual 82, 3) := by decide +kernel
theorem dX8_coreByRounds_5 : decode cX8_coreByRounds 5 = .ok (.ifCond .eq 11, 3) := by decide +kernel
theorem dX8_coreByRounds_8 : decode cX8_coreByRounds 8 = .ok (.aload_n 0, 1) := by decide +kernel
theorem dX8_coreByRounds_9 : decode cX8_coreByRounds 9 = .ok (.iload_n 1, 1) := by decide +kernel
theorem dX8_coreByRounds_10 : decode cX8_coreByRounds 10 = .ok (.invokevirtual 136, 3) := by decide +kernel
theorem dX8_coreByRounds_13 : decode cX8_coreByRounds 13 = .ok (.goto 4, 3) := by decide +kernel
theorem dX8_coreByRounds_16 : decode cX8_coreByRounds 16 = .ok (.iconst 0, 1) := by decide +kernel
theorem dX8_coreByRounds_17 : decode cX8_coreByRounds 17 = .ok (.ireturn, 1) := by decide +kernel
set_option maxRecDepth 20000 in
theorem ggX8_placeOf_X8_isThere : GoodIn wsX8_placeOf wsX8_isThere := goodIn_r _ [6, 7, 8, 9, 10, 5, 11, 12, 13, 14, 15, 30, 31, 32, 33, 34, 35, 36, 37, 38, 39, 40, 41, 42] (by decide +kernel) (by decide +kernel)
set_option maxRecDepth 20000 in
theorem gX8_placeOf_X8_isThere : GoodIn wsX8_placeOf (wsV RX8 82 RX8 yX8_isThere wsX8_isThere) := goodIn_app (goodIn_of _ (by decide +kernel)) ggX8_placeOf_X8_isThere
set_option maxRecDepth 20000 in
theorem ggX8_placeOf_X8_falls : GoodIn wsX8_placeOf wsX8_falls := goodIn_r _ [19, 12, 1, 20, 21, 22, 5, 23, 24, 25, 26, 27, 28, 29, 30, 31, 32, 33, 34, 35, 36, 37, 38, 39, 40, 41, 42] (by decide +kernel) (by decide +kernel)
set_option maxRecDepth 20000 in
theorem gX8_placeOf_X8_falls : GoodIn wsX8_placeOf (wsV RX8 65 RX8 yX8_falls wsX8_falls) := goodIn_app (goodIn_of _ (by decide +kernel)) ggX8_placeOf_X8_falls
theorem dX8_placeOf_0 : decode cX8_placeOf 0 = .ok (.aload_n 0, 1) := by decide +kernel
theorem dX8_placeOf_1 : decode cX8_placeOf 1 = .ok (.iload_n 1, 1) := by decide +kernel
theorem dX8_placeOf_2 : decode cX8_placeOf 2 = .ok (.invokevirtual 82, 3) := by decide +kernel
theorem dX8_placeOf_5 : decode cX8_placeOf 5 = .ok (.ifCond .ne 5, 3) := by decide +kernel
theorem dX8_placeOf_8 : decode cX8_placeOf 8 = .ok (.iconst 0, 1) := by decide +kernel
theorem dX8_placeOf_9 : decode cX8_placeOf 9 = .ok (.ireturn, 1) := by decide +kernel
theorem dX8_placeOf_10 : decode cX8_placeOf 10 = .ok (.aload_n 0, 1) := by decide +kernel
theorem dX8_placeOf_11 : decode cX8_placeOf 11 = .ok (.invokevirtual 65, 3) := by decide +kernel
theorem dX8_placeOf_14 : decode cX8_placeOf 14 = .ok (.iconst 0, 1) := by decide +kernel
theorem dX8_placeOf_15 : decode cX8_placeOf 15 = .ok (.istore_n 2, 1) := by decide +kernel
theorem dX8_placeOf_16 : decode cX8_placeOf 16 = .ok (.aload_n 0, 1) := by decide +kernel
theorem dX8_placeOf_17 : decode cX8_placeOf 17 = .ok (.getfield 22, 3) := by decide +kernel
theorem dX8_placeOf_20 : decode cX8_placeOf 20 = .ok (.iload_n 2, 1) := by decide +kernel
theorem dX8_placeOf_21 : decode cX8_placeOf 21 = .ok (.iaload, 1) := by decide +kernel
theorem dX8_placeOf_22 : decode cX8_placeOf 22 = .ok (.iload_n 1, 1) := by decide +kernel
theorem dX8_placeOf_23 : decode cX8_placeOf 23 = .ok (.if_icmp .eq 9, 3) := by decide +kernel
theorem dX8_placeOf_26 : decode cX8_placeOf 26 = .ok (.iinc 2 1, 3) := by decide +kernel
theorem dX8_placeOf_29 : decode cX8_placeOf 29 = .ok (.goto (-13), 3) := by decide +kernel
theorem dX8_placeOf_32 : decode cX8_placeOf 32 = .ok (.iload_n 2, 1) := by decide +kernel
theorem dX8_placeOf_33 : decode cX8_placeOf 33 = .ok (.ireturn, 1) := by decide +kernel
set_option maxRecDepth 20000 in
theorem ggX8_corePieces_X8_isDepth : GoodIn wsX8_corePieces wsX8_isDepth := goodIn_r _ [6, 7, 8, 9, 5, 10, 29, 30, 31, 32, 33, 34, 35, 36, 37, 38, 39, 40, 41] (by decide +kernel) (by decide +kernel)
set_option maxRecDepth 20000 in
theorem gX8_corePieces_X8_isDepth : GoodIn wsX8_corePieces (wsV RX8 133 RX8 yX8_isDepth wsX8_isDepth) := goodIn_app (goodIn_of _ (by decide +kernel)) ggX8_corePieces_X8_isDepth
set_option maxRecDepth 20000 in
theorem ggX8_corePieces_X8_cored : GoodIn wsX8_corePieces wsX8_cored := goodIn_r _ [14, 1, 15, 16, 17, 5, 18, 19, 20, 21, 22, 23, 24, 25, 26, 27, 28, 29, 30, 31, 32, 33, 34, 35, 36, 37, 38, 39, 40, 41] (by decide +kernel) (by decide +kernel)
set_option maxRecDepth 20000 in
theorem gX8_corePieces_X8_cored : GoodIn wsX8_corePieces (wsV RX8 62 RX8 yX8_cored wsX8_cored) := goodIn_app (goodIn_of _ (by decide +kernel)) ggX8_corePieces_X8_cored
set_option maxRecDepth 20000 in
theorem ggX8_corePieces_X8_has : GoodIn wsX8_corePieces wsX8_has := goodIn_r _ [25] (by decide +kernel) (by decide +kernel)
set_option maxRecDepth 20000 in
theorem gX8_corePieces_X8_has : GoodIn wsX8_corePieces (va_wsS RX8 50 yX8_has wsX8_has) := goodIn_app (goodIn_of _ (by decide +kernel)) ggX8_corePieces_X8_has
theorem dX8_corePieces_0 : decode cX8_corePieces 0 = .ok (.aload_n 0, 1) := by decide +kernel
theorem dX8_corePieces_1 : decode cX8_corePieces 1 = .ok (.iload_n 1, 1) := by decide +kernel
theorem dX8_corePieces_2 : decode cX8_corePieces 2 = .ok (.invokevirtual 133, 3) := by decide +kernel
theorem dX8_corePieces_5 : decode cX8_corePieces 5 = .ok (.ifCond .ne 5, 3) := by decide +kernel
theorem dX8_corePieces_8 : decode cX8_corePieces 8 = .ok (.iconst 0, 1) := by decide +kernel
theorem dX8_corePieces_9 : decode cX8_corePieces 9 = .ok (.ireturn, 1) := by decide +kernel
theorem dX8_corePieces_10 : decode cX8_corePieces 10 = .ok (.aload_n 0, 1) := by decide +kernel
theorem dX8_corePieces_11 : decode cX8_corePieces 11 = .ok (.iload_n 1, 1) := by decide +kernel
theorem dX8_corePieces_12 : decode cX8_corePieces 12 = .ok (.invokevirtual 62, 3) := by decide +kernel
theorem dX8_corePieces_15 : decode cX8_corePieces 15 = .ok (.istore_n 2, 1) := by decide +kernel
theorem dX8_corePieces_16 : decode cX8_corePieces 16 = .ok (.iconst 0, 1) := by decide +kernel
theorem dX8_corePieces_17 : decode cX8_corePieces 17 = .ok (.istore_n 3, 1) := by decide +kernel
theorem dX8_corePieces_18 : decode cX8_corePieces 18 = .ok (.iconst 0, 1) := by decide +kernel
theorem dX8_corePieces_19 : decode cX8_corePieces 19 = .ok (.istore 4, 2) := by decide +kernel
theorem dX8_corePieces_21 : decode cX8_corePieces 21 = .ok (.iload 4, 2) := by decide +kernel
theorem dX8_corePieces_23 : decode cX8_corePieces 23 = .ok (.aload_n 0, 1) := by decide +kernel
theorem dX8_corePieces_24 : decode cX8_corePieces 24 = .ok (.getfield 7, 3) := by decide +kernel
theorem dX8_corePieces_27 : decode cX8_corePieces 27 = .ok (.iconst 0, 1) := by decide +kernel
theorem dX8_corePieces_28 : decode cX8_corePieces 28 = .ok (.iaload, 1) := by decide +kernel
theorem dX8_corePieces_29 : decode cX8_corePieces 29 = .ok (.if_icmp .ge 101, 3) := by decide +kernel
theorem dX8_corePieces_32 : decode cX8_corePieces 32 = .ok (.iload_n 2, 1) := by decide +kernel
theorem dX8_corePieces_33 : decode cX8_corePieces 33 = .ok (.iload 4, 2) := by decide +kernel
theorem dX8_corePieces_35 : decode cX8_corePieces 35 = .ok (.invokestatic 50, 3) := by decide +kernel
theorem dX8_corePieces_38 : decode cX8_corePieces 38 = .ok (.ifCond .eq 86, 3) := by decide +kernel
theorem dX8_corePieces_41 : decode cX8_corePieces 41 = .ok (.iconst 1, 1) := by decide +kernel
theorem dX8_corePieces_42 : decode cX8_corePieces 42 = .ok (.iload 4, 2) := by decide +kernel
theorem dX8_corePieces_44 : decode cX8_corePieces 44 = .ok (.ishl, 1) := by decide +kernel
theorem dX8_corePieces_45 : decode cX8_corePieces 45 = .ok (.istore 5, 2) := by decide +kernel
theorem dX8_corePieces_47 : decode cX8_corePieces 47 = .ok (.iconst 0, 1) := by decide +kernel
theorem dX8_corePieces_48 : decode cX8_corePieces 48 = .ok (.istore 6, 2) := by decide +kernel
theorem dX8_corePieces_50 : decode cX8_corePieces 50 = .ok (.iload 6, 2) := by decide +kernel
theorem dX8_corePieces_52 : decode cX8_corePieces 52 = .ok (.iload 5, 2) := by decide +kernel
theorem dX8_corePieces_54 : decode cX8_corePieces 54 = .ok (.if_icmp .eq 60, 3) := by decide +kernel
theorem dX8_corePieces_57 : decode cX8_corePieces 57 = .ok (.iload 5, 2) := by decide +kernel
theorem dX8_corePieces_59 : decode cX8_corePieces 59 = .ok (.istore 6, 2) := by decide +kernel
theorem dX8_corePieces_61 : decode cX8_corePieces 61 = .ok (.iconst 0, 1) := by decide +kernel
theorem dX8_corePieces_62 : decode cX8_corePieces 62 = .ok (.istore 7, 2) := by decide +kernel
theorem dX8_corePieces_64 : decode cX8_corePieces 64 = .ok (.iload 7, 2) := by decide +kernel
theorem dX8_corePieces_66 : decode cX8_corePieces 66 = .ok (.aload_n 0, 1) := by decide +kernel
theorem dX8_corePieces_67 : decode cX8_corePieces 67 = .ok (.getfield 7, 3) := by decide +kernel
theorem dX8_corePieces_70 : decode cX8_corePieces 70 = .ok (.iconst 0, 1) := by decide +kernel
theorem dX8_corePieces_71 : decode cX8_corePieces 71 = .ok (.iaload, 1) := by decide +kernel
theorem dX8_corePieces_72 : decode cX8_corePieces 72 = .ok (.if_icmp .ge 39, 3) := by decide +kernel
theorem dX8_corePieces_75 : decode cX8_corePieces 75 = .ok (.iload 5, 2) := by decide +kernel
theorem dX8_corePieces_77 : decode cX8_corePieces 77 = .ok (.iload 5, 2) := by decide +kernel
theorem dX8_corePieces_79 : decode cX8_corePieces 79 = .ok (.iload 7, 2) := by decide +kernel
theorem dX8_corePieces_81 : decode cX8_corePieces 81 = .ok (.invokestatic 50, 3) := by decide +kernel
theorem dX8_corePieces_84 : decode cX8_corePieces 84 = .ok (.ifCond .eq 17, 3) := by decide +kernel
theorem dX8_corePieces_87 : decode cX8_corePieces 87 = .ok (.aload_n 0, 1) := by decide +kernel
theorem dX8_corePieces_88 : decode cX8_corePieces 88 = .ok (.getfield 7, 3) := by decide +kernel
theorem dX8_corePieces_91 : decode cX8_corePieces 91 = .ok (.iconst 2, 1) := by decide +kernel
theorem dX8_corePieces_92 : decode cX8_corePieces 92 = .ok (.iload 7, 2) := by decide +kernel
theorem dX8_corePieces_94 : decode cX8_corePieces 94 = .ok (.iadd, 1) := by decide +kernel
theorem dX8_corePieces_95 : decode cX8_corePieces 95 = .ok (.iaload, 1) := by decide +kernel
theorem dX8_corePieces_96 : decode cX8_corePieces 96 = .ok (.iload_n 2, 1) := by decide +kernel
theorem dX8_corePieces_97 : decode cX8_corePieces 97 = .ok (.iand, 1) := by decide +kernel
theorem dX8_corePieces_98 : decode cX8_corePieces 98 = .ok (.goto 4, 3) := by decide +kernel
theorem dX8_corePieces_101 : decode cX8_corePieces 101 = .ok (.iconst 0, 1) := by decide +kernel
theorem dX8_corePieces_102 : decode cX8_corePieces 102 = .ok (.ior, 1) := by decide +kernel
theorem dX8_corePieces_103 : decode cX8_corePieces 103 = .ok (.istore 5, 2) := by decide +kernel
theorem dX8_corePieces_105 : decode cX8_corePieces 105 = .ok (.iinc 7 1, 3) := by decide +kernel
theorem dX8_corePieces_108 : decode cX8_corePieces 108 = .ok (.goto (-44), 3) := by decide +kernel
theorem dX8_corePieces_111 : decode cX8_corePieces 111 = .ok (.goto (-61), 3) := by decide +kernel
theorem dX8_corePieces_114 : decode cX8_corePieces 114 = .ok (.iload_n 2, 1) := by decide +kernel
theorem dX8_corePieces_115 : decode cX8_corePieces 115 = .ok (.iload 5, 2) := by decide +kernel
theorem dX8_corePieces_117 : decode cX8_corePieces 117 = .ok (.iconst (-1), 1) := by decide +kernel
theorem dX8_corePieces_118 : decode cX8_corePieces 118 = .ok (.ixor, 1) := by decide +kernel
theorem dX8_corePieces_119 : decode cX8_corePieces 119 = .ok (.iand, 1) := by decide +kernel
theorem dX8_corePieces_120 : decode cX8_corePieces 120 = .ok (.istore_n 2, 1) := by decide +kernel
theorem dX8_corePieces_121 : decode cX8_corePieces 121 = .ok (.iinc 3 1, 3) := by decide +kernel
theorem dX8_corePieces_124 : decode cX8_corePieces 124 = .ok (.iinc 4 1, 3) := by decide +kernel
theorem dX8_corePieces_127 : decode cX8_corePieces 127 = .ok (.goto (-106), 3) := by decide +kernel
theorem dX8_corePieces_130 : decode cX8_corePieces 130 = .ok (.iload_n 3, 1) := by decide +kernel
theorem dX8_corePieces_131 : decode cX8_corePieces 131 = .ok (.ireturn, 1) := by decide +kernel
set_option maxRecDepth 20000 in
theorem ggX8_wouldFall_X8_isThere : GoodIn wsX8_wouldFall wsX8_isThere := goodIn_r _ [6, 7, 8, 9, 10, 5, 11, 1, 12, 13, 14, 37, 38, 39, 40, 41, 42, 43, 44, 45, 46, 47, 48, 49] (by decide +kernel) (by decide +kernel)
set_option maxRecDepth 20000 in
theorem gX8_wouldFall_X8_isThere : GoodIn wsX8_wouldFall (wsV RX8 82 RX8 yX8_isThere wsX8_isThere) := goodIn_app (goodIn_of _ (by decide +kernel)) ggX8_wouldFall_X8_isThere
set_option maxRecDepth 20000 in
theorem ggX8_wouldFall_X8_in : GoodIn wsX8_wouldFall wsX8_in := goodIn_r _ [14] (by decide +kernel) (by decide +kernel)
set_option maxRecDepth 20000 in
theorem gX8_wouldFall_X8_in : GoodIn wsX8_wouldFall (va_wsS RX8 35 yX8_in wsX8_in) := goodIn_app (goodIn_of _ (by decide +kernel)) ggX8_wouldFall_X8_in
set_option maxRecDepth 20000 in
theorem ggX8_wouldFall_X8_throwing : GoodIn wsX8_wouldFall wsX8_throwing := goodIn_r _ [18, 7, 37, 38, 39, 40, 41, 42, 43, 44, 45, 46, 47, 48, 49] (by decide +kernel) (by decide +kernel)
set_option maxRecDepth 20000 in
theorem gX8_wouldFall_X8_throwing : GoodIn wsX8_wouldFall (wsV RX8 76 RX8 yX8_throwing wsX8_throwing) := goodIn_app (goodIn_of _ (by decide +kernel)) ggX8_wouldFall_X8_throwing
set_option maxRecDepth 20000 in
theorem ggX8_wouldFall_X8_all : GoodIn wsX8_wouldFall wsX8_all := goodIn_r _ [22, 1, 37, 38, 39, 40, 41, 42, 43, 44, 45, 46, 47, 48, 49] (by decide +kernel) (by decide +kernel)
set_option maxRecDepth 20000 in
theorem gX8_wouldFall_X8_all : GoodIn wsX8_wouldFall (wsV RX8 54 RX8 yX8_all wsX8_all) := goodIn_app (goodIn_of _ (by decide +kernel)) ggX8_wouldFall_X8_all
set_option maxRecDepth 20000 in
theorem ggX8_wouldFall_X8_left : GoodIn wsX8_wouldFall wsX8_left := goodIn_r _ [26, 1, 27, 28, 5, 29, 30, 31, 32, 37, 38, 39, 40, 41, 42, 43, 44, 45, 46, 47, 48, 49] (by decide +kernel) (by decide +kernel)
set_option maxRecDepth 20000 in
theorem gX8_wouldFall_X8_left : GoodIn wsX8_wouldFall (wsV RX8 58 RX8 yX8_left wsX8_left) := goodIn_app (goodIn_of _ (by decide +kernel)) ggX8_wouldFall_X8_left
set_option maxRecDepth 20000 in
theorem ggX8_wouldFall_X8_cored : GoodIn wsX8_wouldFall wsX8_cored := goodIn_r _ [36, 1, 19, 20, 21, 5, 22, 23, 24, 25, 26, 27, 28, 29, 30, 31, 32, 37, 38, 39, 40, 41, 42, 43, 44, 45, 46, 47, 48, 49] (by decide +kernel) (by decide +kernel)
set_option maxRecDepth 20000 in
theorem gX8_wouldFall_X8_cored : GoodIn wsX8_wouldFall (wsV RX8 62 RX8 yX8_cored wsX8_cored) := goodIn_app (goodIn_of _ (by decide +kernel)) ggX8_wouldFall_X8_cored
set_option maxRecDepth 20000 in
theorem ggX8_wouldFall_X8_bits : GoodIn wsX8_wouldFall wsX8_bits := goodIn_r _ [32] (by decide +kernel) (by decide +kernel)
set_option maxRecDepth 20000 in
theorem gX8_wouldFall_X8_bits : GoodIn wsX8_wouldFall (va_wsS RX8 46 yX8_bits wsX8_bits) := goodIn_app (goodIn_of _ (by decide +kernel)) ggX8_wouldFall_X8_bits
theorem dX8_wouldFall_0 : decode cX8_wouldFall 0 = .ok (.aload_n 0, 1) := by decide +kernel
theorem dX8_wouldFall_1 : decode cX8_wouldFall 1 = .ok (.iload_n 1, 1) := by decide +kernel
theorem dX8_wouldFall_2 : decode cX8_wouldFall 2 = .ok (.invokevirtual 82, 3) := by decide +kernel
theorem dX8_wouldFall_5 : decode cX8_wouldFall 5 = .ok (.ifCond .ne 5, 3) := by decide +kernel
theorem dX8_wouldFall_8 : decode cX8_wouldFall 8 = .ok (.iconst 0, 1) := by decide +kernel
theorem dX8_wouldFall_9 : decode cX8_wouldFall 9 = .ok (.ireturn, 1) := by decide +kernel
theorem dX8_wouldFall_10 : decode cX8_wouldFall 10 = .ok (.iload_n 2, 1) := by decide +kernel
theorem dX8_wouldFall_11 : decode cX8_wouldFall 11 = .ok (.iconst 0, 1) := by decide +kernel
theorem dX8_wouldFall_12 : decode cX8_wouldFall 12 = .ok (.bipush 15, 2) := by decide +kernel
theorem dX8_wouldFall_14 : decode cX8_wouldFall 14 = .ok (.invokestatic 35, 3) := by decide +kernel
theorem dX8_wouldFall_17 : decode cX8_wouldFall 17 = .ok (.ifCond .ne 9, 3) := by decide +kernel
theorem dX8_wouldFall_20 : decode cX8_wouldFall 20 = .ok (.aload_n 0, 1) := by decide +kernel
theorem dX8_wouldFall_21 : decode cX8_wouldFall 21 = .ok (.iconst 2, 1) := by decide +kernel
theorem dX8_wouldFall_22 : decode cX8_wouldFall 22 = .ok (.invokevirtual 76, 3) := by decide +kernel
theorem dX8_wouldFall_25 : decode cX8_wouldFall 25 = .ok (.ireturn, 1) := by decide +kernel
theorem dX8_wouldFall_26 : decode cX8_wouldFall 26 = .ok (.aload_n 0, 1) := by decide +kernel
theorem dX8_wouldFall_27 : decode cX8_wouldFall 27 = .ok (.aload_n 0, 1) := by decide +kernel
theorem dX8_wouldFall_28 : decode cX8_wouldFall 28 = .ok (.invokevirtual 54, 3) := by decide +kernel
theorem dX8_wouldFall_31 : decode cX8_wouldFall 31 = .ok (.iconst 1, 1) := by decide +kernel
theorem dX8_wouldFall_32 : decode cX8_wouldFall 32 = .ok (.iload_n 1, 1) := by decide +kernel
theorem dX8_wouldFall_33 : decode cX8_wouldFall 33 = .ok (.ishl, 1) := by decide +kernel
theorem dX8_wouldFall_34 : decode cX8_wouldFall 34 = .ok (.iconst (-1), 1) := by decide +kernel
theorem dX8_wouldFall_35 : decode cX8_wouldFall 35 = .ok (.ixor, 1) := by decide +kernel
theorem dX8_wouldFall_36 : decode cX8_wouldFall 36 = .ok (.iand, 1) := by decide +kernel
theorem dX8_wouldFall_37 : decode cX8_wouldFall 37 = .ok (.iload_n 2, 1) := by decide +kernel
theorem dX8_wouldFall_38 : decode cX8_wouldFall 38 = .ok (.aload_n 0, 1) := by decide +kernel
theorem dX8_wouldFall_39 : decode cX8_wouldFall 39 = .ok (.getfield 7, 3) := by decide +kernel
theorem dX8_wouldFall_42 : decode cX8_wouldFall 42 = .ok (.iconst 1, 1) := by decide +kernel
theorem dX8_wouldFall_43 : decode cX8_wouldFall 43 = .ok (.iaload, 1) := by decide +kernel
theorem dX8_wouldFall_44 : decode cX8_wouldFall 44 = .ok (.invokevirtual 58, 3) := by decide +kernel
theorem dX8_wouldFall_47 : decode cX8_wouldFall 47 = .ok (.istore_n 3, 1) := by decide +kernel
theorem dX8_wouldFall_48 : decode cX8_wouldFall 48 = .ok (.aload_n 0, 1) := by decide +kernel
theorem dX8_wouldFall_49 : decode cX8_wouldFall 49 = .ok (.iload_n 2, 1) := by decide +kernel
theorem dX8_wouldFall_50 : decode cX8_wouldFall 50 = .ok (.invokevirtual 62, 3) := by decide +kernel
theorem dX8_wouldFall_53 : decode cX8_wouldFall 53 = .ok (.iload_n 3, 1) := by decide +kernel
theorem dX8_wouldFall_54 : decode cX8_wouldFall 54 = .ok (.iconst (-1), 1) := by decide +kernel
theorem dX8_wouldFall_55 : decode cX8_wouldFall 55 = .ok (.ixor, 1) := by decide +kernel
theorem dX8_wouldFall_56 : decode cX8_wouldFall 56 = .ok (.iand, 1) := by decide +kernel
theorem dX8_wouldFall_57 : decode cX8_wouldFall 57 = .ok (.invokestatic 46, 3) := by decide +kernel
theorem dX8_wouldFall_60 : decode cX8_wouldFall 60 = .ok (.ireturn, 1) := by decide +kernel
set_option maxRecDepth 20000 in
theorem ggX8_bestProp_X8_isDepth : GoodIn wsX8_bestProp wsX8_isDepth := goodIn_r _ [6, 7, 8, 9, 5, 10, 29, 30, 31, 32, 33, 34, 35, 36, 37, 38, 39, 40, 41] (by decide +kernel) (by decide +kernel)
set_option maxRecDepth 20000 in
theorem gX8_bestProp_X8_isDepth : GoodIn wsX8_bestProp (wsV RX8 133 RX8 yX8_isDepth wsX8_isDepth) := goodIn_app (goodIn_of _ (by decide +kernel)) ggX8_bestProp_X8_isDepth
set_option maxRecDepth 20000 in
theorem ggX8_bestProp_X8_has : GoodIn wsX8_bestProp wsX8_has := goodIn_r _ [13] (by decide +kernel) (by decide +kernel)
set_option maxRecDepth 20000 in
theorem gX8_bestProp_X8_has : GoodIn wsX8_bestProp (va_wsS RX8 50 yX8_has wsX8_has) := goodIn_app (goodIn_of _ (by decide +kernel)) ggX8_bestProp_X8_has
set_option maxRecDepth 20000 in
theorem ggX8_bestProp_X8_all : GoodIn wsX8_bestProp wsX8_all := goodIn_r _ [17, 1, 29, 30, 31, 32, 33, 34, 35, 36, 37, 38, 39, 40, 41] (by decide +kernel) (by decide +kernel)
set_option maxRecDepth 20000 in
theorem gX8_bestProp_X8_all : GoodIn wsX8_bestProp (wsV RX8 54 RX8 yX8_all wsX8_all) := goodIn_app (goodIn_of _ (by decide +kernel)) ggX8_bestProp_X8_all
set_option maxRecDepth 20000 in
theorem ggX8_bestProp_X8_left : GoodIn wsX8_bestProp wsX8_left := goodIn_r _ [21, 1, 11, 12, 5, 13, 22, 23, 24, 29, 30, 31, 32, 33, 34, 35, 36, 37, 38, 39, 40, 41] (by decide +kernel) (by decide +kernel)
set_option maxRecDepth 20000 in
theorem gX8_bestProp_X8_left : GoodIn wsX8_bestProp (wsV RX8 58 RX8 yX8_left wsX8_left) := goodIn_app (goodIn_of _ (by decide +kernel)) ggX8_bestProp_X8_left
set_option maxRecDepth 20000 in
theorem ggX8_bestProp_X8_bits : GoodIn wsX8_bestProp wsX8_bits := goodIn_r _ [24] (by decide +kernel) (by decide +kernel)
set_option maxRecDepth 20000 in
theorem gX8_bestProp_X8_bits : GoodIn wsX8_bestProp (va_wsS RX8 46 yX8_bits wsX8_bits) := goodIn_app (goodIn_of _ (by decide +kernel)) ggX8_bestProp_X8_bits
set_option maxRecDepth 20000 in
theorem ggX8_bestProp_X8_throwing : GoodIn wsX8_bestProp wsX8_throwing := goodIn_r _ [28, 7, 29, 30, 31, 32, 33, 34, 35, 36, 37, 38, 39, 40, 41] (by decide +kernel) (by decide +kernel)
set_option maxRecDepth 20000 in
theorem gX8_bestProp_X8_throwing : GoodIn wsX8_bestProp (wsV RX8 76 RX8 yX8_throwing wsX8_throwing) := goodIn_app (goodIn_of _ (by decide +kernel)) ggX8_bestProp_X8_throwing
theorem dX8_bestProp_0 : decode cX8_bestProp 0 = .ok (.aload_n 0, 1) := by decide +kernel
theorem dX8_bestProp_1 : decode cX8_bestProp 1 = .ok (.iload_n 1, 1) := by decide +kernel
theorem dX8_bestProp_2 : decode cX8_bestProp 2 = .ok (.invokevirtual 133, 3) := by decide +kernel
theorem dX8_bestProp_5 : decode cX8_bestProp 5 = .ok (.ifCond .ne 5, 3) := by decide +kernel
theorem dX8_bestProp_8 : decode cX8_bestProp 8 = .ok (.iconst 0, 1) := by decide +kernel
theorem dX8_bestProp_9 : decode cX8_bestProp 9 = .ok (.ireturn, 1) := by decide +kernel
theorem dX8_bestProp_10 : decode cX8_bestProp 10 = .ok (.iconst (-1), 1) := by decide +kernel
theorem dX8_bestProp_11 : decode cX8_bestProp 11 = .ok (.istore_n 2, 1) := by decide +kernel
theorem dX8_bestProp_12 : decode cX8_bestProp 12 = .ok (.iconst (-1), 1) := by decide +kernel
theorem dX8_bestProp_13 : decode cX8_bestProp 13 = .ok (.istore_n 3, 1) := by decide +kernel
theorem dX8_bestProp_14 : decode cX8_bestProp 14 = .ok (.iconst 0, 1) := by decide +kernel
theorem dX8_bestProp_15 : decode cX8_bestProp 15 = .ok (.istore 4, 2) := by decide +kernel
theorem dX8_bestProp_17 : decode cX8_bestProp 17 = .ok (.iload 4, 2) := by decide +kernel
theorem dX8_bestProp_19 : decode cX8_bestProp 19 = .ok (.aload_n 0, 1) := by decide +kernel
theorem dX8_bestProp_20 : decode cX8_bestProp 20 = .ok (.getfield 7, 3) := by decide +kernel
theorem dX8_bestProp_23 : decode cX8_bestProp 23 = .ok (.iconst 0, 1) := by decide +kernel
theorem dX8_bestProp_24 : decode cX8_bestProp 24 = .ok (.iaload, 1) := by decide +kernel
theorem dX8_bestProp_25 : decode cX8_bestProp 25 = .ok (.if_icmp .ge 78, 3) := by decide +kernel
theorem dX8_bestProp_28 : decode cX8_bestProp 28 = .ok (.aload_n 0, 1) := by decide +kernel
theorem dX8_bestProp_29 : decode cX8_bestProp 29 = .ok (.getfield 7, 3) := by decide +kernel
theorem dX8_bestProp_32 : decode cX8_bestProp 32 = .ok (.iconst 1, 1) := by decide +kernel
theorem dX8_bestProp_33 : decode cX8_bestProp 33 = .ok (.iaload, 1) := by decide +kernel
theorem dX8_bestProp_34 : decode cX8_bestProp 34 = .ok (.iload 4, 2) := by decide +kernel
theorem dX8_bestProp_36 : decode cX8_bestProp 36 = .ok (.invokestatic 50, 3) := by decide +kernel
theorem dX8_bestProp_39 : decode cX8_bestProp 39 = .ok (.ifCond .eq 7, 3) := by decide +kernel
theorem dX8_bestProp_42 : decode cX8_bestProp 42 = .ok (.iconst (-1), 1) := by decide +kernel
theorem dX8_bestProp_43 : decode cX8_bestProp 43 = .ok (.goto 26, 3) := by decide +kernel
theorem dX8_bestProp_46 : decode cX8_bestProp 46 = .ok (.aload_n 0, 1) := by decide +kernel
theorem dX8_bestProp_47 : decode cX8_bestProp 47 = .ok (.aload_n 0, 1) := by decide +kernel
theorem dX8_bestProp_48 : decode cX8_bestProp 48 = .ok (.invokevirtual 54, 3) := by decide +kernel
theorem dX8_bestProp_51 : decode cX8_bestProp 51 = .ok (.iload_n 1, 1) := by decide +kernel
theorem dX8_bestProp_52 : decode cX8_bestProp 52 = .ok (.aload_n 0, 1) := by decide +kernel
theorem dX8_bestProp_53 : decode cX8_bestProp 53 = .ok (.getfield 7, 3) := by decide +kernel
theorem dX8_bestProp_56 : decode cX8_bestProp 56 = .ok (.iconst 1, 1) := by decide +kernel
theorem dX8_bestProp_57 : decode cX8_bestProp 57 = .ok (.iaload, 1) := by decide +kernel
theorem dX8_bestProp_58 : decode cX8_bestProp 58 = .ok (.iconst 1, 1) := by decide +kernel
theorem dX8_bestProp_59 : decode cX8_bestProp 59 = .ok (.iload 4, 2) := by decide +kernel
theorem dX8_bestProp_61 : decode cX8_bestProp 61 = .ok (.ishl, 1) := by decide +kernel
theorem dX8_bestProp_62 : decode cX8_bestProp 62 = .ok (.ior, 1) := by decide +kernel
theorem dX8_bestProp_63 : decode cX8_bestProp 63 = .ok (.invokevirtual 58, 3) := by decide +kernel
theorem dX8_bestProp_66 : decode cX8_bestProp 66 = .ok (.invokestatic 46, 3) := by decide +kernel
theorem dX8_bestProp_69 : decode cX8_bestProp 69 = .ok (.istore 5, 2) := by decide +kernel
theorem dX8_bestProp_71 : decode cX8_bestProp 71 = .ok (.iload 5, 2) := by decide +kernel
theorem dX8_bestProp_73 : decode cX8_bestProp 73 = .ok (.iload_n 3, 1) := by decide +kernel
theorem dX8_bestProp_74 : decode cX8_bestProp 74 = .ok (.if_icmp .le 8, 3) := by decide +kernel
theorem dX8_bestProp_77 : decode cX8_bestProp 77 = .ok (.iload 4, 2) := by decide +kernel
theorem dX8_bestProp_79 : decode cX8_bestProp 79 = .ok (.goto 4, 3) := by decide +kernel
theorem dX8_bestProp_82 : decode cX8_bestProp 82 = .ok (.iload_n 2, 1) := by decide +kernel
theorem dX8_bestProp_83 : decode cX8_bestProp 83 = .ok (.istore_n 2, 1) := by decide +kernel
theorem dX8_bestProp_84 : decode cX8_bestProp 84 = .ok (.iload 5, 2) := by decide +kernel
theorem dX8_bestProp_86 : decode cX8_bestProp 86 = .ok (.iload_n 3, 1) := by decide +kernel
theorem dX8_bestProp_87 : decode cX8_bestProp 87 = .ok (.if_icmp .le 8, 3) := by decide +kernel
theorem dX8_bestProp_90 : decode cX8_bestProp 90 = .ok (.iload 5, 2) := by decide +kernel
theorem dX8_bestProp_92 : decode cX8_bestProp 92 = .ok (.goto 4, 3) := by decide +kernel
theorem dX8_bestProp_95 : decode cX8_bestProp 95 = .ok (.iload_n 3, 1) := by decide +kernel
theorem dX8_bestProp_96 : decode cX8_bestProp 96 = .ok (.istore_n 3, 1) := by decide +kernel
theorem dX8_bestProp_97 : decode cX8_bestProp 97 = .ok (.iinc 4 1, 3) := by decide +kernel
theorem dX8_bestProp_100 : decode cX8_bestProp 100 = .ok (.goto (-83), 3) := by decide +kernel
theorem dX8_bestProp_103 : decode cX8_bestProp 103 = .ok (.iload_n 2, 1) := by decide +kernel
theorem dX8_bestProp_104 : decode cX8_bestProp 104 = .ok (.ifCond .ge 11, 3) := by decide +kernel
theorem dX8_bestProp_107 : decode cX8_bestProp 107 = .ok (.aload_n 0, 1) := by decide +kernel
theorem dX8_bestProp_108 : decode cX8_bestProp 108 = .ok (.iconst 2, 1) := by decide +kernel
theorem dX8_bestProp_109 : decode cX8_bestProp 109 = .ok (.invokevirtual 76, 3) := by decide +kernel
theorem dX8_bestProp_112 : decode cX8_bestProp 112 = .ok (.goto 4, 3) := by decide +kernel
theorem dX8_bestProp_115 : decode cX8_bestProp 115 = .ok (.iload_n 2, 1) := by decide +kernel
theorem dX8_bestProp_116 : decode cX8_bestProp 116 = .ok (.ireturn, 1) := by decide +kernel
set_option maxRecDepth 20000 in
theorem ggX8_isThorn_X8_isPlant : GoodIn wsX8_isThorn wsX8_isPlant := goodIn_r _ [6, 7, 8, 9, 5, 10, 18, 19, 20, 21, 22, 23, 24, 25, 26, 27, 28, 29, 30] (by decide +kernel) (by decide +kernel)
set_option maxRecDepth 20000 in
theorem gX8_isThorn_X8_isPlant : GoodIn wsX8_isThorn (wsV RX8 39 RX8 yX8_isPlant wsX8_isPlant) := goodIn_app (goodIn_of _ (by decide +kernel)) ggX8_isThorn_X8_isPlant
set_option maxRecDepth 20000 in
theorem ggX8_isThorn_X8_areBound : GoodIn wsX8_isThorn wsX8_areBound := goodIn_r _ [14, 7, 15, 16, 5, 17, 18, 19, 20, 21, 22, 23, 24, 25, 26, 27, 28, 29, 30] (by decide +kernel) (by decide +kernel)
set_option maxRecDepth 20000 in
theorem gX8_isThorn_X8_areBound : GoodIn wsX8_isThorn (wsV RX8 91 RX8 yX8_areBound wsX8_areBound) := goodIn_app (goodIn_of _ (by decide +kernel)) ggX8_isThorn_X8_areBound
theorem dX8_isThorn_0 : decode cX8_isThorn 0 = .ok (.aload_n 0, 1) := by decide +kernel
theorem dX8_isThorn_1 : decode cX8_isThorn 1 = .ok (.aload_n 0, 1) := by decide +kernel
theorem dX8_isThorn_2 : decode cX8_isThorn 2 = .ok (.iload_n 1, 1) := by decide +kernel
theorem dX8_isThorn_3 : decode cX8_isThorn 3 = .ok (.invokevirtual 39, 3) := by decide +kernel
theorem dX8_isThorn_6 : decode cX8_isThorn 6 = .ok (.ifCond .eq 11, 3) := by decide +kernel
theorem dX8_isThorn_9 : decode cX8_isThorn 9 = .ok (.aload_n 0, 1) := by decide +kernel
theorem dX8_isThorn_10 : decode cX8_isThorn 10 = .ok (.iload_n 2, 1) := by decide +kernel
theorem dX8_isThorn_11 : decode cX8_isThorn 11 = .ok (.invokevirtual 39, 3) := by decide +kernel
theorem dX8_isThorn_14 : decode cX8_isThorn 14 = .ok (.ifCond .ne 7, 3) := by decide +kernel
theorem dX8_isThorn_17 : decode cX8_isThorn 17 = .ok (.iconst 1, 1) := by decide +kernel
theorem dX8_isThorn_18 : decode cX8_isThorn 18 = .ok (.goto 17, 3) := by decide +kernel
theorem dX8_isThorn_21 : decode cX8_isThorn 21 = .ok (.aload_n 0, 1) := by decide +kernel
theorem dX8_isThorn_22 : decode cX8_isThorn 22 = .ok (.iload_n 1, 1) := by decide +kernel
theorem dX8_isThorn_23 : decode cX8_isThorn 23 = .ok (.iload_n 2, 1) := by decide +kernel
theorem dX8_isThorn_24 : decode cX8_isThorn 24 = .ok (.invokevirtual 91, 3) := by decide +kernel
theorem dX8_isThorn_27 : decode cX8_isThorn 27 = .ok (.ifCond .eq 7, 3) := by decide +kernel
theorem dX8_isThorn_30 : decode cX8_isThorn 30 = .ok (.iconst 0, 1) := by decide +kernel
theorem dX8_isThorn_31 : decode cX8_isThorn 31 = .ok (.goto 4, 3) := by decide +kernel
theorem dX8_isThorn_34 : decode cX8_isThorn 34 = .ok (.iconst 2, 1) := by decide +kernel
theorem dX8_isThorn_35 : decode cX8_isThorn 35 = .ok (.putfield 31, 3) := by decide +kernel
theorem dX8_isThorn_38 : decode cX8_isThorn 38 = .ok (.aload_n 0, 1) := by decide +kernel
theorem dX8_isThorn_39 : decode cX8_isThorn 39 = .ok (.getfield 31, 3) := by decide +kernel
theorem dX8_isThorn_42 : decode cX8_isThorn 42 = .ok (.ifCond .ne 7, 3) := by decide +kernel
theorem dX8_isThorn_45 : decode cX8_isThorn 45 = .ok (.iconst 1, 1) := by decide +kernel
theorem dX8_isThorn_46 : decode cX8_isThorn 46 = .ok (.goto 4, 3) := by decide +kernel
theorem dX8_isThorn_49 : decode cX8_isThorn 49 = .ok (.iconst 0, 1) := by decide +kernel
theorem dX8_isThorn_50 : decode cX8_isThorn 50 = .ok (.ireturn, 1) := by decide +kernel
set_option maxRecDepth 20000 in
theorem ggX8_support_X8_isThorn : GoodIn wsX8_support wsX8_isThorn := goodIn_r _ [6, 7, 8, 9, 10, 5, 11, 1, 12, 13, 14, 15, 16, 17, 18, 19, 20, 21, 25, 26, 27, 28, 29, 30, 31, 32, 33, 34, 35, 36, 37] (by decide +kernel) (by decide +kernel)
set_option maxRecDepth 20000 in
theorem gX8_support_X8_isThorn : GoodIn wsX8_support (wsV RX8 139 RX8 yX8_isThorn wsX8_isThorn) := goodIn_app (goodIn_of _ (by decide +kernel)) ggX8_support_X8_isThorn
set_option maxRecDepth 20000 in
theorem ggX8_support_X8_bits : GoodIn wsX8_support wsX8_bits := goodIn_r _ [24] (by decide +kernel) (by decide +kernel)
set_option maxRecDepth 20000 in
theorem gX8_support_X8_bits : GoodIn wsX8_support (va_wsS RX8 46 yX8_bits wsX8_bits) := goodIn_app (goodIn_of _ (by decide +kernel)) ggX8_support_X8_bits
theorem dX8_support_0 : decode cX8_support 0 = .ok (.aload_n 0, 1) := by decide +kernel
theorem dX8_support_1 : decode cX8_support 1 = .ok (.iload_n 1, 1) := by decide +kernel
theorem dX8_support_2 : decode cX8_support 2 = .ok (.iload_n 2, 1) := by decide +kernel
theorem dX8_support_3 : decode cX8_support 3 = .ok (.invokevirtual 139, 3) := by decide +kernel
theorem dX8_support_6 : decode cX8_support 6 = .ok (.ifCond .eq 26, 3) := by decide +kernel
theorem dX8_support_9 : decode cX8_support 9 = .ok (.aload_n 0, 1) := by decide +kernel
theorem dX8_support_10 : decode cX8_support 10 = .ok (.getfield 7, 3) := by decide +kernel
theorem dX8_support_13 : decode cX8_support 13 = .ok (.iconst 2, 1) := by decide +kernel
theorem dX8_support_14 : decode cX8_support 14 = .ok (.iload_n 1, 1) := by decide +kernel
theorem dX8_support_15 : decode cX8_support 15 = .ok (.iadd, 1) := by decide +kernel
theorem dX8_support_16 : decode cX8_support 16 = .ok (.iaload, 1) := by decide +kernel
theorem dX8_support_17 : decode cX8_support 17 = .ok (.aload_n 0, 1) := by decide +kernel
theorem dX8_support_18 : decode cX8_support 18 = .ok (.getfield 7, 3) := by decide +kernel
theorem dX8_support_21 : decode cX8_support 21 = .ok (.iconst 2, 1) := by decide +kernel
theorem dX8_support_22 : decode cX8_support 22 = .ok (.iload_n 2, 1) := by decide +kernel
theorem dX8_support_23 : decode cX8_support 23 = .ok (.iadd, 1) := by decide +kernel
theorem dX8_support_24 : decode cX8_support 24 = .ok (.iaload, 1) := by decide +kernel
theorem dX8_support_25 : decode cX8_support 25 = .ok (.iand, 1) := by decide +kernel
theorem dX8_support_26 : decode cX8_support 26 = .ok (.invokestatic 46, 3) := by decide +kernel
theorem dX8_support_29 : decode cX8_support 29 = .ok (.goto 4, 3) := by decide +kernel
theorem dX8_support_32 : decode cX8_support 32 = .ok (.iconst 0, 1) := by decide +kernel
theorem dX8_support_33 : decode cX8_support 33 = .ok (.ireturn, 1) := by decide +kernel
set_option maxRecDepth 20000 in
theorem ggX8_truss_X8_isThorn : GoodIn wsX8_truss wsX8_isThorn := goodIn_r _ [6, 7, 8, 9, 10, 5, 11, 12, 13, 14, 15, 16, 17, 18, 19, 20, 21, 22, 34, 35, 36, 37, 38, 39, 40, 41, 42, 43, 44, 45, 46] (by decide +kernel) (by decide +kernel)
set_option maxRecDepth 20000 in
theorem gX8_truss_X8_isThorn : GoodIn wsX8_truss (wsV RX8 139 RX8 yX8_isThorn wsX8_isThorn) := goodIn_app (goodIn_of _ (by decide +kernel)) ggX8_truss_X8_isThorn
set_option maxRecDepth 20000 in
theorem ggX8_truss_X8_trusses : GoodIn wsX8_truss wsX8_trusses := goodIn_r _ [26, 12, 1, 20, 21, 5, 22, 27, 28, 29, 30, 31, 32, 33, 34, 35, 36, 37, 38, 39, 40, 41, 42, 43, 44, 45, 46] (by decide +kernel) (by decide +kernel)
set_option maxRecDepth 20000 in
theorem gX8_truss_X8_trusses : GoodIn wsX8_truss (wsV RX8 72 RX8 yX8_trusses wsX8_trusses) := goodIn_app (goodIn_of _ (by decide +kernel)) ggX8_truss_X8_trusses
set_option maxRecDepth 20000 in
theorem ggX8_truss_X8_has : GoodIn wsX8_truss wsX8_has := goodIn_r _ [22] (by decide +kernel) (by decide +kernel)
set_option maxRecDepth 20000 in
theorem gX8_truss_X8_has : GoodIn wsX8_truss (va_wsS RX8 50 yX8_has wsX8_has) := goodIn_app (goodIn_of _ (by decide +kernel)) ggX8_truss_X8_has
theorem dX8_truss_0 : decode cX8_truss 0 = .ok (.aload_n 0, 1) := by decide +kernel
theorem dX8_truss_1 : decode cX8_truss 1 = .ok (.iload_n 1, 1) := by decide +kernel
theorem dX8_truss_2 : decode cX8_truss 2 = .ok (.iload_n 2, 1) := by decide +kernel
theorem dX8_truss_3 : decode cX8_truss 3 = .ok (.invokevirtual 139, 3) := by decide +kernel
theorem dX8_truss_6 : decode cX8_truss 6 = .ok (.ifCond .ne 5, 3) := by decide +kernel
theorem dX8_truss_9 : decode cX8_truss 9 = .ok (.iconst 0, 1) := by decide +kernel
theorem dX8_truss_10 : decode cX8_truss 10 = .ok (.ireturn, 1) := by decide +kernel
theorem dX8_truss_11 : decode cX8_truss 11 = .ok (.iconst 0, 1) := by decide +kernel
theorem dX8_truss_12 : decode cX8_truss 12 = .ok (.istore_n 3, 1) := by decide +kernel
theorem dX8_truss_13 : decode cX8_truss 13 = .ok (.aload_n 0, 1) := by decide +kernel
theorem dX8_truss_14 : decode cX8_truss 14 = .ok (.iconst 1, 1) := by decide +kernel
theorem dX8_truss_15 : decode cX8_truss 15 = .ok (.invokevirtual 72, 3) := by decide +kernel
theorem dX8_truss_18 : decode cX8_truss 18 = .ok (.aload_n 0, 1) := by decide +kernel
theorem dX8_truss_19 : decode cX8_truss 19 = .ok (.getfield 28, 3) := by decide +kernel
theorem dX8_truss_22 : decode cX8_truss 22 = .ok (.iload_n 1, 1) := by decide +kernel
theorem dX8_truss_23 : decode cX8_truss 23 = .ok (.iaload, 1) := by decide +kernel
theorem dX8_truss_24 : decode cX8_truss 24 = .ok (.iload_n 2, 1) := by decide +kernel
theorem dX8_truss_25 : decode cX8_truss 25 = .ok (.invokestatic 50, 3) := by decide +kernel
theorem dX8_truss_28 : decode cX8_truss 28 = .ok (.ifCond .eq 16, 3) := by decide +kernel
theorem dX8_truss_31 : decode cX8_truss 31 = .ok (.iinc 3 1, 3) := by decide +kernel
theorem dX8_truss_34 : decode cX8_truss 34 = .ok (.aload_n 0, 1) := by decide +kernel
theorem dX8_truss_35 : decode cX8_truss 35 = .ok (.iload_n 3, 1) := by decide +kernel
theorem dX8_truss_36 : decode cX8_truss 36 = .ok (.iconst 1, 1) := by decide +kernel
theorem dX8_truss_37 : decode cX8_truss 37 = .ok (.iadd, 1) := by decide +kernel
theorem dX8_truss_38 : decode cX8_truss 38 = .ok (.invokevirtual 72, 3) := by decide +kernel
theorem dX8_truss_41 : decode cX8_truss 41 = .ok (.goto (-23), 3) := by decide +kernel
theorem dX8_truss_44 : decode cX8_truss 44 = .ok (.iload_n 3, 1) := by decide +kernel
theorem dX8_truss_45 : decode cX8_truss 45 = .ok (.ireturn, 1) := by decide +kernel
set_option maxRecDepth 20000 in
theorem ggX8_trussOf_X8_truss : GoodIn wsX8_trussOf wsX8_truss := goodIn_r _ [5, 6, 7, 8, 9, 4, 10, 11, 12, 13, 14, 15, 16, 17, 18, 19, 20, 21, 22, 23, 24, 25, 26, 27, 28, 29, 30, 31, 32, 33, 34, 35, 36, 37, 38, 39, 40, 41, 42, 43, 44, 45, 46, 47, 48, 49, 50] (by decide +kernel) (by decide +kernel)
set_option maxRecDepth 20000 in
theorem gX8_trussOf_X8_truss : GoodIn wsX8_trussOf (wsV RX8 142 RX8 yX8_truss wsX8_truss) := goodIn_app (goodIn_of _ (by decide +kernel)) ggX8_trussOf_X8_truss
theorem dX8_trussOf_0 : decode cX8_trussOf 0 = .ok (.aload_n 0, 1) := by decide +kernel
theorem dX8_trussOf_1 : decode cX8_trussOf 1 = .ok (.iload_n 1, 1) := by decide +kernel
theorem dX8_trussOf_2 : decode cX8_trussOf 2 = .ok (.iload_n 2, 1) := by decide +kernel
theorem dX8_trussOf_3 : decode cX8_trussOf 3 = .ok (.invokevirtual 142, 3) := by decide +kernel
theorem dX8_trussOf_6 : decode cX8_trussOf 6 = .ok (.ireturn, 1) := by decide +kernel
set_option maxRecDepth 20000 in
theorem ggX8_trussByRounds_X8_truss : GoodIn wsX8_trussByRounds wsX8_truss := goodIn_r _ [5, 6, 7, 8, 9, 4, 10, 11, 12, 13, 14, 15, 16, 17, 18, 19, 20, 21, 22, 23, 24, 25, 26, 27, 28, 29, 30, 31, 32, 33, 34, 35, 36, 37, 38, 39, 40, 41, 42, 43, 44, 45, 46, 47, 48, 49, 50] (by decide +kernel) (by decide +kernel)
set_option maxRecDepth 20000 in
theorem gX8_trussByRounds_X8_truss : GoodIn wsX8_trussByRounds (wsV RX8 142 RX8 yX8_truss wsX8_truss) := goodIn_app (goodIn_of _ (by decide +kernel)) ggX8_trussByRounds_X8_truss
theorem dX8_trussByRounds_0 : decode cX8_trussByRounds 0 = .ok (.aload_n 0, 1) := by decide +kernel
theorem dX8_trussByRounds_1 : decode cX8_trussByRounds 1 = .ok (.iload_n 1, 1) := by decide +kernel
theorem dX8_trussByRounds_2 : decode cX8_trussByRounds 2 = .ok (.iload_n 2, 1) := by decide +kernel
theorem dX8_trussByRounds_3 : decode cX8_trussByRounds 3 = .ok (.invokevirtual 142, 3) := by decide +kernel
theorem dX8_trussByRounds_6 : decode cX8_trussByRounds 6 = .ok (.ireturn, 1) := by decide +kernel
set_option maxRecDepth 20000 in
theorem ggX8_trussSize_X8_isDepth : GoodIn wsX8_trussSize wsX8_isDepth := goodIn_r _ [5, 6, 7, 8, 4, 9, 30, 31, 32, 33, 34, 35, 36, 37, 38, 39, 40, 41, 42] (by decide +kernel) (by decide +kernel)
set_option maxRecDepth 20000 in
theorem gX8_trussSize_X8_isDepth : GoodIn wsX8_trussSize (wsV RX8 133 RX8 yX8_isDepth wsX8_isDepth) := goodIn_app (goodIn_of _ (by decide +kernel)) ggX8_trussSize_X8_isDepth
set_option maxRecDepth 20000 in
theorem ggX8_trussSize_X8_thorns : GoodIn wsX8_trussSize wsX8_thorns := goodIn_r _ [13, 14, 15, 16, 17, 18, 4, 19, 20, 21, 22, 23, 24, 25, 26, 27, 28, 29, 30, 31, 32, 33, 34, 35, 36, 37, 38, 39, 40, 41, 42] (by decide +kernel) (by decide +kernel)
set_option maxRecDepth 20000 in
theorem gX8_trussSize_X8_thorns : GoodIn wsX8_trussSize (wsV RX8 145 RX8 yX8_thorns wsX8_thorns) := goodIn_app (goodIn_of _ (by decide +kernel)) ggX8_trussSize_X8_thorns
theorem dX8_trussSize_0 : decode cX8_trussSize 0 = .ok (.aload_n 0, 1) := by decide +kernel
theorem dX8_trussSize_1 : decode cX8_trussSize 1 = .ok (.iload_n 1, 1) := by decide +kernel
theorem dX8_trussSize_2 : decode cX8_trussSize 2 = .ok (.invokevirtual 133, 3) := by decide +kernel
theorem dX8_trussSize_5 : decode cX8_trussSize 5 = .ok (.ifCond .eq 11, 3) := by decide +kernel
theorem dX8_trussSize_8 : decode cX8_trussSize 8 = .ok (.aload_n 0, 1) := by decide +kernel
theorem dX8_trussSize_9 : decode cX8_trussSize 9 = .ok (.iload_n 1, 1) := by decide +kernel
theorem dX8_trussSize_10 : decode cX8_trussSize 10 = .ok (.invokevirtual 145, 3) := by decide +kernel
theorem dX8_trussSize_13 : decode cX8_trussSize 13 = .ok (.goto 4, 3) := by decide +kernel
theorem dX8_trussSize_16 : decode cX8_trussSize 16 = .ok (.iconst 0, 1) := by decide +kernel
theorem dX8_trussSize_17 : decode cX8_trussSize 17 = .ok (.ireturn, 1) := by decide +kernel
set_option maxRecDepth 20000 in
theorem ggX8_colorOf_X8_isThere : GoodIn wsX8_colorOf wsX8_isThere := goodIn_r _ [6, 7, 8, 9, 10, 5, 11, 12, 13, 14, 15, 35, 36, 37, 38, 39, 40, 41, 42, 43, 44, 45, 46, 47] (by decide +kernel) (by decide +kernel)
set_option maxRecDepth 20000 in
theorem gX8_colorOf_X8_isThere : GoodIn wsX8_colorOf (wsV RX8 82 RX8 yX8_isThere wsX8_isThere) := goodIn_app (goodIn_of _ (by decide +kernel)) ggX8_colorOf_X8_isThere
set_option maxRecDepth 20000 in
theorem ggX8_colorOf_X8_colorsAll : GoodIn wsX8_colorOf wsX8_colorsAll := goodIn_r _ [19, 12, 20, 1, 21, 22, 23, 5, 24, 25, 26, 27, 28, 29, 30, 31, 32, 33, 34, 35, 36, 37, 38, 39, 40, 41, 42, 43, 44, 45, 46, 47] (by decide +kernel) (by decide +kernel)
set_option maxRecDepth 20000 in
theorem gX8_colorOf_X8_colorsAll : GoodIn wsX8_colorOf (wsV RX8 148 RX8 yX8_colorsAll wsX8_colorsAll) := goodIn_app (goodIn_of _ (by decide +kernel)) ggX8_colorOf_X8_colorsAll
theorem dX8_colorOf_0 : decode cX8_colorOf 0 = .ok (.aload_n 0, 1) := by decide +kernel
theorem dX8_colorOf_1 : decode cX8_colorOf 1 = .ok (.iload_n 1, 1) := by decide +kernel
theorem dX8_colorOf_2 : decode cX8_colorOf 2 = .ok (.invokevirtual 82, 3) := by decide +kernel
theorem dX8_colorOf_5 : decode cX8_colorOf 5 = .ok (.ifCond .ne 5, 3) := by decide +kernel
theorem dX8_colorOf_8 : decode cX8_colorOf 8 = .ok (.iconst 0, 1) := by decide +kernel
theorem dX8_colorOf_9 : decode cX8_colorOf 9 = .ok (.ireturn, 1) := by decide +kernel
theorem dX8_colorOf_10 : decode cX8_colorOf 10 = .ok (.aload_n 0, 1) := by decide +kernel
theorem dX8_colorOf_11 : decode cX8_colorOf 11 = .ok (.invokevirtual 148, 3) := by decide +kernel
theorem dX8_colorOf_14 : decode cX8_colorOf 14 = .ok (.aload_n 0, 1) := by decide +kernel
theorem dX8_colorOf_15 : decode cX8_colorOf 15 = .ok (.getfield 25, 3) := by decide +kernel
theorem dX8_colorOf_18 : decode cX8_colorOf 18 = .ok (.iload_n 1, 1) := by decide +kernel
theorem dX8_colorOf_19 : decode cX8_colorOf 19 = .ok (.iaload, 1) := by decide +kernel
theorem dX8_colorOf_20 : decode cX8_colorOf 20 = .ok (.ireturn, 1) := by decide +kernel
set_option maxRecDepth 20000 in
theorem ggX8_colors_X8_colorsAll : GoodIn wsX8_colors wsX8_colorsAll := goodIn_r _ [8, 2, 9, 3, 10, 11, 12, 7, 13, 14, 15, 16, 17, 18, 19, 20, 21, 22, 23, 24, 25, 26, 27, 28, 29, 30, 31, 32, 33, 34, 35, 36] (by decide +kernel) (by decide +kernel)
set_option maxRecDepth 20000 in
theorem gX8_colors_X8_colorsAll : GoodIn wsX8_colors (wsV RX8 148 RX8 yX8_colorsAll wsX8_colorsAll) := goodIn_app (goodIn_of _ (by decide +kernel)) ggX8_colors_X8_colorsAll
theorem dX8_colors_0 : decode cX8_colors 0 = .ok (.aload_n 0, 1) := by decide +kernel
theorem dX8_colors_1 : decode cX8_colors 1 = .ok (.iconst 0, 1) := by decide +kernel
theorem dX8_colors_2 : decode cX8_colors 2 = .ok (.putfield 31, 3) := by decide +kernel
theorem dX8_colors_5 : decode cX8_colors 5 = .ok (.aload_n 0, 1) := by decide +kernel
theorem dX8_colors_6 : decode cX8_colors 6 = .ok (.invokevirtual 148, 3) := by decide +kernel
theorem dX8_colors_9 : decode cX8_colors 9 = .ok (.iconst 0, 1) := by decide +kernel
theorem dX8_colors_10 : decode cX8_colors 10 = .ok (.istore_n 1, 1) := by decide +kernel
theorem dX8_colors_11 : decode cX8_colors 11 = .ok (.iconst 0, 1) := by decide +kernel
theorem dX8_colors_12 : decode cX8_colors 12 = .ok (.istore_n 2, 1) := by decide +kernel
theorem dX8_colors_13 : decode cX8_colors 13 = .ok (.iload_n 2, 1) := by decide +kernel
theorem dX8_colors_14 : decode cX8_colors 14 = .ok (.aload_n 0, 1) := by decide +kernel
theorem dX8_colors_15 : decode cX8_colors 15 = .ok (.getfield 7, 3) := by decide +kernel
theorem dX8_colors_18 : decode cX8_colors 18 = .ok (.iconst 0, 1) := by decide +kernel
theorem dX8_colors_19 : decode cX8_colors 19 = .ok (.iaload, 1) := by decide +kernel
theorem dX8_colors_20 : decode cX8_colors 20 = .ok (.if_icmp .ge 34, 3) := by decide +kernel
theorem dX8_colors_23 : decode cX8_colors 23 = .ok (.aload_n 0, 1) := by decide +kernel
theorem dX8_colors_24 : decode cX8_colors 24 = .ok (.getfield 25, 3) := by decide +kernel
theorem dX8_colors_27 : decode cX8_colors 27 = .ok (.iload_n 2, 1) := by decide +kernel
theorem dX8_colors_28 : decode cX8_colors 28 = .ok (.iaload, 1) := by decide +kernel
theorem dX8_colors_29 : decode cX8_colors 29 = .ok (.iconst 1, 1) := by decide +kernel
theorem dX8_colors_30 : decode cX8_colors 30 = .ok (.iadd, 1) := by decide +kernel
theorem dX8_colors_31 : decode cX8_colors 31 = .ok (.iload_n 1, 1) := by decide +kernel
theorem dX8_colors_32 : decode cX8_colors 32 = .ok (.if_icmp .le 14, 3) := by decide +kernel
theorem dX8_colors_35 : decode cX8_colors 35 = .ok (.aload_n 0, 1) := by decide +kernel
theorem dX8_colors_36 : decode cX8_colors 36 = .ok (.getfield 25, 3) := by decide +kernel
theorem dX8_colors_39 : decode cX8_colors 39 = .ok (.iload_n 2, 1) := by decide +kernel
theorem dX8_colors_40 : decode cX8_colors 40 = .ok (.iaload, 1) := by decide +kernel
theorem dX8_colors_41 : decode cX8_colors 41 = .ok (.iconst 1, 1) := by decide +kernel
theorem dX8_colors_42 : decode cX8_colors 42 = .ok (.iadd, 1) := by decide +kernel
theorem dX8_colors_43 : decode cX8_colors 43 = .ok (.goto 4, 3) := by decide +kernel
theorem dX8_colors_46 : decode cX8_colors 46 = .ok (.iload_n 1, 1) := by decide +kernel
theorem dX8_colors_47 : decode cX8_colors 47 = .ok (.istore_n 1, 1) := by decide +kernel
theorem dX8_colors_48 : decode cX8_colors 48 = .ok (.iinc 2 1, 3) := by decide +kernel
theorem dX8_colors_51 : decode cX8_colors 51 = .ok (.goto (-38), 3) := by decide +kernel
theorem dX8_colors_54 : decode cX8_colors 54 = .ok (.iload_n 1, 1) := by decide +kernel
theorem dX8_colors_55 : decode cX8_colors 55 = .ok (.ireturn, 1) := by decide +kernel
set_option maxRecDepth 20000 in
theorem ggX8_greatestCore_X8_has : GoodIn wsX8_greatestCore wsX8_has := goodIn_r _ [6] (by decide +kernel) (by decide +kernel)
set_option maxRecDepth 20000 in
theorem gX8_greatestCore_X8_has : GoodIn wsX8_greatestCore (va_wsS RX8 50 yX8_has wsX8_has) := goodIn_app (goodIn_of _ (by decide +kernel)) ggX8_greatestCore_X8_has
set_option maxRecDepth 20000 in
theorem ggX8_greatestCore_X8_coreNumber : GoodIn wsX8_greatestCore wsX8_coreNumber := goodIn_r _ [10, 11, 12, 13, 5, 14, 2, 15, 16, 17, 18, 19, 20, 21, 22, 3, 4, 6, 23, 24, 25, 26, 27, 28, 29, 30, 31, 32, 33, 34, 35, 36, 37, 38] (by decide +kernel) (by decide +kernel)
set_option maxRecDepth 20000 in
theorem gX8_greatestCore_X8_coreNumber : GoodIn wsX8_greatestCore (wsV RX8 136 RX8 yX8_coreNumber wsX8_coreNumber) := goodIn_app (goodIn_of _ (by decide +kernel)) ggX8_greatestCore_X8_coreNumber
theorem dX8_greatestCore_0 : decode cX8_greatestCore 0 = .ok (.aload_n 0, 1) := by decide +kernel
theorem dX8_greatestCore_1 : decode cX8_greatestCore 1 = .ok (.iconst 0, 1) := by decide +kernel
theorem dX8_greatestCore_2 : decode cX8_greatestCore 2 = .ok (.putfield 31, 3) := by decide +kernel
theorem dX8_greatestCore_5 : decode cX8_greatestCore 5 = .ok (.iconst 0, 1) := by decide +kernel
theorem dX8_greatestCore_6 : decode cX8_greatestCore 6 = .ok (.istore_n 1, 1) := by decide +kernel
theorem dX8_greatestCore_7 : decode cX8_greatestCore 7 = .ok (.iconst 0, 1) := by decide +kernel
theorem dX8_greatestCore_8 : decode cX8_greatestCore 8 = .ok (.istore_n 2, 1) := by decide +kernel
theorem dX8_greatestCore_9 : decode cX8_greatestCore 9 = .ok (.iload_n 2, 1) := by decide +kernel
theorem dX8_greatestCore_10 : decode cX8_greatestCore 10 = .ok (.aload_n 0, 1) := by decide +kernel
theorem dX8_greatestCore_11 : decode cX8_greatestCore 11 = .ok (.getfield 7, 3) := by decide +kernel
theorem dX8_greatestCore_14 : decode cX8_greatestCore 14 = .ok (.iconst 0, 1) := by decide +kernel
theorem dX8_greatestCore_15 : decode cX8_greatestCore 15 = .ok (.iaload, 1) := by decide +kernel
theorem dX8_greatestCore_16 : decode cX8_greatestCore 16 = .ok (.if_icmp .ge 43, 3) := by decide +kernel
theorem dX8_greatestCore_19 : decode cX8_greatestCore 19 = .ok (.aload_n 0, 1) := by decide +kernel
theorem dX8_greatestCore_20 : decode cX8_greatestCore 20 = .ok (.getfield 7, 3) := by decide +kernel
theorem dX8_greatestCore_23 : decode cX8_greatestCore 23 = .ok (.iconst 1, 1) := by decide +kernel
theorem dX8_greatestCore_24 : decode cX8_greatestCore 24 = .ok (.iaload, 1) := by decide +kernel
theorem dX8_greatestCore_25 : decode cX8_greatestCore 25 = .ok (.iload_n 2, 1) := by decide +kernel
theorem dX8_greatestCore_26 : decode cX8_greatestCore 26 = .ok (.invokestatic 50, 3) := by decide +kernel
theorem dX8_greatestCore_29 : decode cX8_greatestCore 29 = .ok (.ifCond .eq 7, 3) := by decide +kernel
theorem dX8_greatestCore_32 : decode cX8_greatestCore 32 = .ok (.iconst 0, 1) := by decide +kernel
theorem dX8_greatestCore_33 : decode cX8_greatestCore 33 = .ok (.goto 8, 3) := by decide +kernel
theorem dX8_greatestCore_36 : decode cX8_greatestCore 36 = .ok (.aload_n 0, 1) := by decide +kernel
theorem dX8_greatestCore_37 : decode cX8_greatestCore 37 = .ok (.iload_n 2, 1) := by decide +kernel
theorem dX8_greatestCore_38 : decode cX8_greatestCore 38 = .ok (.invokevirtual 136, 3) := by decide +kernel
theorem dX8_greatestCore_41 : decode cX8_greatestCore 41 = .ok (.istore_n 3, 1) := by decide +kernel
theorem dX8_greatestCore_42 : decode cX8_greatestCore 42 = .ok (.iload_n 3, 1) := by decide +kernel
theorem dX8_greatestCore_43 : decode cX8_greatestCore 43 = .ok (.iload_n 1, 1) := by decide +kernel
theorem dX8_greatestCore_44 : decode cX8_greatestCore 44 = .ok (.if_icmp .le 7, 3) := by decide +kernel
theorem dX8_greatestCore_47 : decode cX8_greatestCore 47 = .ok (.iload_n 3, 1) := by decide +kernel
theorem dX8_greatestCore_48 : decode cX8_greatestCore 48 = .ok (.goto 4, 3) := by decide +kernel
theorem dX8_greatestCore_51 : decode cX8_greatestCore 51 = .ok (.iload_n 1, 1) := by decide +kernel
theorem dX8_greatestCore_52 : decode cX8_greatestCore 52 = .ok (.istore_n 1, 1) := by decide +kernel
theorem dX8_greatestCore_53 : decode cX8_greatestCore 53 = .ok (.iinc 2 1, 3) := by decide +kernel
theorem dX8_greatestCore_56 : decode cX8_greatestCore 56 = .ok (.goto (-47), 3) := by decide +kernel
theorem dX8_greatestCore_59 : decode cX8_greatestCore 59 = .ok (.iload_n 1, 1) := by decide +kernel
theorem dX8_greatestCore_60 : decode cX8_greatestCore 60 = .ok (.ireturn, 1) := by decide +kernel
set_option maxRecDepth 20000 in
theorem ggX8_averageNeighbors_X8_allThorns : GoodIn wsX8_averageNeighbors wsX8_allThorns := goodIn_r _ [7, 2, 8, 9, 6, 10, 11, 12, 13, 14, 15, 16, 17, 18, 19, 20, 21, 22, 23] (by decide +kernel) (by decide +kernel)
set_option maxRecDepth 20000 in
theorem gX8_averageNeighbors_X8_allThorns : GoodIn wsX8_averageNeighbors (wsV RX8 127 RX8 yX8_allThorns wsX8_allThorns) := goodIn_app (goodIn_of _ (by decide +kernel)) ggX8_averageNeighbors_X8_allThorns
theorem dX8_averageNeighbors_0 : decode cX8_averageNeighbors 0 = .ok (.aload_n 0, 1) := by decide +kernel
theorem dX8_averageNeighbors_1 : decode cX8_averageNeighbors 1 = .ok (.iconst 0, 1) := by decide +kernel
theorem dX8_averageNeighbors_2 : decode cX8_averageNeighbors 2 = .ok (.putfield 31, 3) := by decide +kernel
theorem dX8_averageNeighbors_5 : decode cX8_averageNeighbors 5 = .ok (.aload_n 0, 1) := by decide +kernel
theorem dX8_averageNeighbors_6 : decode cX8_averageNeighbors 6 = .ok (.getfield 7, 3) := by decide +kernel
theorem dX8_averageNeighbors_9 : decode cX8_averageNeighbors 9 = .ok (.iconst 0, 1) := by decide +kernel
theorem dX8_averageNeighbors_10 : decode cX8_averageNeighbors 10 = .ok (.iaload, 1) := by decide +kernel
theorem dX8_averageNeighbors_11 : decode cX8_averageNeighbors 11 = .ok (.ifCond .ne 7, 3) := by decide +kernel
theorem dX8_averageNeighbors_14 : decode cX8_averageNeighbors 14 = .ok (.fconst 0, 1) := by decide +kernel
theorem dX8_averageNeighbors_15 : decode cX8_averageNeighbors 15 = .ok (.goto 18, 3) := by decide +kernel
theorem dX8_averageNeighbors_18 : decode cX8_averageNeighbors 18 = .ok (.iconst 2, 1) := by decide +kernel
theorem dX8_averageNeighbors_19 : decode cX8_averageNeighbors 19 = .ok (.aload_n 0, 1) := by decide +kernel
theorem dX8_averageNeighbors_20 : decode cX8_averageNeighbors 20 = .ok (.invokevirtual 127, 3) := by decide +kernel
theorem dX8_averageNeighbors_23 : decode cX8_averageNeighbors 23 = .ok (.imul, 1) := by decide +kernel
theorem dX8_averageNeighbors_24 : decode cX8_averageNeighbors 24 = .ok (.i2f, 1) := by decide +kernel
theorem dX8_averageNeighbors_25 : decode cX8_averageNeighbors 25 = .ok (.aload_n 0, 1) := by decide +kernel
theorem dX8_averageNeighbors_26 : decode cX8_averageNeighbors 26 = .ok (.getfield 7, 3) := by decide +kernel
theorem dX8_averageNeighbors_29 : decode cX8_averageNeighbors 29 = .ok (.iconst 0, 1) := by decide +kernel
theorem dX8_averageNeighbors_30 : decode cX8_averageNeighbors 30 = .ok (.iaload, 1) := by decide +kernel
theorem dX8_averageNeighbors_31 : decode cX8_averageNeighbors 31 = .ok (.i2f, 1) := by decide +kernel
theorem dX8_averageNeighbors_32 : decode cX8_averageNeighbors 32 = .ok (.fdiv, 1) := by decide +kernel
theorem dX8_averageNeighbors_33 : decode cX8_averageNeighbors 33 = .ok (.freturn, 1) := by decide +kernel
theorem dX8_historySize_0 : decode cX8_historySize 0 = .ok (.aload_n 0, 1) := by decide +kernel
theorem dX8_historySize_1 : decode cX8_historySize 1 = .ok (.iconst 0, 1) := by decide +kernel
theorem dX8_historySize_2 : decode cX8_historySize 2 = .ok (.putfield 31, 3) := by decide +kernel
theorem dX8_historySize_5 : decode cX8_historySize 5 = .ok (.aload_n 0, 1) := by decide +kernel
theorem dX8_historySize_6 : decode cX8_historySize 6 = .ok (.getfield 43, 3) := by decide +kernel
theorem dX8_historySize_9 : decode cX8_historySize 9 = .ok (.ireturn, 1) := by decide +kernel
