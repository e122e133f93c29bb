set_option maxRecDepth 20000 in
theorem ggL_law_X7_init : GoodIn wsL_law wsX7_init := goodIn_r _ [9, 10, 11, 12, 13, 14, 15, 16, 17, 18, 19, 20, 21, 22, 23, 24, 25, 26, 27, 28, 29, 30, 31, 32, 33, 34, 35, 36, 37, 38, 39, 40, 41, 42, 43, 44, 45, 46, 47, 48, 49, 50, 51, 52, 53, 54, 55, 56, 57, 58, 59, 60, 61, 62, 63, 64, 65, 66, 67, 68, 69, 70, 71, 72, 73, 74, 75, 76, 77, 78, 79, 80, 81, 82, 83, 84, 85, 86, 87, 88, 89, 90, 91, 92, 93, 94, 95, 96, 97, 98, 99, 100, 942, 943, 944, 921, 922, 923, 924, 925, 926, 927, 928, 945, 946, 947, 948, 949, 950, 951, 952, 953, 954, 955, 956, 957, 958] (by decide +kernel) (by decide +kernel)
set_option maxRecDepth 20000 in
theorem gL_law_X7_init : GoodIn wsL_law (wsX7_init) := ggL_law_X7_init
set_option maxRecDepth 20000 in
theorem ggL_law_X8_init : GoodIn wsL_law wsX8_init := goodIn_r _ [103, 104, 11, 12, 57, 105, 106, 107, 108, 109, 110, 111, 929, 930, 931, 932, 933, 934, 935, 936, 937, 938, 939, 940, 941] (by decide +kernel) (by decide +kernel)
set_option maxRecDepth 20000 in
theorem gL_law_X8_init : GoodIn wsL_law (wsX8_init) := ggL_law_X8_init
set_option maxRecDepth 20000 in
theorem ggL_law_L_plant : GoodIn wsL_law wsL_plant := goodIn_ca (goodIn_r _ [115, 116, 117, 118, 119, 2, 120, 121, 122, 16, 24, 123, 124, 125, 15, 126, 45, 127, 128, 129, 23, 130, 72, 71, 70, 131, 132, 133, 134, 135, 136, 137, 138, 46, 48, 139, 140, 141, 27, 142, 58, 143, 144, 145, 146, 147, 148, 149, 150, 151, 921, 922, 923, 924, 925, 926, 927, 928, 942, 943, 944, 947, 948, 949, 950] (by decide +kernel) (by decide +kernel)) (goodIn_sub (fun _ h => List.mem_append_left _ (List.mem_append_left _ (List.mem_append_left _ (List.mem_append_right _ h)))) (by decide +kernel))
set_option maxRecDepth 20000 in
theorem gL_law_L_plant : GoodIn wsL_law (va_wsS RL 98 yL_plant wsL_plant) := goodIn_app (goodIn_of _ (by decide +kernel)) ggL_law_L_plant
set_option maxRecDepth 20000 in
theorem ggL_law_X8_plant : GoodIn wsL_law wsX8_plant := goodIn_r _ [155, 156, 105, 157, 158, 159, 5, 160, 161, 162, 163, 164, 165, 106, 929, 930, 931, 932, 933, 934, 935, 936, 937, 938, 939, 940, 941] (by decide +kernel) (by decide +kernel)
set_option maxRecDepth 20000 in
theorem gL_law_X8_plant : GoodIn wsL_law (wsV RL 103 RX8 yX8_plant wsX8_plant) := goodIn_app (goodIn_of _ (by decide +kernel)) ggL_law_X8_plant
set_option maxRecDepth 20000 in
theorem ggL_law_X8_thrown : GoodIn wsL_law wsX8_thrown := goodIn_r _ [169, 156, 929, 930, 931, 932, 933, 934, 935, 936, 937, 938, 939, 940, 941] (by decide +kernel) (by decide +kernel)
set_option maxRecDepth 20000 in
theorem gL_law_X8_thrown : GoodIn wsL_law (wsV RL 104 RX8 yX8_thrown wsX8_thrown) := goodIn_app (goodIn_of _ (by decide +kernel)) ggL_law_X8_thrown
set_option maxRecDepth 20000 in
theorem ggL_law_L_uproot : GoodIn wsL_law wsL_uproot := goodIn_ca (goodIn_r _ [172, 173, 174, 175, 176, 2, 177, 24, 16, 178, 179, 180, 181, 182, 183, 184, 185, 186, 15, 187, 45, 127, 128, 129, 23, 130, 72, 71, 70, 131, 132, 133, 134, 135, 136, 137, 138, 46, 48, 139, 140, 141, 27, 142, 58, 143, 144, 145, 146, 188, 189, 190, 191, 192, 193, 194, 195, 196, 197, 198, 199, 200, 201, 202, 203, 204, 205, 206, 207, 208, 209, 210, 921, 922, 923, 924, 925, 926, 927, 928, 942, 943, 944, 947, 948, 949, 950] (by decide +kernel) (by decide +kernel)) (goodIn_sub (fun _ h => List.mem_append_left _ (List.mem_append_left _ (List.mem_append_right _ h))) (by decide +kernel))
set_option maxRecDepth 20000 in
theorem gL_law_L_uproot : GoodIn wsL_law (va_wsS RL 107 yL_uproot wsL_uproot) := goodIn_app (goodIn_of _ (by decide +kernel)) ggL_law_L_uproot
set_option maxRecDepth 20000 in
theorem ggL_law_X8_uproot : GoodIn wsL_law wsX8_uproot := goodIn_r _ [214, 105, 215, 216, 217, 5, 218, 156, 219, 220, 221, 222, 223, 224, 225, 161, 162, 163, 164, 165, 106, 226, 227, 228, 229, 230, 231, 929, 930, 931, 932, 933, 934, 935, 936, 937, 938, 939, 940, 941] (by decide +kernel) (by decide +kernel)
set_option maxRecDepth 20000 in
theorem gL_law_X8_uproot : GoodIn wsL_law (wsV RL 110 RX8 yX8_uproot wsX8_uproot) := goodIn_app (goodIn_of _ (by decide +kernel)) ggL_law_X8_uproot
set_option maxRecDepth 20000 in
theorem ggL_law_L_bind : GoodIn wsL_law wsL_bind := goodIn_ca (goodIn_ca (goodIn_ca (goodIn_r _ [234, 173, 235, 116, 236, 237, 238, 2, 239, 121, 122, 16, 24, 240, 241, 242, 243, 244, 245, 178, 179, 180, 181, 182, 183, 184, 185, 186, 15, 187, 45, 246, 247, 248, 249, 48, 205, 143, 144, 145, 27, 146, 58, 250, 251, 127, 128, 129, 23, 130, 72, 71, 70, 131, 132, 133, 134, 135, 136, 137, 138, 46, 139, 140, 141, 142, 252, 253, 254, 255, 256, 209, 210, 188, 189, 190, 191, 192, 193, 194, 195, 196, 197, 198, 199, 200, 921, 922, 923, 924, 925, 926, 927, 928, 942, 943, 944, 950, 947, 948, 949] (by decide +kernel) (by decide +kernel)) (goodIn_sub (fun _ h => List.mem_append_left _ (List.mem_append_left _ (List.mem_append_left _ (List.mem_append_right _ h)))) (by decide +kernel))) (goodIn_sub (fun _ h => List.mem_append_left _ (List.mem_append_right _ h)) (by decide +kernel))) (goodIn_sub (fun _ h => List.mem_append_left _ (List.mem_append_left _ (List.mem_append_right _ h))) (by decide +kernel))
set_option maxRecDepth 20000 in
theorem gL_law_L_bind : GoodIn wsL_law (va_wsS RL 111 yL_bind wsL_bind) := goodIn_app (goodIn_of _ (by decide +kernel)) ggL_law_L_bind
set_option maxRecDepth 20000 in
theorem ggL_law_X8_bind : GoodIn wsL_law wsX8_bind := goodIn_r _ [260, 261, 262, 263, 5, 264, 156, 219, 220, 221, 222, 105, 223, 224, 225, 265, 266, 267, 268, 269, 270, 271, 157, 158, 159, 160, 161, 162, 163, 164, 165, 106, 272, 273, 274, 275, 226, 227, 228, 929, 930, 931, 932, 933, 934, 935, 936, 937, 938, 939, 940, 941] (by decide +kernel) (by decide +kernel)
set_option maxRecDepth 20000 in
theorem gL_law_X8_bind : GoodIn wsL_law (wsV RL 114 RX8 yX8_bind wsX8_bind) := goodIn_app (goodIn_of _ (by decide +kernel)) ggL_law_X8_bind
set_option maxRecDepth 20000 in
theorem ggL_law_L_cut : GoodIn wsL_law wsL_cut := goodIn_ca (goodIn_ca (goodIn_ca (goodIn_r _ [278, 173, 235, 116, 279, 280, 281, 2, 282, 121, 122, 16, 24, 240, 241, 242, 243, 244, 245, 178, 179, 180, 181, 182, 183, 184, 185, 186, 15, 187, 45, 246, 247, 248, 249, 48, 205, 143, 144, 145, 27, 146, 58, 250, 251, 127, 128, 129, 23, 130, 72, 71, 70, 131, 132, 133, 134, 135, 136, 137, 138, 46, 139, 140, 141, 142, 283, 284, 285, 286, 256, 209, 210, 188, 189, 190, 191, 192, 193, 194, 195, 196, 197, 198, 199, 200, 921, 922, 923, 924, 925, 926, 927, 928, 942, 943, 944, 950, 947, 948, 949] (by decide +kernel) (by decide +kernel)) (goodIn_sub (fun _ h => List.mem_append_left _ (List.mem_append_left _ (List.mem_append_left _ (List.mem_append_right _ h)))) (by decide +kernel))) (goodIn_sub (fun _ h => List.mem_append_left _ (List.mem_append_right _ h)) (by decide +kernel))) (goodIn_sub (fun _ h => List.mem_append_left _ (List.mem_append_left _ (List.mem_append_right _ h))) (by decide +kernel))
set_option maxRecDepth 20000 in
theorem gL_law_L_cut : GoodIn wsL_law (va_wsS RL 115 yL_cut wsL_cut) := goodIn_app (goodIn_of _ (by decide +kernel)) ggL_law_L_cut
set_option maxRecDepth 20000 in
theorem ggL_law_X8_cut : GoodIn wsL_law wsX8_cut := goodIn_r _ [290, 261, 262, 263, 5, 264, 156, 219, 220, 221, 222, 105, 223, 224, 225, 265, 266, 267, 268, 269, 270, 271, 157, 158, 159, 160, 161, 162, 163, 164, 165, 106, 291, 292, 293, 294, 226, 227, 228, 929, 930, 931, 932, 933, 934, 935, 936, 937, 938, 939, 940, 941] (by decide +kernel) (by decide +kernel)
set_option maxRecDepth 20000 in
theorem gL_law_X8_cut : GoodIn wsL_law (wsV RL 117 RX8 yX8_cut wsX8_cut) := goodIn_app (goodIn_of _ (by decide +kernel)) ggL_law_X8_cut
set_option maxRecDepth 20000 in
theorem ggL_law_L_switchProp : GoodIn wsL_law wsL_switchProp := goodIn_ca (goodIn_r _ [297, 173, 298, 299, 300, 2, 301, 24, 16, 178, 179, 180, 181, 182, 183, 184, 185, 186, 15, 187, 45, 127, 128, 129, 23, 130, 72, 71, 70, 131, 132, 133, 134, 135, 136, 137, 138, 46, 48, 139, 140, 141, 27, 142, 58, 143, 144, 145, 146, 302, 303, 304, 305, 205, 209, 210, 306, 307, 308, 309, 250, 251, 921, 922, 923, 924, 925, 926, 927, 928, 942, 943, 944, 947, 948, 949, 950] (by decide +kernel) (by decide +kernel)) (goodIn_sub (fun _ h => List.mem_append_left _ (List.mem_append_left _ (List.mem_append_right _ h))) (by decide +kernel))
set_option maxRecDepth 20000 in
theorem gL_law_L_switchProp : GoodIn wsL_law (va_wsS RL 118 yL_switchProp wsL_switchProp) := goodIn_app (goodIn_of _ (by decide +kernel)) ggL_law_L_switchProp
set_option maxRecDepth 20000 in
theorem ggL_law_X8_switchProp : GoodIn wsL_law wsX8_switchProp := goodIn_r _ [313, 105, 215, 216, 217, 5, 218, 156, 219, 220, 221, 222, 223, 224, 225, 161, 162, 163, 164, 165, 106, 269, 270, 271, 929, 930, 931, 932, 933, 934, 935, 936, 937, 938, 939, 940, 941] (by decide +kernel) (by decide +kernel)
set_option maxRecDepth 20000 in
theorem gL_law_X8_switchProp : GoodIn wsL_law (wsV RL 120 RX8 yX8_switchProp wsX8_switchProp) := goodIn_app (goodIn_of _ (by decide +kernel)) ggL_law_X8_switchProp
set_option maxRecDepth 20000 in
theorem ggL_law_L_change : GoodIn wsL_law wsL_change := goodIn_ca (goodIn_r _ [316, 235, 317, 318, 319, 2, 320, 244, 245, 20, 24, 16, 321, 322, 323, 19, 324, 64, 325, 326, 327, 328, 63, 329, 144, 145, 27, 146, 58, 330, 331, 332, 333, 334, 335, 127, 128, 129, 23, 130, 72, 71, 70, 131, 132, 133, 134, 135, 136, 137, 15, 138, 45, 46, 48, 139, 140, 141, 142, 143, 336, 337, 338, 339, 340, 341, 342, 343, 344, 148, 149, 150, 151, 124, 125, 126, 345, 346, 347, 348, 349, 303, 304, 305, 205, 185, 186, 187, 209, 210, 350, 253, 254, 255, 256, 247, 248, 249, 250, 251, 351, 284, 285, 286, 352, 353, 354, 355, 921, 922, 923, 924, 925, 926, 927, 928, 945, 946, 950, 947, 948, 949, 942, 943, 944] (by decide +kernel) (by decide +kernel)) (goodIn_sub (fun _ h => List.mem_append_left _ (List.mem_append_right _ h)) (by decide +kernel))
set_option maxRecDepth 20000 in
theorem gL_law_L_change : GoodIn wsL_law (va_wsS RL 121 yL_change wsL_change) := goodIn_app (goodIn_of _ (by decide +kernel)) ggL_law_L_change
set_option maxRecDepth 20000 in
theorem ggL_law_X8_change : GoodIn wsL_law wsX8_change := goodIn_r _ [359, 156, 360, 361, 362, 363, 5, 364, 365, 366, 367, 368, 369, 370, 105, 371, 372, 373, 374, 108, 375, 376, 377, 378, 223, 224, 225, 219, 220, 221, 222, 265, 266, 267, 268, 269, 270, 271, 272, 273, 274, 275, 226, 227, 228, 291, 292, 293, 294, 157, 158, 159, 160, 161, 162, 163, 164, 165, 106, 929, 930, 931, 932, 933, 934, 935, 936, 937, 938, 939, 940, 941] (by decide +kernel) (by decide +kernel)
set_option maxRecDepth 20000 in
theorem gL_law_X8_change : GoodIn wsL_law (wsV RL 123 RX8 yX8_change wsX8_change) := goodIn_app (goodIn_of _ (by decide +kernel)) ggL_law_X8_change
set_option maxRecDepth 20000 in
theorem ggL_law_L_append : GoodIn wsL_law wsL_append := goodIn_ca (goodIn_r _ [381, 116, 382, 383, 384, 2, 385, 121, 122, 20, 386, 387, 388, 19, 389, 64, 390, 391, 392, 393, 63, 394, 395, 140, 141, 27, 142, 58, 921, 922, 923, 924, 925, 926, 927, 928, 945, 946, 950] (by decide +kernel) (by decide +kernel)) (goodIn_sub (fun _ h => List.mem_append_left _ (List.mem_append_left _ (List.mem_append_left _ (List.mem_append_right _ h)))) (by decide +kernel))
set_option maxRecDepth 20000 in
theorem gL_law_L_append : GoodIn wsL_law (va_wsS RL 124 yL_append wsL_append) := goodIn_app (goodIn_of _ (by decide +kernel)) ggL_law_L_append
set_option maxRecDepth 20000 in
theorem ggL_law_X8_append : GoodIn wsL_law wsX8_append := goodIn_r _ [399, 156, 366, 108, 157, 158, 159, 5, 160, 929, 930, 931, 932, 933, 934, 935, 936, 937, 938, 939, 940, 941] (by decide +kernel) (by decide +kernel)
set_option maxRecDepth 20000 in
theorem gL_law_X8_append : GoodIn wsL_law (wsV RL 127 RX8 yX8_append wsX8_append) := goodIn_app (goodIn_of _ (by decide +kernel)) ggL_law_X8_append
set_option maxRecDepth 20000 in
theorem ggL_law_X7_clearText : GoodIn wsL_law wsX7_clearText := goodIn_r _ [403, 20, 404, 405, 406, 19, 407, 64, 921, 922, 923, 924, 925, 926, 927, 928, 945, 946] (by decide +kernel) (by decide +kernel)
set_option maxRecDepth 20000 in
theorem gL_law_X7_clearText : GoodIn wsL_law (wsV RL 128 RX7 yX7_clearText wsX7_clearText) := goodIn_app (goodIn_of _ (by decide +kernel)) ggL_law_X7_clearText
set_option maxRecDepth 20000 in
theorem ggL_law_X8_clearText : GoodIn wsL_law wsX8_clearText := goodIn_r _ [411, 156, 366, 929, 930, 931, 932, 933, 934, 935, 936, 937, 938, 939, 940, 941] (by decide +kernel) (by decide +kernel)
set_option maxRecDepth 20000 in
theorem gL_law_X8_clearText : GoodIn wsL_law (wsV RL 131 RX8 yX8_clearText wsX8_clearText) := goodIn_app (goodIn_of _ (by decide +kernel)) ggL_law_X8_clearText
set_option maxRecDepth 20000 in
theorem ggL_law_X7_isValid : GoodIn wsL_law wsX7_isValid := goodIn_r _ [415, 20, 321, 322, 323, 19, 324, 64, 325, 326, 327, 328, 63, 329, 144, 145, 27, 146, 58, 330, 331, 332, 333, 334, 335, 921, 922, 923, 924, 925, 926, 927, 928, 945, 946, 950] (by decide +kernel) (by decide +kernel)
set_option maxRecDepth 20000 in
theorem gL_law_X7_isValid : GoodIn wsL_law (wsV RL 132 RX7 yX7_isValid wsX7_isValid) := goodIn_app (goodIn_of _ (by decide +kernel)) ggL_law_X7_isValid
set_option maxRecDepth 20000 in
theorem ggL_law_X8_isValid : GoodIn wsL_law wsX8_isValid := goodIn_r _ [419, 156, 360, 361, 362, 363, 5, 364, 365, 366, 367, 368, 369, 370, 105, 371, 372, 373, 374, 108, 375, 376, 377, 378, 223, 224, 225, 219, 220, 221, 222, 265, 266, 267, 268, 269, 270, 271, 272, 273, 274, 275, 226, 227, 228, 291, 292, 293, 294, 929, 930, 931, 932, 933, 934, 935, 936, 937, 938, 939, 940, 941] (by decide +kernel) (by decide +kernel)
set_option maxRecDepth 20000 in
theorem gL_law_X8_isValid : GoodIn wsL_law (wsV RL 136 RX8 yX8_isValid wsX8_isValid) := goodIn_app (goodIn_of _ (by decide +kernel)) ggL_law_X8_isValid
set_option maxRecDepth 20000 in
theorem ggL_law_L_firstError : GoodIn wsL_law wsL_firstError := goodIn_ca (goodIn_r _ [422, 116, 423, 424, 425, 2, 426, 121, 122, 20, 321, 322, 323, 19, 324, 64, 325, 326, 327, 328, 63, 329, 144, 145, 27, 146, 58, 330, 331, 332, 333, 334, 335, 427, 428, 429, 430, 921, 922, 923, 924, 925, 926, 927, 928, 945, 946, 950] (by decide +kernel) (by decide +kernel)) (goodIn_sub (fun _ h => List.mem_append_left _ (List.mem_append_left _ (List.mem_append_left _ (List.mem_append_right _ h)))) (by decide +kernel))
set_option maxRecDepth 20000 in
theorem gL_law_L_firstError : GoodIn wsL_law (va_wsS RL 137 yL_firstError wsL_firstError) := goodIn_app (goodIn_of _ (by decide +kernel)) ggL_law_L_firstError
set_option maxRecDepth 20000 in
theorem ggL_law_X8_firstError : GoodIn wsL_law wsX8_firstError := goodIn_r _ [434, 156, 360, 365, 361, 362, 363, 5, 364, 366, 367, 368, 369, 370, 105, 371, 372, 373, 374, 108, 375, 376, 377, 378, 223, 224, 225, 219, 220, 221, 222, 265, 266, 267, 268, 269, 270, 271, 272, 273, 274, 275, 226, 227, 228, 291, 292, 293, 294, 157, 158, 159, 160, 929, 930, 931, 932, 933, 934, 935, 936, 937, 938, 939, 940, 941] (by decide +kernel) (by decide +kernel)
set_option maxRecDepth 20000 in
theorem gL_law_X8_firstError : GoodIn wsL_law (wsV RL 139 RX8 yX8_firstError wsX8_firstError) := goodIn_app (goodIn_of _ (by decide +kernel)) ggL_law_X8_firstError
set_option maxRecDepth 20000 in
theorem ggL_law_L_undo : GoodIn wsL_law wsL_undo := goodIn_ca (goodIn_r _ [437, 116, 438, 439, 440, 2, 441, 121, 122, 24, 16, 442, 443, 444, 23, 445, 72, 70, 131, 132, 133, 134, 71, 446, 447, 448, 15, 449, 45, 46, 48, 143, 144, 145, 27, 146, 58, 139, 140, 141, 142, 921, 922, 923, 924, 925, 926, 927, 928, 947, 948, 949, 942, 943, 944, 950] (by decide +kernel) (by decide +kernel)) (goodIn_sub (fun _ h => List.mem_append_left _ (List.mem_append_left _ (List.mem_append_left _ (List.mem_append_right _ h)))) (by decide +kernel))
set_option maxRecDepth 20000 in
theorem gL_law_L_undo : GoodIn wsL_law (va_wsS RL 140 yL_undo wsL_undo) := goodIn_app (goodIn_of _ (by decide +kernel)) ggL_law_L_undo
set_option maxRecDepth 20000 in
theorem ggL_law_X8_undo : GoodIn wsL_law wsX8_undo := goodIn_r _ [453, 156, 165, 105, 106, 157, 158, 159, 5, 160, 929, 930, 931, 932, 933, 934, 935, 936, 937, 938, 939, 940, 941] (by decide +kernel) (by decide +kernel)
set_option maxRecDepth 20000 in
theorem gL_law_X8_undo : GoodIn wsL_law (wsV RL 142 RX8 yX8_undo wsX8_undo) := goodIn_app (goodIn_of _ (by decide +kernel)) ggL_law_X8_undo
set_option maxRecDepth 20000 in
theorem ggL_law_X7_takeSnapshot : GoodIn wsL_law wsX7_takeSnapshot := goodIn_r _ [457, 16, 28, 29, 458, 136, 137, 15, 138, 45, 46, 48, 139, 140, 141, 27, 142, 58, 143, 144, 145, 146, 921, 922, 923, 924, 925, 926, 927, 928, 942, 943, 944, 950] (by decide +kernel) (by decide +kernel)
set_option maxRecDepth 20000 in
theorem gL_law_X7_takeSnapshot : GoodIn wsL_law (wsV RL 143 RX7 yX7_takeSnapshot wsX7_takeSnapshot) := goodIn_app (goodIn_of _ (by decide +kernel)) ggL_law_X7_takeSnapshot
set_option maxRecDepth 20000 in
theorem ggL_law_X8_takeSnapshot : GoodIn wsL_law wsX8_takeSnapshot := goodIn_r _ [462, 156, 107, 105, 463, 929, 930, 931, 932, 933, 934, 935, 936, 937, 938, 939, 940, 941] (by decide +kernel) (by decide +kernel)
set_option maxRecDepth 20000 in
theorem gL_law_X8_takeSnapshot : GoodIn wsL_law (wsV RL 146 RX8 yX8_takeSnapshot wsX8_takeSnapshot) := goodIn_app (goodIn_of _ (by decide +kernel)) ggL_law_X8_takeSnapshot
set_option maxRecDepth 20000 in
theorem ggL_law_L_restoreSnapshot : GoodIn wsL_law wsL_restoreSnapshot := goodIn_ca (goodIn_r _ [466, 116, 467, 468, 469, 2, 470, 121, 122, 29, 24, 16, 28, 127, 128, 129, 23, 130, 72, 71, 70, 131, 132, 133, 134, 135, 136, 137, 15, 138, 45, 46, 48, 139, 140, 141, 27, 142, 58, 143, 144, 145, 146, 471, 447, 448, 449, 921, 922, 923, 924, 925, 926, 927, 928, 942, 943, 944, 947, 948, 949, 950] (by decide +kernel) (by decide +kernel)) (goodIn_sub (fun _ h => List.mem_append_left _ (List.mem_append_left _ (List.mem_append_left _ (List.mem_append_right _ h)))) (by decide +kernel))
set_option maxRecDepth 20000 in
theorem gL_law_L_restoreSnapshot : GoodIn wsL_law (va_wsS RL 147 yL_restoreSnapshot wsL_restoreSnapshot) := goodIn_app (goodIn_of _ (by decide +kernel)) ggL_law_L_restoreSnapshot
set_option maxRecDepth 20000 in
theorem ggL_law_X8_restoreSnapshot : GoodIn wsL_law wsX8_restoreSnapshot := goodIn_r _ [475, 156, 463, 105, 107, 157, 158, 159, 5, 160, 161, 162, 163, 164, 165, 106, 929, 930, 931, 932, 933, 934, 935, 936, 937, 938, 939, 940, 941] (by decide +kernel) (by decide +kernel)
set_option maxRecDepth 20000 in
theorem gL_law_X8_restoreSnapshot : GoodIn wsL_law (wsV RL 149 RX8 yX8_restoreSnapshot wsX8_restoreSnapshot) := goodIn_app (goodIn_of _ (by decide +kernel)) ggL_law_X8_restoreSnapshot
set_option maxRecDepth 20000 in
theorem ggL_law_X7_plantCount : GoodIn wsL_law wsX7_plantCount := goodIn_r _ [479, 16, 921, 922, 923, 924, 925, 926, 927, 928, 942, 943, 944] (by decide +kernel) (by decide +kernel)
set_option maxRecDepth 20000 in
theorem gL_law_X7_plantCount : GoodIn wsL_law (wsV RL 150 RX7 yX7_plantCount wsX7_plantCount) := goodIn_app (goodIn_of _ (by decide +kernel)) ggL_law_X7_plantCount
set_option maxRecDepth 20000 in
theorem ggL_law_X8_plantCount : GoodIn wsL_law wsX8_plantCount := goodIn_r _ [483, 156, 105, 929, 930, 931, 932, 933, 934, 935, 936, 937, 938, 939, 940, 941] (by decide +kernel) (by decide +kernel)
set_option maxRecDepth 20000 in
theorem gL_law_X8_plantCount : GoodIn wsL_law (wsV RL 153 RX8 yX8_plantCount wsX8_plantCount) := goodIn_app (goodIn_of _ (by decide +kernel)) ggL_law_X8_plantCount
set_option maxRecDepth 20000 in
theorem ggL_law_X7_thornCount : GoodIn wsL_law wsX7_thornCount := goodIn_r _ [487, 16, 488, 489, 490, 15, 491, 45, 492, 189, 190, 191, 48, 143, 144, 145, 27, 146, 58, 192, 2, 193, 194, 195, 196, 197, 198, 199, 200, 921, 922, 923, 924, 925, 926, 927, 928, 942, 943, 944, 950] (by decide +kernel) (by decide +kernel)
set_option maxRecDepth 20000 in
theorem gL_law_X7_thornCount : GoodIn wsL_law (wsV RL 154 RX7 yX7_thornCount wsX7_thornCount) := goodIn_app (goodIn_of _ (by decide +kernel)) ggL_law_X7_thornCount
set_option maxRecDepth 20000 in
theorem ggL_law_X8_thornCount : GoodIn wsL_law wsX8_thornCount := goodIn_r _ [496, 156, 497, 498, 499, 5, 500, 105, 226, 227, 228, 929, 930, 931, 932, 933, 934, 935, 936, 937, 938, 939, 940, 941] (by decide +kernel) (by decide +kernel)
set_option maxRecDepth 20000 in
theorem gL_law_X8_thornCount : GoodIn wsL_law (wsV RL 157 RX8 yX8_thornCount wsX8_thornCount) := goodIn_app (goodIn_of _ (by decide +kernel)) ggL_law_X8_thornCount
set_option maxRecDepth 20000 in
theorem ggL_law_L_neighbors : GoodIn wsL_law wsL_neighbors := goodIn_ca (goodIn_r _ [503, 173, 504, 505, 506, 2, 507, 16, 178, 179, 180, 181, 182, 183, 184, 185, 186, 15, 187, 45, 508, 509, 510, 511, 48, 143, 144, 145, 27, 146, 58, 921, 922, 923, 924, 925, 926, 927, 928, 942, 943, 944, 950] (by decide +kernel) (by decide +kernel)) (goodIn_sub (fun _ h => List.mem_append_left _ (List.mem_append_left _ (List.mem_append_right _ h))) (by decide +kernel))
set_option maxRecDepth 20000 in
theorem gL_law_L_neighbors : GoodIn wsL_law (va_wsS RL 158 yL_neighbors wsL_neighbors) := goodIn_app (goodIn_of _ (by decide +kernel)) ggL_law_L_neighbors
set_option maxRecDepth 20000 in
theorem ggL_law_X8_neighbors : GoodIn wsL_law wsX8_neighbors := goodIn_r _ [515, 105, 215, 216, 217, 5, 218, 156, 219, 220, 221, 222, 223, 224, 225, 929, 930, 931, 932, 933, 934, 935, 936, 937, 938, 939, 940, 941] (by decide +kernel) (by decide +kernel)
set_option maxRecDepth 20000 in
theorem gL_law_X8_neighbors : GoodIn wsL_law (wsV RL 160 RX8 yX8_neighbors wsX8_neighbors) := goodIn_app (goodIn_of _ (by decide +kernel)) ggL_law_X8_neighbors
set_option maxRecDepth 20000 in
theorem ggL_law_L_isPropped : GoodIn wsL_law wsL_isPropped := goodIn_ca (goodIn_r _ [518, 173, 519, 520, 521, 2, 522, 16, 178, 179, 180, 181, 182, 183, 184, 185, 186, 15, 187, 45, 306, 307, 308, 309, 46, 205, 250, 251, 921, 922, 923, 924, 925, 926, 927, 928, 942, 943, 944] (by decide +kernel) (by decide +kernel)) (goodIn_sub (fun _ h => List.mem_append_left _ (List.mem_append_left _ (List.mem_append_right _ h))) (by decide +kernel))
set_option maxRecDepth 20000 in
theorem gL_law_L_isPropped : GoodIn wsL_law (va_wsS RL 161 yL_isPropped wsL_isPropped) := goodIn_app (goodIn_of _ (by decide +kernel)) ggL_law_L_isPropped
set_option maxRecDepth 20000 in
theorem ggL_law_X8_isPropped : GoodIn wsL_law wsX8_isPropped := goodIn_r _ [526, 105, 215, 216, 217, 5, 218, 156, 219, 220, 221, 222, 223, 224, 225, 269, 270, 271, 929, 930, 931, 932, 933, 934, 935, 936, 937, 938, 939, 940, 941] (by decide +kernel) (by decide +kernel)
set_option maxRecDepth 20000 in
theorem gL_law_X8_isPropped : GoodIn wsL_law (wsV RL 163 RX8 yX8_isPropped wsX8_isPropped) := goodIn_app (goodIn_of _ (by decide +kernel)) ggL_law_X8_isPropped
set_option maxRecDepth 20000 in
theorem ggL_law_X7_triangles : GoodIn wsL_law wsX7_triangles := goodIn_r _ [530, 16, 531, 532, 533, 15, 534, 256, 247, 248, 249, 48, 205, 185, 186, 187, 45, 143, 144, 145, 27, 146, 58, 250, 2, 251, 921, 922, 923, 924, 925, 926, 927, 928, 942, 943, 944, 950] (by decide +kernel) (by decide +kernel)
set_option maxRecDepth 20000 in
theorem gL_law_X7_triangles : GoodIn wsL_law (wsV RL 164 RX7 yX7_triangles wsX7_triangles) := goodIn_app (goodIn_of _ (by decide +kernel)) ggL_law_X7_triangles
set_option maxRecDepth 20000 in
theorem ggL_law_X8_triangles : GoodIn wsL_law wsX8_triangles := goodIn_r _ [538, 156, 539, 540, 541, 5, 542, 105, 265, 266, 267, 268, 269, 270, 271, 226, 227, 228, 929, 930, 931, 932, 933, 934, 935, 936, 937, 938, 939, 940, 941] (by decide +kernel) (by decide +kernel)
set_option maxRecDepth 20000 in
theorem gL_law_X8_triangles : GoodIn wsL_law (wsV RL 167 RX8 yX8_triangles wsX8_triangles) := goodIn_app (goodIn_of _ (by decide +kernel)) ggL_law_X8_triangles
set_option maxRecDepth 20000 in
theorem ggL_law_X7_trianglesBySupport : GoodIn wsL_law wsX7_trianglesBySupport := goodIn_r _ [546, 16, 246, 247, 248, 15, 249, 48, 205, 185, 186, 187, 45, 143, 144, 145, 27, 146, 58, 250, 2, 251, 547, 548, 549, 550, 551, 192, 193, 194, 195, 196, 197, 198, 199, 200, 921, 922, 923, 924, 925, 926, 927, 928, 942, 943, 944, 950] (by decide +kernel) (by decide +kernel)
set_option maxRecDepth 20000 in
theorem gL_law_X7_trianglesBySupport : GoodIn wsL_law (wsV RL 168 RX7 yX7_trianglesBySupport wsX7_trianglesBySupport) := goodIn_app (goodIn_of _ (by decide +kernel)) ggL_law_X7_trianglesBySupport
set_option maxRecDepth 20000 in
theorem ggL_law_X8_trianglesBySupport : GoodIn wsL_law wsX8_trianglesBySupport := goodIn_r _ [555, 156, 539, 540, 541, 5, 542, 105, 265, 266, 267, 268, 269, 270, 271, 226, 227, 228, 929, 930, 931, 932, 933, 934, 935, 936, 937, 938, 939, 940, 941] (by decide +kernel) (by decide +kernel)
set_option maxRecDepth 20000 in
theorem gL_law_X8_trianglesBySupport : GoodIn wsL_law (wsV RL 171 RX8 yX8_trianglesBySupport wsX8_trianglesBySupport) := goodIn_app (goodIn_of _ (by decide +kernel)) ggL_law_X8_trianglesBySupport
set_option maxRecDepth 20000 in
theorem ggL_law_L_core : GoodIn wsL_law wsL_core := goodIn_ca (goodIn_r _ [558, 235, 559, 560, 561, 2, 562, 33, 16, 563, 564, 565, 566, 244, 245, 567, 568, 569, 15, 570, 45, 209, 210, 571, 572, 573, 32, 574, 575, 576, 577, 578, 81, 250, 251, 579, 509, 510, 511, 48, 143, 144, 145, 27, 146, 58, 192, 193, 194, 195, 196, 197, 198, 199, 200, 921, 922, 923, 924, 925, 926, 927, 928, 942, 943, 944, 951, 952, 950] (by decide +kernel) (by decide +kernel)) (goodIn_sub (fun _ h => List.mem_append_left _ (List.mem_append_right _ h)) (by decide +kernel))
set_option maxRecDepth 20000 in
theorem gL_law_L_core : GoodIn wsL_law (va_wsS RL 172 yL_core wsL_core) := goodIn_app (goodIn_of _ (by decide +kernel)) ggL_law_L_core
set_option maxRecDepth 20000 in
theorem ggL_law_X8_core : GoodIn wsL_law wsX8_core := goodIn_r _ [583, 584, 585, 586, 5, 587, 156, 223, 224, 225, 588, 589, 590, 591, 105, 592, 593, 594, 595, 596, 597, 598, 599, 269, 270, 271, 226, 227, 228, 929, 930, 931, 932, 933, 934, 935, 936, 937, 938, 939, 940, 941] (by decide +kernel) (by decide +kernel)
set_option maxRecDepth 20000 in
theorem gL_law_X8_core : GoodIn wsL_law (wsV RL 174 RX8 yX8_core wsX8_core) := goodIn_app (goodIn_of _ (by decide +kernel)) ggL_law_X8_core
set_option maxRecDepth 20000 in
theorem ggL_law_L_coreOf : GoodIn wsL_law wsL_coreOf := goodIn_ca (goodIn_r _ [602, 173, 603, 604, 605, 2, 606, 33, 178, 179, 180, 181, 182, 183, 16, 184, 185, 186, 15, 187, 45, 607, 608, 609, 32, 610, 81, 611, 568, 569, 570, 209, 210, 612, 572, 573, 574, 575, 576, 577, 578, 250, 251, 579, 509, 510, 511, 48, 143, 144, 145, 27, 146, 58, 192, 193, 194, 195, 196, 197, 198, 199, 200, 921, 922, 923, 924, 925, 926, 927, 928, 942, 943, 944, 951, 952, 950] (by decide +kernel) (by decide +kernel)) (goodIn_sub (fun _ h => List.mem_append_left _ (List.mem_append_left _ (List.mem_append_right _ h))) (by decide +kernel))
set_option maxRecDepth 20000 in
theorem gL_law_L_coreOf : GoodIn wsL_law (va_wsS RL 175 yL_coreOf wsL_coreOf) := goodIn_app (goodIn_of _ (by decide +kernel)) ggL_law_L_coreOf
set_option maxRecDepth 20000 in
theorem ggL_law_X8_coreOf : GoodIn wsL_law wsX8_coreOf := goodIn_r _ [616, 215, 216, 217, 5, 218, 156, 219, 220, 221, 222, 105, 223, 224, 225, 617, 618, 619, 620, 588, 589, 590, 591, 592, 593, 594, 595, 596, 597, 598, 599, 269, 270, 271, 226, 227, 228, 929, 930, 931, 932, 933, 934, 935, 936, 937, 938, 939, 940, 941] (by decide +kernel) (by decide +kernel)
set_option maxRecDepth 20000 in
theorem gL_law_X8_coreOf : GoodIn wsL_law (wsV RL 177 RX8 yX8_coreOf wsX8_coreOf) := goodIn_app (goodIn_of _ (by decide +kernel)) ggL_law_X8_coreOf
set_option maxRecDepth 20000 in
theorem ggL_law_L_coreByRounds : GoodIn wsL_law wsL_coreByRounds := goodIn_ca (goodIn_r _ [623, 173, 624, 625, 626, 2, 627, 33, 178, 179, 180, 181, 182, 183, 16, 184, 185, 186, 15, 187, 45, 628, 629, 630, 32, 631, 81, 80, 632, 307, 308, 309, 46, 205, 250, 251, 633, 189, 190, 191, 48, 143, 144, 145, 27, 146, 58, 192, 193, 194, 195, 196, 197, 198, 199, 200, 634, 140, 141, 142, 635, 636, 637, 638, 639, 640, 641, 642, 643, 644, 645, 646, 647, 648, 247, 248, 249, 921, 922, 923, 924, 925, 926, 927, 928, 942, 943, 944, 951, 952, 950] (by decide +kernel) (by decide +kernel)) (goodIn_sub (fun _ h => List.mem_append_left _ (List.mem_append_left _ (List.mem_append_right _ h))) (by decide +kernel))
set_option maxRecDepth 20000 in
theorem gL_law_L_coreByRounds : GoodIn wsL_law (va_wsS RL 178 yL_coreByRounds wsL_coreByRounds) := goodIn_app (goodIn_of _ (by decide +kernel)) ggL_law_L_coreByRounds
set_option maxRecDepth 20000 in
theorem ggL_law_X8_coreByRounds : GoodIn wsL_law wsX8_coreByRounds := goodIn_r _ [652, 215, 216, 217, 5, 218, 156, 219, 220, 221, 222, 105, 223, 224, 225, 617, 618, 619, 620, 588, 589, 590, 591, 592, 593, 594, 595, 596, 597, 598, 599, 269, 270, 271, 226, 227, 228, 929, 930, 931, 932, 933, 934, 935, 936, 937, 938, 939, 940, 941] (by decide +kernel) (by decide +kernel)
set_option maxRecDepth 20000 in
theorem gL_law_X8_coreByRounds : GoodIn wsL_law (wsV RL 180 RX8 yX8_coreByRounds wsX8_coreByRounds) := goodIn_app (goodIn_of _ (by decide +kernel)) ggL_law_X8_coreByRounds
set_option maxRecDepth 20000 in
theorem ggL_law_L_placeOf : GoodIn wsL_law wsL_placeOf := goodIn_ca (goodIn_r _ [655, 173, 656, 657, 658, 2, 659, 41, 178, 179, 180, 181, 182, 183, 16, 184, 185, 186, 15, 187, 45, 660, 661, 662, 40, 663, 99, 97, 664, 665, 666, 667, 668, 568, 569, 570, 209, 210, 669, 670, 671, 672, 673, 509, 510, 511, 48, 143, 144, 145, 27, 146, 58, 192, 193, 194, 195, 196, 197, 198, 199, 200, 250, 251, 674, 140, 141, 142, 675, 921, 922, 923, 924, 925, 926, 927, 928, 942, 943, 944, 956, 957, 958, 950] (by decide +kernel) (by decide +kernel)) (goodIn_sub (fun _ h => List.mem_append_left _ (List.mem_append_left _ (List.mem_append_right _ h))) (by decide +kernel))
set_option maxRecDepth 20000 in
theorem gL_law_L_placeOf : GoodIn wsL_law (va_wsS RL 181 yL_placeOf wsL_placeOf) := goodIn_app (goodIn_of _ (by decide +kernel)) ggL_law_L_placeOf
set_option maxRecDepth 20000 in
theorem ggL_law_X8_placeOf : GoodIn wsL_law wsX8_placeOf := goodIn_r _ [679, 109, 215, 216, 217, 5, 218, 156, 219, 220, 221, 222, 105, 223, 224, 225, 680, 681, 682, 683, 592, 593, 594, 595, 269, 270, 271, 226, 227, 228, 929, 930, 931, 932, 933, 934, 935, 936, 937, 938, 939, 940, 941] (by decide +kernel) (by decide +kernel)
set_option maxRecDepth 20000 in
theorem gL_law_X8_placeOf : GoodIn wsL_law (wsV RL 183 RX8 yX8_placeOf wsX8_placeOf) := goodIn_app (goodIn_of _ (by decide +kernel)) ggL_law_X8_placeOf
set_option maxRecDepth 20000 in
theorem ggL_law_L_corePieces : GoodIn wsL_law wsL_corePieces := goodIn_ca (goodIn_r _ [686, 235, 687, 688, 689, 2, 690, 33, 16, 563, 564, 565, 566, 244, 245, 567, 568, 569, 15, 570, 45, 209, 210, 571, 572, 573, 32, 574, 575, 576, 577, 578, 81, 250, 251, 579, 509, 510, 511, 48, 143, 144, 145, 27, 146, 58, 192, 193, 194, 195, 196, 197, 198, 199, 200, 691, 692, 693, 694, 695, 696, 697, 698, 921, 922, 923, 924, 925, 926, 927, 928, 942, 943, 944, 951, 952, 950] (by decide +kernel) (by decide +kernel)) (goodIn_sub (fun _ h => List.mem_append_left _ (List.mem_append_right _ h)) (by decide +kernel))
set_option maxRecDepth 20000 in
theorem gL_law_L_corePieces : GoodIn wsL_law (va_wsS RL 184 yL_corePieces wsL_corePieces) := goodIn_app (goodIn_of _ (by decide +kernel)) ggL_law_L_corePieces
set_option maxRecDepth 20000 in
theorem ggL_law_X8_corePieces : GoodIn wsL_law wsX8_corePieces := goodIn_r _ [702, 105, 584, 585, 586, 5, 587, 156, 223, 224, 225, 588, 589, 590, 591, 592, 593, 594, 595, 596, 597, 598, 599, 269, 270, 271, 226, 227, 228, 929, 930, 931, 932, 933, 934, 935, 936, 937, 938, 939, 940, 941] (by decide +kernel) (by decide +kernel)
set_option maxRecDepth 20000 in
theorem gL_law_X8_corePieces : GoodIn wsL_law (wsV RL 186 RX8 yX8_corePieces wsX8_corePieces) := goodIn_app (goodIn_of _ (by decide +kernel)) ggL_law_X8_corePieces
set_option maxRecDepth 20000 in
theorem ggL_law_L_wouldFall : GoodIn wsL_law wsL_wouldFall := goodIn_ca (goodIn_ca (goodIn_r _ [705, 173, 235, 706, 707, 708, 2, 709, 33, 16, 178, 179, 180, 181, 182, 183, 184, 185, 186, 15, 187, 45, 563, 564, 565, 566, 244, 245, 567, 568, 569, 570, 209, 210, 571, 572, 573, 32, 574, 575, 576, 577, 578, 81, 250, 251, 579, 509, 510, 511, 48, 143, 144, 145, 27, 146, 58, 192, 193, 194, 195, 196, 197, 198, 199, 200, 710, 551, 921, 922, 923, 924, 925, 926, 927, 928, 942, 943, 944, 951, 952, 950] (by decide +kernel) (by decide +kernel)) (goodIn_sub (fun _ h => List.mem_append_left _ (List.mem_append_left _ (List.mem_append_right _ h))) (by decide +kernel))) (goodIn_sub (fun _ h => List.mem_append_left _ (List.mem_append_right _ h)) (by decide +kernel))
set_option maxRecDepth 20000 in
theorem gL_law_L_wouldFall : GoodIn wsL_law (va_wsS RL 187 yL_wouldFall wsL_wouldFall) := goodIn_app (goodIn_of _ (by decide +kernel)) ggL_law_L_wouldFall
set_option maxRecDepth 20000 in
theorem ggL_law_X8_wouldFall : GoodIn wsL_law wsX8_wouldFall := goodIn_r _ [714, 105, 215, 216, 217, 5, 218, 156, 219, 220, 221, 222, 223, 224, 225, 157, 158, 159, 160, 592, 593, 594, 595, 596, 597, 598, 599, 269, 270, 271, 226, 227, 228, 588, 589, 590, 591, 929, 930, 931, 932, 933, 934, 935, 936, 937, 938, 939, 940, 941] (by decide +kernel) (by decide +kernel)
set_option maxRecDepth 20000 in
theorem gL_law_X8_wouldFall : GoodIn wsL_law (wsV RL 189 RX8 yX8_wouldFall wsX8_wouldFall) := goodIn_app (goodIn_of _ (by decide +kernel)) ggL_law_X8_wouldFall
set_option maxRecDepth 20000 in
theorem ggL_law_L_bestProp : GoodIn wsL_law wsL_bestProp := goodIn_ca (goodIn_ca (goodIn_r _ [717, 235, 718, 719, 720, 721, 2, 722, 723, 724, 16, 33, 563, 564, 565, 566, 244, 245, 567, 568, 569, 15, 570, 45, 209, 210, 725, 726, 727, 32, 728, 81, 632, 307, 308, 309, 46, 205, 185, 186, 187, 250, 251, 611, 612, 572, 573, 574, 575, 576, 577, 578, 579, 509, 510, 511, 48, 143, 144, 145, 27, 146, 58, 192, 193, 194, 195, 196, 197, 198, 199, 200, 921, 922, 923, 924, 925, 926, 927, 928, 942, 943, 944, 951, 952, 950] (by decide +kernel) (by decide +kernel)) (goodIn_sub (fun _ h => List.mem_append_right _ h) (by decide +kernel))) (goodIn_sub (fun _ h => List.mem_append_left _ (List.mem_append_right _ h)) (by decide +kernel))
set_option maxRecDepth 20000 in
theorem gL_law_L_bestProp : GoodIn wsL_law (va_wsS RL 190 yL_bestProp wsL_bestProp) := goodIn_app (goodIn_of _ (by decide +kernel)) ggL_law_L_bestProp
set_option maxRecDepth 20000 in
theorem ggL_law_X8_bestProp : GoodIn wsL_law wsX8_bestProp := goodIn_r _ [732, 105, 584, 585, 586, 5, 587, 156, 223, 224, 225, 269, 270, 271, 592, 593, 594, 595, 596, 597, 598, 599, 226, 227, 228, 157, 158, 159, 160, 929, 930, 931, 932, 933, 934, 935, 936, 937, 938, 939, 940, 941] (by decide +kernel) (by decide +kernel)
set_option maxRecDepth 20000 in
theorem gL_law_X8_bestProp : GoodIn wsL_law (wsV RL 192 RX8 yX8_bestProp wsX8_bestProp) := goodIn_app (goodIn_of _ (by decide +kernel)) ggL_law_X8_bestProp
set_option maxRecDepth 20000 in
theorem ggL_law_L_support : GoodIn wsL_law wsL_support := goodIn_ca (goodIn_ca (goodIn_r _ [735, 173, 718, 736, 737, 738, 2, 739, 16, 740, 741, 742, 743, 723, 724, 178, 179, 180, 181, 182, 183, 184, 185, 186, 15, 187, 45, 246, 247, 248, 249, 48, 205, 143, 144, 145, 27, 146, 58, 250, 251, 547, 548, 549, 550, 551, 192, 193, 194, 195, 196, 197, 198, 199, 200, 921, 922, 923, 924, 925, 926, 927, 928, 942, 943, 944, 950] (by decide +kernel) (by decide +kernel)) (goodIn_sub (fun _ h => List.mem_append_right _ h) (by decide +kernel))) (goodIn_sub (fun _ h => List.mem_append_left _ (List.mem_append_left _ (List.mem_append_right _ h))) (by decide +kernel))
set_option maxRecDepth 20000 in
theorem gL_law_L_support : GoodIn wsL_law (va_wsS RL 193 yL_support wsL_support) := goodIn_app (goodIn_of _ (by decide +kernel)) ggL_law_L_support
set_option maxRecDepth 20000 in
theorem ggL_law_X8_support : GoodIn wsL_law wsX8_support := goodIn_r _ [747, 105, 748, 749, 750, 5, 751, 156, 219, 220, 221, 222, 223, 224, 225, 265, 266, 267, 268, 269, 270, 271, 226, 227, 228, 929, 930, 931, 932, 933, 934, 935, 936, 937, 938, 939, 940, 941] (by decide +kernel) (by decide +kernel)
set_option maxRecDepth 20000 in
theorem gL_law_X8_support : GoodIn wsL_law (wsV RL 195 RX8 yX8_support wsX8_support) := goodIn_app (goodIn_of _ (by decide +kernel)) ggL_law_X8_support
set_option maxRecDepth 20000 in
theorem ggL_law_L_trussOf : GoodIn wsL_law wsL_trussOf := goodIn_ca (goodIn_ca (goodIn_r _ [754, 173, 718, 755, 756, 757, 2, 758, 37, 740, 741, 742, 743, 723, 724, 16, 178, 179, 180, 181, 182, 183, 184, 185, 186, 15, 187, 45, 246, 247, 248, 249, 48, 205, 143, 144, 145, 27, 146, 58, 250, 251, 759, 760, 761, 36, 762, 88, 763, 764, 765, 766, 90, 767, 509, 510, 511, 768, 140, 141, 142, 769, 770, 771, 772, 773, 774, 775, 776, 777, 192, 193, 194, 195, 196, 197, 198, 199, 200, 209, 210, 921, 922, 923, 924, 925, 926, 927, 928, 942, 943, 944, 950, 953, 954, 955] (by decide +kernel) (by decide +kernel)) (goodIn_sub (fun _ h => List.mem_append_right _ h) (by decide +kernel))) (goodIn_sub (fun _ h => List.mem_append_left _ (List.mem_append_left _ (List.mem_append_right _ h))) (by decide +kernel))
set_option maxRecDepth 20000 in
theorem gL_law_L_trussOf : GoodIn wsL_law (va_wsS RL 196 yL_trussOf wsL_trussOf) := goodIn_app (goodIn_of _ (by decide +kernel)) ggL_law_L_trussOf
set_option maxRecDepth 20000 in
theorem ggL_law_X8_trussOf : GoodIn wsL_law wsX8_trussOf := goodIn_r _ [781, 782, 783, 784, 5, 785, 111, 748, 749, 750, 751, 156, 219, 220, 221, 222, 105, 223, 224, 225, 265, 266, 267, 268, 269, 270, 271, 786, 787, 788, 789, 790, 791, 792, 793, 226, 227, 228, 929, 930, 931, 932, 933, 934, 935, 936, 937, 938, 939, 940, 941] (by decide +kernel) (by decide +kernel)
set_option maxRecDepth 20000 in
theorem gL_law_X8_trussOf : GoodIn wsL_law (wsV RL 198 RX8 yX8_trussOf wsX8_trussOf) := goodIn_app (goodIn_of _ (by decide +kernel)) ggL_law_X8_trussOf
set_option maxRecDepth 20000 in
theorem ggL_law_L_trussByRounds : GoodIn wsL_law wsL_trussByRounds := goodIn_ca (goodIn_ca (goodIn_r _ [796, 173, 718, 797, 798, 799, 2, 800, 37, 740, 741, 742, 743, 723, 724, 16, 178, 179, 180, 181, 182, 183, 184, 185, 186, 15, 187, 45, 246, 247, 248, 249, 48, 205, 143, 144, 145, 27, 146, 58, 250, 251, 801, 802, 803, 36, 804, 90, 805, 806, 548, 549, 550, 192, 193, 194, 195, 196, 197, 198, 199, 200, 807, 808, 809, 810, 89, 768, 140, 141, 142, 811, 812, 813, 814, 815, 816, 817, 818, 819, 820, 821, 822, 777, 823, 824, 825, 826, 827, 828, 55, 829, 921, 922, 923, 924, 925, 926, 927, 928, 942, 943, 944, 950, 953, 954, 955] (by decide +kernel) (by decide +kernel)) (goodIn_sub (fun _ h => List.mem_append_right _ h) (by decide +kernel))) (goodIn_sub (fun _ h => List.mem_append_left _ (List.mem_append_left _ (List.mem_append_right _ h))) (by decide +kernel))
set_option maxRecDepth 20000 in
theorem gL_law_L_trussByRounds : GoodIn wsL_law (va_wsS RL 199 yL_trussByRounds wsL_trussByRounds) := goodIn_app (goodIn_of _ (by decide +kernel)) ggL_law_L_trussByRounds
set_option maxRecDepth 20000 in
theorem ggL_law_X8_trussByRounds : GoodIn wsL_law wsX8_trussByRounds := goodIn_r _ [833, 782, 783, 784, 5, 785, 111, 748, 749, 750, 751, 156, 219, 220, 221, 222, 105, 223, 224, 225, 265, 266, 267, 268, 269, 270, 271, 786, 787, 788, 789, 790, 791, 792, 793, 226, 227, 228, 929, 930, 931, 932, 933, 934, 935, 936, 937, 938, 939, 940, 941] (by decide +kernel) (by decide +kernel)
set_option maxRecDepth 20000 in
theorem gL_law_X8_trussByRounds : GoodIn wsL_law (wsV RL 201 RX8 yX8_trussByRounds wsX8_trussByRounds) := goodIn_app (goodIn_of _ (by decide +kernel)) ggL_law_X8_trussByRounds
set_option maxRecDepth 20000 in
theorem ggL_law_L_trussSize : GoodIn wsL_law wsL_trussSize := goodIn_ca (goodIn_r _ [836, 235, 837, 838, 839, 2, 840, 37, 563, 564, 565, 566, 244, 245, 841, 842, 843, 36, 844, 88, 763, 764, 765, 766, 90, 767, 509, 510, 15, 511, 48, 143, 144, 145, 27, 146, 58, 768, 140, 141, 142, 769, 770, 771, 772, 773, 774, 775, 776, 777, 250, 251, 192, 193, 194, 195, 196, 197, 198, 199, 200, 209, 210, 921, 922, 923, 924, 925, 926, 927, 928, 953, 954, 955, 942, 943, 944, 950] (by decide +kernel) (by decide +kernel)) (goodIn_sub (fun _ h => List.mem_append_left _ (List.mem_append_right _ h)) (by decide +kernel))
set_option maxRecDepth 20000 in
theorem gL_law_L_trussSize : GoodIn wsL_law (va_wsS RL 202 yL_trussSize wsL_trussSize) := goodIn_app (goodIn_of _ (by decide +kernel)) ggL_law_L_trussSize
set_option maxRecDepth 20000 in
theorem ggL_law_X8_trussSize : GoodIn wsL_law wsX8_trussSize := goodIn_r _ [848, 584, 585, 586, 5, 587, 156, 223, 224, 225, 849, 850, 851, 852, 105, 111, 786, 787, 788, 789, 269, 270, 271, 790, 791, 792, 793, 226, 227, 228, 929, 930, 931, 932, 933, 934, 935, 936, 937, 938, 939, 940, 941] (by decide +kernel) (by decide +kernel)
set_option maxRecDepth 20000 in
theorem gL_law_X8_trussSize : GoodIn wsL_law (wsV RL 204 RX8 yX8_trussSize wsX8_trussSize) := goodIn_app (goodIn_of _ (by decide +kernel)) ggL_law_X8_trussSize
set_option maxRecDepth 20000 in
theorem ggL_law_L_colorOf : GoodIn wsL_law wsL_colorOf := goodIn_ca (goodIn_r _ [855, 173, 856, 857, 858, 2, 859, 41, 178, 179, 180, 181, 182, 183, 16, 184, 185, 186, 15, 187, 45, 860, 861, 862, 40, 863, 98, 864, 865, 866, 867, 99, 97, 664, 665, 666, 667, 668, 568, 569, 570, 209, 210, 669, 670, 671, 672, 673, 509, 510, 511, 48, 143, 144, 145, 27, 146, 58, 192, 193, 194, 195, 196, 197, 198, 199, 200, 250, 251, 674, 140, 141, 142, 675, 868, 869, 870, 871, 921, 922, 923, 924, 925, 926, 927, 928, 942, 943, 944, 956, 957, 958, 950] (by decide +kernel) (by decide +kernel)) (goodIn_sub (fun _ h => List.mem_append_left _ (List.mem_append_left _ (List.mem_append_right _ h))) (by decide +kernel))
set_option maxRecDepth 20000 in
theorem gL_law_L_colorOf : GoodIn wsL_law (va_wsS RL 205 yL_colorOf wsL_colorOf) := goodIn_app (goodIn_of _ (by decide +kernel)) ggL_law_L_colorOf
set_option maxRecDepth 20000 in
theorem ggL_law_X8_colorOf : GoodIn wsL_law wsX8_colorOf := goodIn_r _ [875, 110, 215, 216, 217, 5, 218, 156, 219, 220, 221, 222, 105, 223, 224, 225, 876, 877, 878, 879, 109, 680, 681, 682, 683, 592, 593, 594, 595, 269, 270, 271, 226, 227, 228, 929, 930, 931, 932, 933, 934, 935, 936, 937, 938, 939, 940, 941] (by decide +kernel) (by decide +kernel)
set_option maxRecDepth 20000 in
theorem gL_law_X8_colorOf : GoodIn wsL_law (wsV RL 207 RX8 yX8_colorOf wsX8_colorOf) := goodIn_app (goodIn_of _ (by decide +kernel)) ggL_law_X8_colorOf
set_option maxRecDepth 20000 in
theorem ggL_law_X7_colors : GoodIn wsL_law wsX7_colors := goodIn_r _ [883, 41, 884, 885, 886, 40, 887, 99, 98, 888, 54, 55, 56, 864, 865, 866, 867, 97, 664, 665, 666, 667, 668, 568, 569, 15, 570, 45, 209, 2, 210, 669, 670, 671, 672, 673, 509, 510, 511, 48, 143, 144, 145, 27, 146, 58, 192, 193, 194, 195, 196, 197, 198, 199, 200, 250, 251, 674, 140, 141, 142, 675, 868, 869, 870, 871, 921, 922, 923, 924, 925, 926, 927, 928, 956, 957, 958, 942, 943, 944, 950] (by decide +kernel) (by decide +kernel)
set_option maxRecDepth 20000 in
theorem gL_law_X7_colors : GoodIn wsL_law (wsV RL 208 RX7 yX7_colors wsX7_colors) := goodIn_app (goodIn_of _ (by decide +kernel)) ggL_law_X7_colors
set_option maxRecDepth 20000 in
theorem ggL_law_X8_colors : GoodIn wsL_law wsX8_colors := goodIn_r _ [892, 156, 105, 110, 876, 877, 878, 5, 879, 109, 680, 681, 682, 683, 592, 593, 594, 595, 269, 270, 271, 226, 227, 228, 929, 930, 931, 932, 933, 934, 935, 936, 937, 938, 939, 940, 941] (by decide +kernel) (by decide +kernel)
set_option maxRecDepth 20000 in
theorem gL_law_X8_colors : GoodIn wsL_law (wsV RL 211 RX8 yX8_colors wsX8_colors) := goodIn_app (goodIn_of _ (by decide +kernel)) ggL_law_X8_colors
set_option maxRecDepth 20000 in
theorem ggL_law_X7_greatestCore : GoodIn wsL_law wsX7_greatestCore := goodIn_r _ [896, 33, 897, 898, 899, 32, 900, 81, 611, 568, 569, 15, 570, 45, 209, 2, 210, 612, 572, 573, 574, 575, 576, 577, 578, 250, 251, 579, 509, 510, 511, 48, 143, 144, 145, 27, 146, 58, 192, 193, 194, 195, 196, 197, 198, 199, 200, 921, 922, 923, 924, 925, 926, 927, 928, 951, 952, 942, 943, 944, 950] (by decide +kernel) (by decide +kernel)
set_option maxRecDepth 20000 in
theorem gL_law_X7_greatestCore : GoodIn wsL_law (wsV RL 212 RX7 yX7_greatestCore wsX7_greatestCore) := goodIn_app (goodIn_of _ (by decide +kernel)) ggL_law_X7_greatestCore
set_option maxRecDepth 20000 in
theorem ggL_law_X8_greatestCore : GoodIn wsL_law wsX8_greatestCore := goodIn_r _ [904, 156, 105, 269, 270, 5, 271, 617, 618, 619, 620, 588, 589, 590, 591, 592, 593, 594, 595, 596, 597, 598, 599, 226, 227, 228, 929, 930, 931, 932, 933, 934, 935, 936, 937, 938, 939, 940, 941] (by decide +kernel) (by decide +kernel)
set_option maxRecDepth 20000 in
theorem gL_law_X8_greatestCore : GoodIn wsL_law (wsV RL 215 RX8 yX8_greatestCore wsX8_greatestCore) := goodIn_app (goodIn_of _ (by decide +kernel)) ggL_law_X8_greatestCore
set_option maxRecDepth 20000 in
theorem ggL_law_X7_averageNeighbors : GoodIn wsL_law wsX7_averageNeighbors := goodIn_r _ [908, 16, 488, 489, 490, 15, 491, 45, 492, 189, 190, 191, 48, 143, 144, 145, 27, 146, 58, 192, 2, 193, 194, 195, 196, 197, 198, 199, 200, 921, 922, 923, 924, 925, 926, 927, 928, 942, 943, 944, 950] (by decide +kernel) (by decide +kernel)
set_option maxRecDepth 20000 in
theorem gL_law_X7_averageNeighbors : GoodIn wsL_law (wsV RL 216 RX7 yX7_averageNeighbors wsX7_averageNeighbors) := goodIn_app (goodIn_of _ (by decide +kernel)) ggL_law_X7_averageNeighbors
set_option maxRecDepth 20000 in
theorem ggL_law_X8_averageNeighbors : GoodIn wsL_law wsX8_averageNeighbors := goodIn_r _ [912, 156, 105, 497, 498, 499, 5, 500, 226, 227, 228, 929, 930, 931, 932, 933, 934, 935, 936, 937, 938, 939, 940, 941] (by decide +kernel) (by decide +kernel)
set_option maxRecDepth 20000 in
theorem gL_law_X8_averageNeighbors : GoodIn wsL_law (wsV RL 220 RX8 yX8_averageNeighbors wsX8_averageNeighbors) := goodIn_app (goodIn_of _ (by decide +kernel)) ggL_law_X8_averageNeighbors
set_option maxRecDepth 20000 in
theorem ggL_law_X7_historySize : GoodIn wsL_law wsX7_historySize := goodIn_r _ [916, 24, 921, 922, 923, 924, 925, 926, 927, 928, 947, 948, 949] (by decide +kernel) (by decide +kernel)
set_option maxRecDepth 20000 in
theorem gL_law_X7_historySize : GoodIn wsL_law (wsV RL 221 RX7 yX7_historySize wsX7_historySize) := goodIn_app (goodIn_of _ (by decide +kernel)) ggL_law_X7_historySize
set_option maxRecDepth 20000 in
theorem ggL_law_X8_historySize : GoodIn wsL_law wsX8_historySize := goodIn_r _ [920, 156, 165, 929, 930, 931, 932, 933, 934, 935, 936, 937, 938, 939, 940, 941] (by decide +kernel) (by decide +kernel)
set_option maxRecDepth 20000 in
theorem gL_law_X8_historySize : GoodIn wsL_law (wsV RL 224 RX8 yX8_historySize wsX8_historySize) := goodIn_app (goodIn_of _ (by decide +kernel)) ggL_law_X8_historySize
theorem dL_law_0 : decode cL_law 0 = .ok (.new 8, 3) := by decide +kernel
theorem dL_law_3 : decode cL_law 3 = .ok (.dup, 1) := by decide +kernel
theorem dL_law_4 : decode cL_law 4 = .ok (.invokespecial 94, 3) := by decide +kernel
theorem dL_law_7 : decode cL_law 7 = .ok (.astore_n 1, 1) := by decide +kernel
theorem dL_law_8 : decode cL_law 8 = .ok (.new 95, 3) := by decide +kernel
theorem dL_law_11 : decode cL_law 11 = .ok (.dup, 1) := by decide +kernel
theorem dL_law_12 : decode cL_law 12 = .ok (.invokespecial 97, 3) := by decide +kernel
theorem dL_law_15 : decode cL_law 15 = .ok (.astore_n 2, 1) := by decide +kernel
theorem dL_law_16 : decode cL_law 16 = .ok (.iconst 1, 1) := by decide +kernel
theorem dL_law_17 : decode cL_law 17 = .ok (.newarray .long, 2) := by decide +kernel
theorem dL_law_19 : decode cL_law 19 = .ok (.astore_n 3, 1) := by decide +kernel
theorem dL_law_20 : decode cL_law 20 = .ok (.iconst 0, 1) := by decide +kernel
theorem dL_law_21 : decode cL_law 21 = .ok (.istore 4, 2) := by decide +kernel
theorem dL_law_23 : decode cL_law 23 = .ok (.iload 4, 2) := by decide +kernel
theorem dL_law_25 : decode cL_law 25 = .ok (.aload_n 0, 1) := by decide +kernel
theorem dL_law_26 : decode cL_law 26 = .ok (.arraylength, 1) := by decide +kernel
theorem dL_law_27 : decode cL_law 27 = .ok (.iconst 3, 1) := by decide +kernel
theorem dL_law_28 : decode cL_law 28 = .ok (.isub, 1) := by decide +kernel
theorem dL_law_29 : decode cL_law 29 = .ok (.if_icmp .gt 1714, 3) := by decide +kernel
theorem dL_law_32 : decode cL_law 32 = .ok (.aload_n 0, 1) := by decide +kernel
theorem dL_law_33 : decode cL_law 33 = .ok (.iload 4, 2) := by decide +kernel
theorem dL_law_35 : decode cL_law 35 = .ok (.iaload, 1) := by decide +kernel
theorem dL_law_36 : decode cL_law 36 = .ok (.bipush 63, 2) := by decide +kernel
theorem dL_law_38 : decode cL_law 38 = .ok (.iand, 1) := by decide +kernel
theorem dL_law_39 : decode cL_law 39 = .ok (.tableswitch 1698 0 34 #[153, 197, 253, 321, 389, 452, 496, 554, 567, 580, 624, 668, 681, 725, 738, 751, 807, 870, 883, 896, 952, 1008, 1064, 1120, 1176, 1244, 1300, 1368, 1436, 1504, 1560, 1616, 1629, 1642, 1685], 153) := by decide +kernel
theorem dL_law_192 : decode cL_law 192 = .ok (.aload_n 1, 1) := by decide +kernel
theorem dL_law_193 : decode cL_law 193 = .ok (.aload_n 3, 1) := by decide +kernel
theorem dL_law_194 : decode cL_law 194 = .ok (.invokestatic 98, 3) := by decide +kernel
theorem dL_law_197 : decode cL_law 197 = .ok (.istore 5, 2) := by decide +kernel
theorem dL_law_199 : decode cL_law 199 = .ok (.aload_n 2, 1) := by decide +kernel
theorem dL_law_200 : decode cL_law 200 = .ok (.invokevirtual 103, 3) := by decide +kernel
theorem dL_law_203 : decode cL_law 203 = .ok (.istore 6, 2) := by decide +kernel
theorem dL_law_205 : decode cL_law 205 = .ok (.aload_n 2, 1) := by decide +kernel
theorem dL_law_206 : decode cL_law 206 = .ok (.invokevirtual 104, 3) := by decide +kernel
theorem dL_law_209 : decode cL_law 209 = .ok (.iload 5, 2) := by decide +kernel
theorem dL_law_211 : decode cL_law 211 = .ok (.if_icmp .eq 5, 3) := by decide +kernel
theorem dL_law_214 : decode cL_law 214 = .ok (.iconst 0, 1) := by decide +kernel
theorem dL_law_215 : decode cL_law 215 = .ok (.ireturn, 1) := by decide +kernel
theorem dL_law_216 : decode cL_law 216 = .ok (.iload 5, 2) := by decide +kernel
theorem dL_law_218 : decode cL_law 218 = .ok (.ifCond .ne 15, 3) := by decide +kernel
theorem dL_law_221 : decode cL_law 221 = .ok (.aload_n 3, 1) := by decide +kernel
theorem dL_law_222 : decode cL_law 222 = .ok (.iconst 0, 1) := by decide +kernel
