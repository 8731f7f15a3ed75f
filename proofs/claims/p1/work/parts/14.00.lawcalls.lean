set_option maxRecDepth 20000 in
theorem ggL_law_X4_init : GoodIn wsL_law wsX4_init := goodIn_r _ [9, 10, 11, 12, 13, 14, 15, 16, 17, 18, 19, 20, 21, 22, 23, 24, 25, 26, 27, 28, 29, 30, 31, 32, 512, 513, 514, 538, 539, 540, 541, 542] (by decide +kernel) (by decide +kernel)
set_option maxRecDepth 20000 in
theorem gL_law_X4_init : GoodIn wsL_law (wsX4_init) := ggL_law_X4_init
set_option maxRecDepth 20000 in
theorem ggL_law_X4_open : GoodIn wsL_law wsX4_open := goodIn_r _ [61, 14, 13, 62, 63, 64, 65, 66, 2, 67, 68, 69, 70, 71, 11, 12, 27, 72, 73, 74, 75, 76, 77, 20, 21, 78, 30, 31, 32, 79, 80, 81, 82, 83, 84, 85, 86, 87, 88, 89, 90, 91, 92, 512, 513, 514, 543, 544, 545, 546, 547, 548, 549, 550, 551, 552, 553, 554, 555, 556, 557, 558, 540, 541, 542] (by decide +kernel) (by decide +kernel)
set_option maxRecDepth 20000 in
theorem gL_law_X4_open : GoodIn wsL_law (wsV RL 13 RX4 yX4_open wsX4_open) := goodIn_app (goodIn_of _ (by decide +kernel)) ggL_law_X4_open
set_option maxRecDepth 20000 in
theorem ggL_law_X4_end : GoodIn wsL_law wsX4_end := goodIn_r _ [307, 14, 167, 168, 64, 65, 66, 2, 67, 177, 178, 179, 63, 180, 83, 181, 182, 183, 184, 185, 186, 85, 187, 188, 189, 190, 91, 86, 92, 191, 192, 193, 194, 72, 195, 196, 197, 198, 199, 90, 78, 200, 201, 202, 203, 204, 205, 21, 206, 207, 208, 209, 210, 211, 212, 213, 214, 215, 216, 217, 218, 219, 220, 221, 222, 223, 224, 225, 226, 227, 228, 229, 230, 231, 232, 233, 234, 235, 236, 237, 238, 239, 240, 241, 242, 243, 244, 245, 246, 247, 248, 249, 250, 251, 252, 253, 254, 255, 256, 257, 258, 259, 260, 261, 262, 263, 264, 265, 266, 267, 268, 269, 270, 271, 272, 273, 274, 275, 276, 87, 73, 74, 75, 76, 277, 278, 279, 280, 88, 89, 84, 281, 512, 513, 514, 543, 544, 545, 546, 547, 548, 549, 550, 551, 552, 553, 554, 555, 556, 557, 558, 540, 541, 542] (by decide +kernel) (by decide +kernel)
set_option maxRecDepth 20000 in
theorem gL_law_X4_end : GoodIn wsL_law (wsV RL 30 RX4 yX4_end wsX4_end) := goodIn_app (goodIn_of _ (by decide +kernel)) ggL_law_X4_end
set_option maxRecDepth 20000 in
theorem ggL_law_X4_about : GoodIn wsL_law wsX4_about := goodIn_r _ [315, 14, 64, 65, 66, 2, 67, 316, 317, 318, 63, 319, 83, 85, 87, 88, 86, 92, 90, 91, 89, 512, 513, 514, 543, 544, 545, 546, 547, 548, 549, 550, 551, 552, 553, 554, 555, 556, 557, 558] (by decide +kernel) (by decide +kernel)
set_option maxRecDepth 20000 in
theorem gL_law_X4_about : GoodIn wsL_law (wsV RL 35 RX4 yX4_about wsX4_about) := goodIn_app (goodIn_of _ (by decide +kernel)) ggL_law_X4_about
set_option maxRecDepth 20000 in
theorem ggL_law_X4_at : GoodIn wsL_law wsX4_at := goodIn_r _ [359, 329, 330, 331, 2, 332, 14, 64, 65, 66, 67, 360, 361, 362, 63, 363, 87, 74, 75, 512, 513, 514, 543, 544, 545, 546, 547, 548, 549, 550, 551, 552, 553, 554, 555, 556, 557, 558] (by decide +kernel) (by decide +kernel)
set_option maxRecDepth 20000 in
theorem gL_law_X4_at : GoodIn wsL_law (wsV RL 48 RX4 yX4_at wsX4_at) := goodIn_app (goodIn_of _ (by decide +kernel)) ggL_law_X4_at
set_option maxRecDepth 20000 in
theorem ggL_law_X4_check : GoodIn wsL_law wsX4_check := goodIn_r _ [468, 18, 294, 22, 469, 470, 471, 373, 374, 2, 375, 472, 204, 205, 21, 206, 207, 208, 209, 210, 211, 212, 213, 214, 215, 216, 217, 218, 219, 220, 221, 222, 223, 224, 225, 226, 227, 228, 229, 230, 231, 232, 233, 234, 235, 236, 237, 238, 239, 240, 241, 242, 243, 244, 245, 246, 247, 248, 249, 250, 251, 252, 253, 254, 255, 256, 257, 258, 259, 260, 261, 262, 263, 264, 265, 266, 267, 268, 269, 270, 271, 272, 188, 189, 190, 512, 513, 514, 538, 539, 540, 541, 542] (by decide +kernel) (by decide +kernel)
set_option maxRecDepth 20000 in
theorem gL_law_X4_check : GoodIn wsL_law (wsV RL 66 RX4 yX4_check wsX4_check) := goodIn_app (goodIn_of _ (by decide +kernel)) ggL_law_X4_check
set_option maxRecDepth 20000 in
theorem ggL_law_X4_order : GoodIn wsL_law wsX4_order := goodIn_r _ [480, 14, 168, 295, 188, 189, 190, 328, 64, 65, 66, 2, 67, 481, 482, 483, 379, 484, 393, 233, 394, 235, 247, 485, 419, 420, 248, 486, 487, 488, 489, 490, 491, 512, 513, 514, 543, 544, 545, 546, 547, 548, 549, 550, 551, 552, 553, 554, 555, 556, 557, 558] (by decide +kernel) (by decide +kernel)
set_option maxRecDepth 20000 in
theorem gL_law_X4_order : GoodIn wsL_law (wsV RL 70 RX4 yX4_order wsX4_order) := goodIn_app (goodIn_of _ (by decide +kernel)) ggL_law_X4_order
set_option maxRecDepth 20000 in
theorem ggL_law_X4_among : GoodIn wsL_law wsX4_among := goodIn_r _ [503, 14, 64, 65, 66, 2, 67, 504, 505, 506, 63, 507, 87, 73, 512, 513, 514, 543, 544, 545, 546, 547, 548, 549, 550, 551, 552, 553, 554, 555, 556, 557, 558] (by decide +kernel) (by decide +kernel)
set_option maxRecDepth 20000 in
theorem gL_law_X4_among : GoodIn wsL_law (wsV RL 74 RX4 yX4_among wsX4_among) := goodIn_app (goodIn_of _ (by decide +kernel)) ggL_law_X4_among
