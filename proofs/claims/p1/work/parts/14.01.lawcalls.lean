set_option maxRecDepth 20000 in
theorem ggL_law_X4_put : GoodIn wsL_law wsX4_put := goodIn_r _ [166, 14, 167, 168, 64, 65, 66, 2, 67, 169, 170, 171, 63, 172, 72, 85, 173, 174, 175, 176, 177, 178, 179, 180, 83, 181, 182, 183, 184, 185, 186, 187, 188, 189, 190, 91, 86, 92, 191, 192, 193, 194, 195, 196, 197, 198, 199, 90, 78, 200, 201, 202, 203, 204, 205, 21, 206, 207, 208, 209, 210, 211, 212, 213, 214, 215, 216, 217, 218, 219, 220, 221, 222, 223, 224, 225, 226, 227, 228, 229, 230, 231, 232, 233, 234, 235, 236, 237, 238, 239, 240, 241, 242, 243, 244, 245, 246, 247, 248, 249, 250, 251, 252, 253, 254, 255, 256, 257, 258, 259, 260, 261, 262, 263, 264, 265, 266, 267, 268, 269, 270, 271, 272, 273, 274, 275, 276, 87, 73, 74, 75, 76, 277, 278, 279, 280, 88, 89, 84, 281, 512, 513, 514, 543, 544, 545, 546, 547, 548, 549, 550, 551, 552, 553, 554, 555, 556, 557, 558, 540, 541, 542] (by decide +kernel) (by decide +kernel)
set_option maxRecDepth 20000 in
theorem gL_law_X4_put : GoodIn wsL_law (wsV RL 20 RX4 yX4_put wsX4_put) := goodIn_app (goodIn_of _ (by decide +kernel)) ggL_law_X4_put
set_option maxRecDepth 20000 in
theorem ggL_law_X4_pour : GoodIn wsL_law wsX4_pour := goodIn_r _ [293, 18, 294, 14, 167, 295, 188, 189, 190, 64, 65, 66, 2, 67, 169, 170, 171, 63, 172, 72, 85, 296, 297, 298, 17, 299, 29, 28, 173, 174, 175, 176, 177, 178, 179, 180, 83, 181, 182, 183, 184, 185, 186, 187, 91, 86, 92, 191, 192, 193, 194, 195, 196, 197, 198, 199, 90, 78, 200, 201, 202, 203, 204, 205, 21, 206, 207, 208, 209, 210, 211, 212, 213, 214, 215, 216, 217, 218, 219, 220, 221, 222, 223, 224, 225, 226, 227, 228, 229, 230, 231, 232, 233, 234, 235, 236, 237, 238, 239, 240, 241, 242, 243, 244, 245, 246, 247, 248, 249, 250, 251, 252, 253, 254, 255, 256, 257, 258, 259, 260, 261, 262, 263, 264, 265, 266, 267, 268, 269, 270, 271, 272, 273, 274, 275, 276, 87, 73, 74, 75, 76, 277, 278, 279, 280, 88, 89, 84, 281, 512, 513, 514, 538, 539, 543, 544, 545, 546, 547, 548, 549, 550, 551, 552, 553, 554, 555, 556, 557, 558, 540, 541, 542] (by decide +kernel) (by decide +kernel)
set_option maxRecDepth 20000 in
theorem gL_law_X4_pour : GoodIn wsL_law (wsV RL 25 RX4 yX4_pour wsX4_pour) := goodIn_app (goodIn_of _ (by decide +kernel)) ggL_law_X4_pour
set_option maxRecDepth 20000 in
theorem ggL_law_X5_about : GoodIn wsL_law wsX5_about := goodIn_r _ [323, 38, 41, 44, 49, 50, 51, 39, 52, 54, 53, 97, 98, 5, 99, 515, 516, 517, 518, 519, 520, 521, 522, 523, 524, 525, 526, 527, 528, 529, 530, 531, 532, 533, 534, 535, 536, 537] (by decide +kernel) (by decide +kernel)
set_option maxRecDepth 20000 in
theorem gL_law_X5_about : GoodIn wsL_law (wsV RL 39 RX5 yX5_about wsX5_about) := goodIn_app (goodIn_of _ (by decide +kernel)) ggL_law_X5_about
set_option maxRecDepth 20000 in
theorem ggL_law_X4_sign : GoodIn wsL_law wsX4_sign := goodIn_r _ [327, 328, 329, 330, 331, 2, 332, 14, 64, 65, 66, 67, 333, 334, 335, 63, 336, 87, 543, 544, 545, 546, 547, 548, 549, 550, 551, 552, 553, 554, 555, 556, 557, 558, 512, 513, 514] (by decide +kernel) (by decide +kernel)
set_option maxRecDepth 20000 in
theorem gL_law_X4_sign : GoodIn wsL_law (wsV RL 40 RX4 yX4_sign wsX4_sign) := goodIn_app (goodIn_of _ (by decide +kernel)) ggL_law_X4_sign
set_option maxRecDepth 20000 in
theorem ggL_law_X4_placed : GoodIn wsL_law wsX4_placed := goodIn_r _ [348, 349, 350, 351, 329, 330, 331, 2, 332, 14, 64, 65, 66, 67, 333, 334, 335, 63, 336, 87, 543, 544, 545, 546, 547, 548, 549, 550, 551, 552, 553, 554, 555, 556, 557, 558, 512, 513, 514] (by decide +kernel) (by decide +kernel)
set_option maxRecDepth 20000 in
theorem gL_law_X4_placed : GoodIn wsL_law (wsV RL 44 RX4 yX4_placed wsX4_placed) := goodIn_app (goodIn_of _ (by decide +kernel)) ggL_law_X4_placed
set_option maxRecDepth 20000 in
theorem ggL_law_X4_write : GoodIn wsL_law wsX4_write := goodIn_r _ [371, 14, 372, 168, 18, 294, 328, 64, 65, 66, 2, 67, 373, 374, 375, 376, 377, 378, 379, 380, 381, 382, 383, 384, 385, 63, 386, 73, 387, 388, 389, 17, 390, 391, 392, 393, 233, 394, 235, 247, 395, 396, 397, 398, 399, 400, 401, 402, 403, 404, 405, 406, 29, 28, 407, 408, 409, 410, 411, 412, 413, 414, 415, 416, 417, 418, 419, 420, 248, 512, 513, 514, 543, 544, 545, 546, 547, 548, 549, 550, 551, 552, 553, 554, 555, 556, 557, 558, 538, 539] (by decide +kernel) (by decide +kernel)
set_option maxRecDepth 20000 in
theorem gL_law_X4_write : GoodIn wsL_law (wsV RL 52 RX4 yX4_write wsX4_write) := goodIn_app (goodIn_of _ (by decide +kernel)) ggL_law_X4_write
set_option maxRecDepth 20000 in
theorem ggL_law_X4_size : GoodIn wsL_law wsX4_size := goodIn_r _ [452, 14, 168, 64, 65, 66, 2, 67, 373, 374, 375, 383, 384, 385, 63, 386, 73, 377, 378, 379, 380, 381, 382, 512, 513, 514, 543, 544, 545, 546, 547, 548, 549, 550, 551, 552, 553, 554, 555, 556, 557, 558] (by decide +kernel) (by decide +kernel)
set_option maxRecDepth 20000 in
theorem gL_law_X4_size : GoodIn wsL_law (wsV RL 57 RX4 yX4_size wsX4_size) := goodIn_app (goodIn_of _ (by decide +kernel)) ggL_law_X4_size
set_option maxRecDepth 20000 in
theorem ggL_law_X4_out : GoodIn wsL_law wsX4_out := goodIn_r _ [460, 18, 296, 297, 298, 17, 299, 29, 28, 512, 513, 514, 538, 539] (by decide +kernel) (by decide +kernel)
set_option maxRecDepth 20000 in
theorem gL_law_X4_out : GoodIn wsL_law (wsV RL 62 RX4 yX4_out wsX4_out) := goodIn_app (goodIn_of _ (by decide +kernel)) ggL_law_X4_out
