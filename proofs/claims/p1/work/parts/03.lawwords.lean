set_option maxRecDepth 20000 in
theorem lq_wsL_law_r1 : ∀ w ∈ wsL_law_r1, w ∈ lw_tbl := fun w h => (goodIn_r wsL_law_r1 [47, 48, 40, 428, 429, 43, 660, 49, 50, 51, 52, 53, 54, 55, 94, 57, 58, 41, 95, 73, 74, 42, 96, 59] (by decide +kernel) (by decide +kernel) w h).1
set_option maxRecDepth 20000 in
theorem lq_wsL_law_r2 : ∀ w ∈ wsL_law_r2, w ∈ lw_tbl := fun w h => (goodIn_r wsL_law_r2 [60, 61, 62, 72, 63, 65, 76, 77, 78, 430, 431, 432, 433, 504, 434, 435, 436, 437, 438, 439, 440, 441, 442, 443] (by decide +kernel) (by decide +kernel) w h).1
set_option maxRecDepth 20000 in
theorem lq_wsL_law_r3 : ∀ w ∈ wsL_law_r3, w ∈ lw_tbl := fun w h => (goodIn_r wsL_law_r3 [444, 445, 446, 447, 448, 449, 450, 451, 453, 452, 104, 105, 106, 107, 112, 44, 108, 110, 0, 111, 113, 114, 115, 116] (by decide +kernel) (by decide +kernel) w h).1
set_option maxRecDepth 20000 in
theorem lq_wsL_law_r4 : ∀ w ∈ wsL_law_r4, w ∈ lw_tbl := fun w h => (goodIn_r wsL_law_r4 [119, 120, 122, 124, 126, 117, 128, 174, 175, 176, 177, 129, 130, 131, 132, 133, 135, 136, 137, 138, 139, 505, 506, 507] (by decide +kernel) (by decide +kernel) w h).1
set_option maxRecDepth 20000 in
theorem lq_wsL_law_r5 : ∀ w ∈ wsL_law_r5, w ∈ lw_tbl := fun w h => (goodIn_r wsL_law_r5 [508, 509, 510, 511, 512, 514, 19, 515, 455, 454, 572, 516, 518, 20, 519, 520, 522, 21, 523, 524, 526, 22, 527, 562] (by decide +kernel) (by decide +kernel) w h).1
set_option maxRecDepth 20000 in
theorem lq_wsL_law_r6 : ∀ w ∈ wsL_law_r6, w ∈ lw_tbl := fun w h => (goodIn_r wsL_law_r6 [556, 563, 528, 530, 23, 531, 532, 534, 24, 535, 536, 538, 25, 539, 540, 541, 542, 543, 545, 26, 546, 547, 549, 27] (by decide +kernel) (by decide +kernel) w h).1
set_option maxRecDepth 20000 in
theorem lq_wsL_law_r7 : ∀ w ∈ wsL_law_r7, w ∈ lw_tbl := fun w h => (goodIn_r wsL_law_r7 [550, 555, 557, 551, 553, 28, 554, 558, 560, 29, 561, 564, 566, 30, 567, 568, 570, 31, 571, 178, 179, 180, 181, 140] (by decide +kernel) (by decide +kernel) w h).1
set_option maxRecDepth 20000 in
theorem lq_wsL_law_r8 : ∀ w ∈ wsL_law_r8, w ∈ lw_tbl := fun w h => (goodIn_r wsL_law_r8 [134, 182, 183, 184, 185, 186, 187, 188, 189, 190, 191, 192, 193, 194, 196, 1, 197, 198, 200, 202, 203, 45, 204, 205] (by decide +kernel) (by decide +kernel) w h).1
set_option maxRecDepth 20000 in
theorem lq_wsL_law_r9 : ∀ w ∈ wsL_law_r9, w ∈ lw_tbl := fun w h => (goodIn_r wsL_law_r9 [207, 2, 208, 209, 211, 213, 3, 214, 85, 80, 83, 215, 216, 217, 218, 84, 219, 221, 4, 222, 79, 82, 223, 225] (by decide +kernel) (by decide +kernel) w h).1
set_option maxRecDepth 20000 in
theorem lq_wsL_law_r10 : ∀ w ∈ wsL_law_r10, w ∈ lw_tbl := fun w h => (goodIn_r wsL_law_r10 [5, 226, 227, 228, 229, 230, 232, 6, 233, 234, 235, 236, 237, 238, 239, 240, 241, 46, 242, 243, 244, 245, 247, 7] (by decide +kernel) (by decide +kernel) w h).1
set_option maxRecDepth 20000 in
theorem lq_wsL_law_r11 : ∀ w ∈ wsL_law_r11, w ∈ lw_tbl := fun w h => (goodIn_r wsL_law_r11 [248, 249, 251, 253, 254, 255, 256, 257, 258, 259, 261, 8, 262, 263, 265, 9, 266, 267, 268, 269, 270, 271, 272, 273] (by decide +kernel) (by decide +kernel) w h).1
set_option maxRecDepth 20000 in
theorem lq_wsL_law_r12 : ∀ w ∈ wsL_law_r12, w ∈ lw_tbl := fun w h => (goodIn_r wsL_law_r12 [274, 276, 10, 277, 278, 279, 280, 281, 282, 283, 285, 11, 286, 287, 289, 12, 290, 291, 573, 574, 575, 576, 577, 579] (by decide +kernel) (by decide +kernel) w h).1
set_option maxRecDepth 20000 in
theorem lq_wsL_law_r13 : ∀ w ∈ wsL_law_r13, w ∈ lw_tbl := fun w h => (goodIn_r wsL_law_r13 [32, 580, 292, 293, 294, 295, 66, 296, 297, 298, 299, 300, 581, 582, 583, 584, 301, 302, 303, 304, 585, 586, 587, 588] (by decide +kernel) (by decide +kernel) w h).1
set_option maxRecDepth 20000 in
theorem lq_wsL_law_r14 : ∀ w ∈ wsL_law_r14, w ∈ lw_tbl := fun w h => (goodIn_r wsL_law_r14 [305, 306, 307, 308, 309, 310, 311, 312, 589, 590, 591, 592, 313, 314, 315, 316, 121, 317, 319, 13, 320, 321, 322, 323] (by decide +kernel) (by decide +kernel) w h).1
set_option maxRecDepth 20000 in
theorem lq_wsL_law_r15 : ∀ w ∈ wsL_law_r15, w ∈ lw_tbl := fun w h => (goodIn_r wsL_law_r15 [324, 593, 594, 595, 596, 597, 599, 33, 600, 325, 326, 327, 328, 123, 125, 127, 601, 602, 603, 604, 329, 330, 331, 332] (by decide +kernel) (by decide +kernel) w h).1
set_option maxRecDepth 20000 in
theorem lq_wsL_law_r16 : ∀ w ∈ wsL_law_r16, w ∈ lw_tbl := fun w h => (goodIn_r wsL_law_r16 [333, 334, 335, 336, 605, 606, 607, 608, 337, 338, 339, 340, 344, 341, 342, 343, 345, 346, 347, 348, 349, 350, 351, 352] (by decide +kernel) (by decide +kernel) w h).1
set_option maxRecDepth 20000 in
theorem lq_wsL_law_r17 : ∀ w ∈ wsL_law_r17, w ∈ lw_tbl := fun w h => (goodIn_r wsL_law_r17 [353, 354, 355, 357, 358, 359, 360, 361, 362, 363, 364, 365, 367, 14, 368, 370, 372, 15, 373, 374, 376, 16, 377, 378] (by decide +kernel) (by decide +kernel) w h).1
set_option maxRecDepth 20000 in
theorem lq_wsL_law_r18 : ∀ w ∈ wsL_law_r18, w ∈ lw_tbl := fun w h => (goodIn_r wsL_law_r18 [379, 380, 381, 383, 17, 384, 385, 387, 18, 388, 389, 390, 391, 609, 610, 611, 612, 616, 456, 613, 614, 615, 617, 618] (by decide +kernel) (by decide +kernel) w h).1
set_option maxRecDepth 20000 in
theorem lq_wsL_law_r19 : ∀ w ∈ wsL_law_r19, w ∈ lw_tbl := fun w h => (goodIn_r wsL_law_r19 [619, 620, 622, 34, 623, 624, 626, 35, 627, 628, 630, 36, 631, 632, 634, 37, 635, 392, 393, 394, 395, 636, 637, 638] (by decide +kernel) (by decide +kernel) w h).1
set_option maxRecDepth 20000 in
theorem lq_wsL_law_r20 : ∀ w ∈ wsL_law_r20, w ∈ lw_tbl := fun w h => (goodIn_r wsL_law_r20 [639, 396, 397, 398, 399, 640, 641, 642, 643, 400, 401, 402, 403, 64, 81, 86, 404, 644, 645, 646, 647, 405, 406, 407] (by decide +kernel) (by decide +kernel) w h).1
set_option maxRecDepth 20000 in
theorem lq_wsL_law_r21 : ∀ w ∈ wsL_law_r21, w ∈ lw_tbl := fun w h => (goodIn_r wsL_law_r21 [408, 409, 410, 411, 412, 413, 414, 415, 416, 417, 418, 419, 648, 649, 650, 651, 652, 654, 38, 655, 420, 421, 422, 423] (by decide +kernel) (by decide +kernel) w h).1
set_option maxRecDepth 20000 in
theorem lq_wsL_law_r22 : ∀ w ∈ wsL_law_r22, w ∈ lw_tbl := fun w h => (goodIn_r wsL_law_r22 [424, 425, 426, 427, 656, 657, 658, 659] (by decide +kernel) (by decide +kernel) w h).1
set_option maxRecDepth 20000 in
theorem lq_wsX10 : ∀ w ∈ wsX10, w ∈ lw_tbl := fun w h => (goodIn_r wsX10 [67, 69] (by decide +kernel) (by decide +kernel) w h).1
set_option maxRecDepth 20000 in
theorem lq_wsX20 : ∀ w ∈ wsX20, w ∈ lw_tbl := fun w h => (goodIn_r wsX20 [87, 89, 91] (by decide +kernel) (by decide +kernel) w h).1
set_option maxRecDepth 20000 in
theorem lq_wsX30 : ∀ w ∈ wsX30, w ∈ lw_tbl := fun w h => (goodIn_r wsX30 [141, 143, 145, 147, 149, 151, 153, 155, 157, 159, 161, 163, 165, 167, 169, 171] (by decide +kernel) (by decide +kernel) w h).1
set_option maxRecDepth 20000 in
theorem lq_wsX40 : ∀ w ∈ wsX40, w ∈ lw_tbl := fun w h => (goodIn_r wsX40 [97, 99, 101] (by decide +kernel) (by decide +kernel) w h).1
set_option maxRecDepth 20000 in
theorem lq_wsX50 : ∀ w ∈ wsX50, w ∈ lw_tbl := fun w h => (goodIn_r wsX50 [457, 459, 461, 463, 465, 467, 469, 471, 473, 475, 477, 479, 481, 483, 485, 487, 489, 491, 493, 495, 497, 499, 501] (by decide +kernel) (by decide +kernel) w h).1
theorem wsL_law_in : ∀ w ∈ wsL_law, w ∈ lw_tbl := (fun w h => (List.mem_append.mp h).elim ((fun w h => (List.mem_append.mp h).elim ((fun w h => (List.mem_append.mp h).elim ((fun w h => (List.mem_append.mp h).elim ((fun w h => (List.mem_append.mp h).elim ((fun w h => (List.mem_append.mp h).elim ((fun w h => (List.mem_append.mp h).elim (lq_wsL_law_r1 w) ((fun w h => (List.mem_append.mp h).elim (lq_wsL_law_r2 w) ((fun w h => (List.mem_append.mp h).elim (lq_wsL_law_r3 w) ((fun w h => (List.mem_append.mp h).elim (lq_wsL_law_r4 w) ((fun w h => (List.mem_append.mp h).elim (lq_wsL_law_r5 w) ((fun w h => (List.mem_append.mp h).elim (lq_wsL_law_r6 w) ((fun w h => (List.mem_append.mp h).elim (lq_wsL_law_r7 w) ((fun w h => (List.mem_append.mp h).elim (lq_wsL_law_r8 w) ((fun w h => (List.mem_append.mp h).elim (lq_wsL_law_r9 w) ((fun w h => (List.mem_append.mp h).elim (lq_wsL_law_r10 w) ((fun w h => (List.mem_append.mp h).elim (lq_wsL_law_r11 w) ((fun w h => (List.mem_append.mp h).elim (lq_wsL_law_r12 w) ((fun w h => (List.mem_append.mp h).elim (lq_wsL_law_r13 w) ((fun w h => (List.mem_append.mp h).elim (lq_wsL_law_r14 w) ((fun w h => (List.mem_append.mp h).elim (lq_wsL_law_r15 w) ((fun w h => (List.mem_append.mp h).elim (lq_wsL_law_r16 w) ((fun w h => (List.mem_append.mp h).elim (lq_wsL_law_r17 w) ((fun w h => (List.mem_append.mp h).elim (lq_wsL_law_r18 w) ((fun w h => (List.mem_append.mp h).elim (lq_wsL_law_r19 w) ((fun w h => (List.mem_append.mp h).elim (lq_wsL_law_r20 w) ((fun w h => (List.mem_append.mp h).elim (lq_wsL_law_r21 w) (lq_wsL_law_r22 w)) w)) w)) w)) w)) w)) w)) w)) w)) w)) w)) w)) w)) w)) w)) w)) w)) w)) w)) w)) w)) w) (lq_wsX40 w)) w) (lq_wsX50 w)) w) (lq_wsX10 w)) w) (lq_wsX20 w)) w) (lq_wsX30 w)) w) ((fun _ h => absurd h List.not_mem_nil : ∀ w ∈ ([] : List Cond), w ∈ lw_tbl) w))
theorem inlX1 : ∀ w ∈ wsX10, w ∈ wsL_law := fun _ h => List.mem_append_left _ (List.mem_append_left _ (List.mem_append_left _ (List.mem_append_right _ h)))
theorem inX1 : ∀ w ∈ wsX10, w ∈ lw_tbl := fun w h => wsL_law_in w (inlX1 w h)
theorem inlX2 : ∀ w ∈ wsX20, w ∈ wsL_law := fun _ h => List.mem_append_left _ (List.mem_append_left _ (List.mem_append_right _ h))
theorem inX2 : ∀ w ∈ wsX20, w ∈ lw_tbl := fun w h => wsL_law_in w (inlX2 w h)
theorem inlX3 : ∀ w ∈ wsX30, w ∈ wsL_law := fun _ h => List.mem_append_left _ (List.mem_append_right _ h)
theorem inX3 : ∀ w ∈ wsX30, w ∈ lw_tbl := fun w h => wsL_law_in w (inlX3 w h)
theorem inlX4 : ∀ w ∈ wsX40, w ∈ wsL_law := fun _ h => List.mem_append_left _ (List.mem_append_left _ (List.mem_append_left _ (List.mem_append_left _ (List.mem_append_left _ (List.mem_append_right _ h)))))
theorem inX4 : ∀ w ∈ wsX40, w ∈ lw_tbl := fun w h => wsL_law_in w (inlX4 w h)
theorem inlX5 : ∀ w ∈ wsX50, w ∈ wsL_law := fun _ h => List.mem_append_left _ (List.mem_append_left _ (List.mem_append_left _ (List.mem_append_left _ (List.mem_append_right _ h))))
theorem inX5 : ∀ w ∈ wsX50, w ∈ lw_tbl := fun w h => wsL_law_in w (inlX5 w h)
