theorem wsL_law_x0 : ∀ w ∈ (vx_atS RX6 36 "java/lang/IllegalArgumentException" ["java/lang/RuntimeException", "java/lang/Exception"]).filter goodWord, w ∈ lw_tbl := by decide +kernel
theorem wsL_law_x1 : ∀ w ∈ (vx_atS RX6 67 "java/lang/IllegalStateException" ["java/lang/RuntimeException", "java/lang/Exception"]).filter goodWord, w ∈ lw_tbl := by decide +kernel
theorem wsL_law_x2 : ∀ w ∈ (vx_atS RX6 112 "java/lang/IndexOutOfBoundsException" ["java/lang/RuntimeException", "java/lang/Exception"]).filter goodWord, w ∈ lw_tbl := by decide +kernel
theorem wsL_law_in : ∀ w ∈ wsL_law, w ∈ lw_tbl := fun w h => (List.mem_append.mp h).elim (fun h => (List.mem_append.mp h).elim (fun h => (List.mem_append.mp h).elim (fun h => wsL_law_in0 w h) (fun h => wsL_law_x0 w h)) (fun h => wsL_law_x1 w h)) (fun h => wsL_law_x2 w h)
theorem inlX0 : ∀ w ∈ wsX00, w ∈ wsL_law := fun _ h => List.mem_append_left _ (List.mem_append_left _ (List.mem_append_left _ (List.mem_append_left _ (List.mem_append_right _ h))))
theorem inX0 : ∀ w ∈ wsX00, w ∈ lw_tbl := fun w h => wsL_law_in w (inlX0 w h)
theorem inlX1 : ∀ w ∈ wsX10, w ∈ wsL_law := fun _ h => List.mem_append_left _ (List.mem_append_left _ (List.mem_append_left _ (List.mem_append_left _ (List.mem_append_left _ (List.mem_append_right _ h)))))
theorem inX1 : ∀ w ∈ wsX10, w ∈ lw_tbl := fun w h => wsL_law_in w (inlX1 w h)
theorem inlX2 : ∀ w ∈ wsX20, w ∈ wsL_law := fun _ h => List.mem_append_left _ (List.mem_append_left _ (List.mem_append_left _ (List.mem_append_left _ (List.mem_append_left _ (List.mem_append_left _ (List.mem_append_left _ (List.mem_append_left _ (List.mem_append_right _ h))))))))
theorem inX2 : ∀ w ∈ wsX20, w ∈ lw_tbl := fun w h => wsL_law_in w (inlX2 w h)
theorem inX3 : ∀ w ∈ wsX30, w ∈ lw_tbl := by decide +kernel
theorem inlX4 : ∀ w ∈ wsX40, w ∈ wsL_law := fun _ h => List.mem_append_left _ (List.mem_append_left _ (List.mem_append_left _ (List.mem_append_left _ (List.mem_append_left _ (List.mem_append_left _ (List.mem_append_right _ h))))))
theorem inX4 : ∀ w ∈ wsX40, w ∈ lw_tbl := fun w h => wsL_law_in w (inlX4 w h)
theorem inlX5 : ∀ w ∈ wsX50, w ∈ wsL_law := fun _ h => List.mem_append_left _ (List.mem_append_left _ (List.mem_append_left _ (List.mem_append_left _ (List.mem_append_left _ (List.mem_append_left _ (List.mem_append_left _ (List.mem_append_right _ h)))))))
theorem inX5 : ∀ w ∈ wsX50, w ∈ lw_tbl := fun w h => wsL_law_in w (inlX5 w h)
theorem inlX6 : ∀ w ∈ wsX60, w ∈ wsL_law := fun _ h => List.mem_append_left _ (List.mem_append_left _ (List.mem_append_left _ (List.mem_append_left _ (List.mem_append_left _ (List.mem_append_left _ (List.mem_append_left _ (List.mem_append_left _ (List.mem_append_left _ (List.mem_append_right _ h)))))))))
theorem inX6 : ∀ w ∈ wsX60, w ∈ lw_tbl := fun w h => wsL_law_in w (inlX6 w h)
theorem inlX7 : ∀ w ∈ wsX70, w ∈ wsL_law := fun _ h => List.mem_append_left _ (List.mem_append_left _ (List.mem_append_left _ (List.mem_append_left _ (List.mem_append_left _ (List.mem_append_left _ (List.mem_append_left _ (List.mem_append_left _ (List.mem_append_left _ (List.mem_append_left _ (List.mem_append_right _ h))))))))))
theorem inX7 : ∀ w ∈ wsX70, w ∈ lw_tbl := fun w h => wsL_law_in w (inlX7 w h)
theorem inX8 : ∀ w ∈ wsX80, w ∈ lw_tbl := by decide +kernel
theorem inJx145de : ∀ w ∈ wsJx145de0, w ∈ lw_tbl := by decide +kernel
theorem inJ6 : ∀ w ∈ wsJ60, w ∈ lw_tbl := by decide +kernel
theorem inJ9 : ∀ w ∈ wsJ90, w ∈ lw_tbl := by decide +kernel
theorem inJ0 : ∀ w ∈ wsJ00, w ∈ lw_tbl := by decide +kernel
theorem inJ10 : ∀ w ∈ wsJ100, w ∈ lw_tbl := by decide +kernel
theorem inJ7 : ∀ w ∈ wsJ70, w ∈ lw_tbl := by decide +kernel
theorem dL_below_0 : decode cL_below 0 = .ok (.iload_n 0, 1) := by decide +kernel
theorem dL_below_1 : decode cL_below 1 = .ok (.ldc 7, 2) := by decide +kernel
theorem dL_below_3 : decode cL_below 3 = .ok (.iand, 1) := by decide +kernel
theorem dL_below_4 : decode cL_below 4 = .ok (.iload_n 1, 1) := by decide +kernel
theorem dL_below_5 : decode cL_below 5 = .ok (.irem, 1) := by decide +kernel
theorem dL_below_6 : decode cL_below 6 = .ok (.ireturn, 1) := by decide +kernel
theorem dL_cell_0 : decode cL_cell 0 = .ok (.iload_n 1, 1) := by decide +kernel
theorem dL_cell_1 : decode cL_cell 1 = .ok (.aload_n 0, 1) := by decide +kernel
theorem dL_cell_2 : decode cL_cell 2 = .ok (.arraylength, 1) := by decide +kernel
theorem dL_cell_3 : decode cL_cell 3 = .ok (.if_icmp .ge 9, 3) := by decide +kernel
theorem dL_cell_6 : decode cL_cell 6 = .ok (.aload_n 0, 1) := by decide +kernel
theorem dL_cell_7 : decode cL_cell 7 = .ok (.iload_n 1, 1) := by decide +kernel
theorem dL_cell_8 : decode cL_cell 8 = .ok (.iaload, 1) := by decide +kernel
theorem dL_cell_9 : decode cL_cell 9 = .ok (.goto 9, 3) := by decide +kernel
theorem dL_cell_12 : decode cL_cell 12 = .ok (.ldc 8, 2) := by decide +kernel
theorem dL_cell_14 : decode cL_cell 14 = .ok (.iload_n 1, 1) := by decide +kernel
theorem dL_cell_15 : decode cL_cell 15 = .ok (.iconst 3, 1) := by decide +kernel
theorem dL_cell_16 : decode cL_cell 16 = .ok (.iadd, 1) := by decide +kernel
theorem dL_cell_17 : decode cL_cell 17 = .ok (.imul, 1) := by decide +kernel
theorem dL_cell_18 : decode cL_cell 18 = .ok (.ireturn, 1) := by decide +kernel
set_option maxRecDepth 20000 in
theorem ggL_law_X7_init : GoodIn wsL_law wsX7_init := goodIn_r _ [13, 14, 15, 16, 17, 18, 19, 20, 21, 22, 23, 24, 25, 26, 27, 28, 29, 30, 31, 32, 33, 34, 35, 36, 37, 38, 39, 40, 41, 42, 43, 44, 45, 46, 47, 48, 49, 50, 51, 52, 53, 54, 55, 56, 57, 58, 59, 60, 6, 61, 62, 63, 64, 65, 66, 67, 68, 69, 70, 71, 72, 73, 74, 75, 76, 77, 78, 79, 80, 81, 82, 83, 84, 85, 86, 87, 88, 89, 90, 91, 635, 636, 637, 627, 628, 629, 630, 631, 632, 633, 634, 638, 639, 640, 641, 642, 643, 644, 645, 646, 647, 648, 649, 650, 651, 652, 653, 654] (by decide +kernel) (by decide +kernel)
set_option maxRecDepth 20000 in
theorem gL_law_X7_init : GoodIn wsL_law (wsX7_init) := ggL_law_X7_init
set_option maxRecDepth 20000 in
theorem ggL_law_X7_found : GoodIn wsL_law wsX7_found := goodIn_ca (goodIn_ca (goodIn_r _ [95, 96, 97, 98, 2, 99, 21, 22, 23, 26, 24, 25, 20, 100, 101, 102, 103, 27, 28, 104, 105, 106, 107, 108, 109, 110, 111, 112, 113, 19, 114, 115, 116, 36, 40, 117, 118, 119, 35, 120, 51, 52, 53, 54, 121, 122, 123, 50, 124, 125, 126, 127, 128, 39, 129, 68, 130, 131, 132, 133, 134, 69, 73, 135, 74, 136, 137, 138, 72, 139, 80, 140, 141, 142, 143, 144, 145, 146, 147, 148, 149, 150, 151, 152, 153, 154, 155, 156, 157, 158, 159, 160, 161, 162, 163, 164, 165, 166, 167, 168, 169, 170, 171, 172, 173, 174, 175, 176, 177, 178, 179, 180, 181, 182, 183, 184, 185, 186, 187, 188, 189, 190, 191, 192, 193, 194, 195, 196, 197, 198, 199, 200, 201, 202, 203, 204, 205, 206, 207, 208, 209, 210, 211, 212, 213, 214, 62, 215, 216, 217, 218, 219, 220, 221, 222, 223, 224, 225, 226, 227, 75, 228, 229, 230, 231, 232, 233, 234, 235, 236, 237, 238, 239, 240, 241, 242, 243, 244, 245, 246, 247, 248, 249, 250, 251, 252, 253, 254, 255, 256, 257, 258, 259, 260, 261, 262, 263, 264, 265, 266, 267, 268, 269, 270, 271, 272, 273, 274, 275, 276, 277, 278, 279, 280, 281, 282, 283, 284, 285, 286, 287, 288, 289, 290, 291, 292, 293, 294, 295, 296, 297, 298, 627, 628, 629, 630, 631, 632, 633, 634, 635, 636, 637, 638, 639, 640, 641, 652, 653, 642, 643, 644, 645, 646, 647, 654] (by decide +kernel) (by decide +kernel)) (goodIn_sub (fun _ h => List.mem_append_left _ (List.mem_append_left _ (List.mem_append_right _ h))) (by decide +kernel))) (goodIn_sub (fun _ h => List.mem_append_left _ (List.mem_append_right _ h)) (by decide +kernel))
set_option maxRecDepth 20000 in
theorem gL_law_X7_found : GoodIn wsL_law (wsV RL 18 RX7 yX7_found wsX7_found) := goodIn_app (goodIn_of _ (by decide +kernel)) ggL_law_X7_found
set_option maxRecDepth 20000 in
theorem ggL_law_X7_act : GoodIn wsL_law wsX7_act := goodIn_ca (goodIn_ca (goodIn_r _ [302, 100, 101, 102, 2, 103, 27, 28, 104, 105, 106, 107, 108, 109, 110, 164, 165, 166, 167, 23, 20, 168, 169, 170, 171, 21, 172, 173, 174, 22, 175, 176, 177, 178, 179, 180, 181, 19, 182, 183, 184, 36, 40, 185, 186, 187, 188, 115, 116, 189, 190, 191, 35, 192, 52, 193, 194, 146, 195, 196, 197, 198, 199, 200, 201, 202, 51, 203, 204, 205, 50, 206, 125, 207, 208, 209, 210, 211, 212, 213, 214, 62, 215, 216, 217, 39, 218, 68, 131, 132, 133, 134, 69, 73, 135, 74, 130, 122, 123, 124, 136, 137, 138, 72, 139, 80, 140, 141, 142, 143, 219, 220, 221, 222, 223, 224, 225, 226, 227, 75, 228, 229, 230, 231, 232, 233, 145, 147, 148, 149, 150, 234, 235, 236, 237, 238, 239, 240, 241, 242, 53, 54, 243, 244, 245, 246, 247, 248, 249, 250, 251, 252, 253, 254, 255, 256, 257, 258, 259, 260, 261, 262, 263, 264, 265, 266, 267, 268, 269, 270, 271, 272, 303, 304, 305, 306, 307, 308, 309, 310, 311, 312, 313, 314, 315, 316, 317, 318, 319, 320, 321, 322, 286, 287, 288, 289, 24, 25, 290, 291, 292, 293, 294, 295, 296, 297, 298, 323, 324, 325, 326, 26, 327, 328, 329, 330, 331, 332, 333, 334, 335, 336, 337, 338, 339, 340, 341, 342, 343, 344, 345, 346, 347, 348, 349, 350, 351, 352, 353, 354, 355, 356, 157, 158, 159, 160, 357, 358, 359, 360, 361, 362, 363, 364, 365, 366, 367, 368, 369, 370, 371, 372, 373, 374, 375, 376, 377, 378, 379, 380, 381, 382, 383, 384, 385, 386, 151, 152, 153, 154, 155, 156, 161, 162, 163, 627, 628, 629, 630, 631, 632, 633, 634, 635, 636, 637, 638, 639, 640, 641, 652, 653, 642, 643, 644, 645, 646, 647, 654] (by decide +kernel) (by decide +kernel)) (goodIn_sub (fun _ h => List.mem_append_left _ (List.mem_append_right _ h)) (by decide +kernel))) (goodIn_sub (fun _ h => List.mem_append_left _ (List.mem_append_left _ (List.mem_append_right _ h))) (by decide +kernel))
set_option maxRecDepth 20000 in
theorem gL_law_X7_act : GoodIn wsL_law (wsV RL 22 RX7 yX7_act wsX7_act) := goodIn_app (goodIn_of _ (by decide +kernel)) ggL_law_X7_act
set_option maxRecDepth 20000 in
theorem ggL_law_X7_call : GoodIn wsL_law wsX7_call := goodIn_ca (goodIn_ca (goodIn_r _ [352, 26, 20, 100, 101, 102, 2, 103, 27, 28, 104, 105, 106, 107, 108, 109, 110, 172, 173, 174, 22, 175, 176, 177, 178, 353, 354, 355, 356, 157, 158, 159, 160, 21, 357, 358, 359, 360, 23, 361, 362, 363, 364, 365, 24, 25, 366, 367, 368, 369, 370, 371, 372, 19, 373, 183, 184, 40, 374, 375, 376, 377, 115, 116, 331, 332, 333, 39, 334, 68, 219, 204, 205, 50, 206, 125, 378, 379, 380, 381, 272, 212, 213, 214, 62, 224, 225, 226, 227, 75, 228, 229, 230, 231, 69, 232, 190, 191, 35, 192, 52, 233, 145, 146, 147, 148, 149, 150, 220, 221, 222, 223, 234, 200, 201, 202, 51, 203, 235, 236, 237, 238, 239, 240, 241, 242, 53, 54, 243, 244, 245, 246, 196, 197, 198, 247, 248, 249, 250, 251, 252, 253, 73, 135, 74, 254, 255, 256, 257, 258, 259, 260, 261, 262, 263, 264, 265, 266, 72, 267, 80, 268, 269, 270, 271, 382, 383, 384, 385, 386, 36, 189, 151, 152, 153, 154, 155, 156, 161, 162, 163, 627, 628, 629, 630, 631, 632, 633, 634, 635, 636, 637, 642, 643, 644, 645, 646, 647, 652, 653, 638, 639, 640, 641, 654] (by decide +kernel) (by decide +kernel)) (goodIn_sub (fun _ h => List.mem_append_left _ (List.mem_append_right _ h)) (by decide +kernel))) (goodIn_sub (fun _ h => List.mem_append_left _ (List.mem_append_left _ (List.mem_append_right _ h))) (by decide +kernel))
set_option maxRecDepth 20000 in
theorem gL_law_X7_call : GoodIn wsL_law (wsV RL 25 RX7 yX7_call wsX7_call) := goodIn_app (goodIn_of _ (by decide +kernel)) ggL_law_X7_call
set_option maxRecDepth 20000 in
theorem ggL_law_X6_digest : GoodIn wsL_law wsX6_digest := goodIn_ca (goodIn_r _ [391, 392, 393, 36, 40, 44, 394, 395, 396, 19, 397, 115, 116, 189, 190, 191, 35, 192, 52, 199, 200, 201, 202, 51, 203, 204, 205, 50, 206, 125, 294, 240, 241, 242, 53, 54, 331, 332, 333, 39, 334, 68, 219, 398, 399, 400, 401, 402, 145, 146, 147, 148, 149, 150, 403, 404, 405, 406, 407, 236, 237, 238, 239, 243, 221, 222, 223, 62, 408, 245, 246, 196, 197, 198, 247, 248, 249, 409, 155, 156, 282, 283, 284, 285, 410, 411, 412, 413, 220, 414, 415, 416, 417, 418, 419, 420, 421, 69, 382, 229, 230, 231, 75, 232, 233, 383, 384, 385, 386, 151, 152, 153, 154, 422, 423, 424, 425, 228, 426, 427, 428, 429, 74, 430, 431, 432, 433, 434, 435, 436, 437, 438, 439, 440, 441, 442, 443, 444, 445, 446, 447, 448, 449, 450, 451, 452, 453, 454, 135, 455, 456, 457, 458, 459, 460, 461, 462, 463, 60, 6, 61, 464, 465, 466, 467, 468, 469, 470, 234, 235, 244, 471, 472, 473, 474, 73, 254, 255, 256, 257, 258, 259, 260, 261, 262, 263, 264, 265, 266, 72, 267, 80, 475, 476, 477, 43, 478, 86, 479, 87, 480, 122, 123, 124, 481, 482, 483, 89, 484, 379, 380, 381, 272, 212, 213, 214, 224, 225, 226, 227, 250, 251, 252, 253, 268, 269, 270, 271, 485, 486, 487, 488, 489, 490, 491, 492, 493, 494, 495, 496, 336, 337, 338, 339, 340, 341, 342, 343, 319, 320, 321, 322, 344, 345, 346, 347, 348, 497, 498, 499, 500, 501, 502, 503, 504, 635, 636, 637, 638, 639, 640, 641, 652, 653, 642, 643, 644, 645, 646, 647, 654, 648, 649, 650, 651] (by decide +kernel) (by decide +kernel)) (goodIn_sub (fun _ h => List.mem_append_left _ (List.mem_append_left _ (List.mem_append_right _ h))) (by decide +kernel))
set_option maxRecDepth 20000 in
theorem gL_law_X6_digest : GoodIn wsL_law (wsV RL 28 RX6 yX6_digest wsX6_digest) := goodIn_app (goodIn_of _ (by decide +kernel)) ggL_law_X6_digest
set_option maxRecDepth 20000 in
theorem ggL_law_X6_told : GoodIn wsL_law wsX6_told := goodIn_ca (goodIn_r _ [397, 115, 116, 36, 40, 189, 190, 191, 35, 192, 52, 199, 200, 201, 202, 51, 203, 204, 205, 50, 206, 125, 294, 240, 241, 242, 53, 54, 331, 332, 333, 39, 334, 68, 219, 398, 399, 400, 401, 402, 145, 146, 147, 148, 149, 150, 403, 404, 405, 406, 407, 236, 237, 238, 239, 243, 221, 222, 223, 62, 408, 245, 246, 196, 197, 198, 247, 248, 249, 409, 155, 156, 635, 636, 637, 638, 639, 640, 641, 652, 653, 642, 643, 644, 645, 646, 647] (by decide +kernel) (by decide +kernel)) (goodIn_sub (fun _ h => List.mem_append_left _ (List.mem_append_left _ (List.mem_append_right _ h))) (by decide +kernel))
set_option maxRecDepth 20000 in
theorem gL_law_X6_told : GoodIn wsL_law (wsV RL 34 RX6 yX6_told wsX6_told) := goodIn_app (goodIn_of _ (by decide +kernel)) ggL_law_X6_told
set_option maxRecDepth 20000 in
theorem ggL_law_X6_touch : GoodIn wsL_law wsX6_touch := goodIn_ca (goodIn_r _ [417, 115, 116, 40, 418, 419, 420, 39, 421, 69, 219, 204, 205, 50, 206, 125, 382, 229, 230, 231, 75, 232, 190, 191, 35, 192, 52, 233, 145, 146, 147, 148, 149, 150, 220, 221, 222, 223, 62, 383, 384, 385, 19, 386, 36, 189, 151, 152, 153, 154, 155, 156, 422, 423, 424, 425, 228, 426, 427, 428, 429, 74, 430, 431, 432, 433, 434, 435, 436, 437, 438, 439, 440, 441, 442, 443, 444, 445, 446, 447, 448, 449, 450, 451, 452, 453, 454, 135, 635, 636, 637, 642, 643, 644, 645, 646, 647, 652, 653, 638, 639, 640, 641] (by decide +kernel) (by decide +kernel)) (goodIn_sub (fun _ h => List.mem_append_left _ (List.mem_append_left _ (List.mem_append_right _ h))) (by decide +kernel))
set_option maxRecDepth 20000 in
theorem gL_law_X6_touch : GoodIn wsL_law (wsV RL 38 RX6 yX6_touch wsX6_touch) := goodIn_app (goodIn_of _ (by decide +kernel)) ggL_law_X6_touch
set_option maxRecDepth 20000 in
theorem ggL_law_X7_rounds : GoodIn wsL_law wsX7_rounds := goodIn_r _ [160, 21, 22, 627, 628, 629, 630, 631, 632, 633, 634] (by decide +kernel) (by decide +kernel)
set_option maxRecDepth 20000 in
theorem gL_law_X7_rounds : GoodIn wsL_law (wsV RL 41 RX7 yX7_rounds wsX7_rounds) := goodIn_app (goodIn_of _ (by decide +kernel)) ggL_law_X7_rounds
set_option maxRecDepth 20000 in
theorem ggL_law_X7_tell : GoodIn wsL_law wsX7_tell := goodIn_r _ [163] (by decide +kernel) (by decide +kernel)
set_option maxRecDepth 20000 in
theorem gL_law_X7_tell : GoodIn wsL_law (va_wsS RL 45 yX7_tell wsX7_tell) := goodIn_app (goodIn_of _ (by decide +kernel)) ggL_law_X7_tell
set_option maxRecDepth 20000 in
theorem ggL_law_X6_row : GoodIn wsL_law wsX6_row := goodIn_ca (goodIn_r _ [512, 40, 513, 514, 515, 19, 516, 517, 518, 418, 419, 420, 39, 421, 69, 219, 204, 205, 50, 206, 125, 455, 456, 457, 458, 220, 221, 222, 223, 62, 383, 384, 385, 386, 36, 189, 190, 191, 35, 192, 52, 151, 152, 146, 153, 154, 155, 156, 635, 636, 637, 642, 643, 644, 645, 646, 647, 652, 653, 638, 639, 640, 641] (by decide +kernel) (by decide +kernel)) (goodIn_sub (fun _ h => List.mem_append_right _ h) (by decide +kernel))
set_option maxRecDepth 20000 in
theorem gL_law_X6_row : GoodIn wsL_law (wsV RL 55 RX6 yX6_row wsX6_row) := goodIn_app (goodIn_of _ (by decide +kernel)) ggL_law_X6_row
set_option maxRecDepth 20000 in
theorem ggL_law_X6_callAt : GoodIn wsL_law wsX6_callAt := goodIn_ca (goodIn_r _ [522, 40, 523, 524, 525, 19, 526, 517, 518, 331, 332, 333, 39, 334, 68, 219, 204, 205, 50, 206, 125, 410, 411, 412, 413, 220, 221, 222, 223, 62, 635, 636, 637, 642, 643, 644, 645, 646, 647, 652, 653] (by decide +kernel) (by decide +kernel)) (goodIn_sub (fun _ h => List.mem_append_right _ h) (by decide +kernel))
set_option maxRecDepth 20000 in
theorem gL_law_X6_callAt : GoodIn wsL_law (wsV RL 58 RX6 yX6_callAt wsX6_callAt) := goodIn_app (goodIn_of _ (by decide +kernel)) ggL_law_X6_callAt
set_option maxRecDepth 20000 in
theorem ggL_law_X6_changeAt : GoodIn wsL_law wsX6_changeAt := goodIn_ca (goodIn_r _ [530, 517, 518, 36, 199, 200, 201, 35, 202, 51, 203, 204, 205, 50, 206, 125, 282, 283, 284, 285, 243, 221, 222, 223, 62, 635, 636, 637, 638, 639, 640, 641, 652, 653] (by decide +kernel) (by decide +kernel)) (goodIn_sub (fun _ h => List.mem_append_right _ h) (by decide +kernel))
set_option maxRecDepth 20000 in
theorem gL_law_X6_changeAt : GoodIn wsL_law (wsV RL 61 RX6 yX6_changeAt wsX6_changeAt) := goodIn_app (goodIn_of _ (by decide +kernel)) ggL_law_X6_changeAt
set_option maxRecDepth 20000 in
theorem ggL_law_X6_next : GoodIn wsL_law wsX6_next := goodIn_ca (goodIn_r _ [534, 36, 535, 536, 537, 19, 538, 115, 116, 189, 190, 191, 35, 192, 52, 539, 540, 146, 541, 148, 149, 150, 185, 186, 187, 188, 193, 194, 195, 196, 197, 198, 542, 245, 246, 247, 248, 249, 383, 384, 385, 386, 151, 152, 153, 154, 155, 156, 635, 636, 637, 638, 639, 640, 641] (by decide +kernel) (by decide +kernel)) (goodIn_sub (fun _ h => List.mem_append_left _ (List.mem_append_left _ (List.mem_append_right _ h))) (by decide +kernel))
set_option maxRecDepth 20000 in
theorem gL_law_X6_next : GoodIn wsL_law (wsV RL 64 RX6 yX6_next wsX6_next) := goodIn_app (goodIn_of _ (by decide +kernel)) ggL_law_X6_next
set_option maxRecDepth 20000 in
theorem ggL_law_X6_where : GoodIn wsL_law wsX6_where := goodIn_ca (goodIn_r _ [546, 40, 535, 536, 537, 19, 538, 115, 116, 36, 189, 190, 191, 35, 192, 52, 539, 540, 146, 541, 148, 149, 150, 547, 472, 473, 39, 474, 73, 75, 232, 254, 255, 256, 257, 258, 259, 260, 261, 262, 263, 264, 265, 266, 72, 267, 80, 635, 636, 637, 638, 639, 640, 641, 642, 643, 644, 645, 646, 647, 654] (by decide +kernel) (by decide +kernel)) (goodIn_sub (fun _ h => List.mem_append_left _ (List.mem_append_left _ (List.mem_append_right _ h))) (by decide +kernel))
