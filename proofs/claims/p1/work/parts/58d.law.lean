set_option maxRecDepth 20000 in
theorem gL_law_X7_told : GoodIn wsL_law (wsV RL 127 RX7 yX7_told wsX7_told) := goodIn_app (goodIn_of _ (by decide +kernel)) ggL_law_X7_told
set_option maxRecDepth 20000 in
theorem ggL_law_L_changeAt : GoodIn wsL_law wsL_changeAt := goodIn_ca (goodIn_r _ [384, 385, 386, 387, 388, 2, 389, 390, 391, 16, 191, 192, 193, 15, 194, 31, 195, 196, 197, 30, 198, 108, 280, 281, 282, 283, 235, 213, 214, 215, 44, 889, 890, 891, 902, 903, 904, 905, 916, 917] (by decide +kernel) (by decide +kernel)) (goodIn_sub (fun _ h => List.mem_append_right _ h) (by decide +kernel))
set_option maxRecDepth 20000 in
theorem gL_law_L_changeAt : GoodIn wsL_law (va_wsS RL 128 yL_changeAt wsL_changeAt) := goodIn_app (goodIn_of _ (by decide +kernel)) ggL_law_L_changeAt
set_option maxRecDepth 20000 in
theorem ggL_law_X7_changeAt : GoodIn wsL_law wsX7_changeAt := goodIn_r _ [395, 144, 87, 78, 145, 146, 5, 147, 148, 149, 150, 151, 892, 893, 894, 895, 896, 897, 898, 899, 900, 901] (by decide +kernel) (by decide +kernel)
set_option maxRecDepth 20000 in
theorem gL_law_X7_changeAt : GoodIn wsL_law (wsV RL 130 RX7 yX7_changeAt wsX7_changeAt) := goodIn_app (goodIn_of _ (by decide +kernel)) ggL_law_X7_changeAt
set_option maxRecDepth 20000 in
theorem ggL_law_L_next : GoodIn wsL_law wsL_next := goodIn_ca (goodIn_r _ [398, 93, 399, 400, 401, 2, 402, 16, 403, 404, 405, 406, 98, 99, 181, 182, 183, 15, 184, 32, 407, 408, 129, 409, 131, 132, 133, 177, 178, 179, 180, 185, 186, 187, 188, 189, 190, 410, 237, 238, 239, 240, 241, 411, 412, 413, 414, 134, 135, 136, 137, 138, 139, 889, 890, 891, 902, 903, 904, 905] (by decide +kernel) (by decide +kernel)) (goodIn_sub (fun _ h => List.mem_append_left _ (List.mem_append_left _ (List.mem_append_right _ h))) (by decide +kernel))
set_option maxRecDepth 20000 in
theorem gL_law_L_next : GoodIn wsL_law (va_wsS RL 131 yL_next wsL_next) := goodIn_app (goodIn_of _ (by decide +kernel)) ggL_law_L_next
set_option maxRecDepth 20000 in
theorem ggL_law_X7_next : GoodIn wsL_law wsX7_next := goodIn_r _ [418, 144, 419, 420, 421, 5, 422, 423, 424, 425, 426, 86, 43, 427, 145, 146, 147, 269, 270, 271, 272, 375, 376, 377, 378, 156, 157, 158, 159, 379, 380, 381, 160, 161, 162, 148, 149, 150, 151, 892, 893, 894, 895, 896, 897, 898, 899, 900, 901] (by decide +kernel) (by decide +kernel)
set_option maxRecDepth 20000 in
theorem gL_law_X7_next : GoodIn wsL_law (wsV RL 133 RX7 yX7_next wsX7_next) := goodIn_app (goodIn_of _ (by decide +kernel)) ggL_law_X7_next
set_option maxRecDepth 20000 in
theorem ggL_law_L_lead : GoodIn wsL_law wsL_lead := goodIn_ca (goodIn_r _ [430, 93, 431, 432, 433, 2, 434, 16, 403, 404, 405, 406, 98, 99, 181, 182, 183, 15, 184, 32, 407, 408, 129, 409, 131, 132, 133, 435, 436, 437, 438, 439, 349, 350, 351, 31, 195, 196, 197, 30, 198, 108, 352, 228, 229, 230, 231, 232, 233, 234, 33, 34, 235, 213, 214, 215, 44, 353, 237, 238, 188, 189, 190, 239, 240, 241, 411, 412, 413, 414, 134, 135, 136, 137, 138, 139, 889, 890, 891, 902, 903, 904, 905, 916, 917] (by decide +kernel) (by decide +kernel)) (goodIn_sub (fun _ h => List.mem_append_left _ (List.mem_append_left _ (List.mem_append_right _ h))) (by decide +kernel))
set_option maxRecDepth 20000 in
theorem gL_law_L_lead : GoodIn wsL_law (va_wsS RL 134 yL_lead wsL_lead) := goodIn_app (goodIn_of _ (by decide +kernel)) ggL_law_L_lead
set_option maxRecDepth 20000 in
theorem ggL_law_X7_lead : GoodIn wsL_law wsX7_lead := goodIn_r _ [443, 144, 419, 420, 421, 5, 422, 423, 424, 425, 426, 86, 43, 427, 145, 146, 147, 367, 368, 369, 370, 87, 156, 157, 158, 159, 371, 372, 373, 374, 79, 78, 375, 376, 377, 378, 379, 380, 381, 160, 161, 162, 148, 149, 150, 151, 892, 893, 894, 895, 896, 897, 898, 899, 900, 901] (by decide +kernel) (by decide +kernel)
set_option maxRecDepth 20000 in
theorem gL_law_X7_lead : GoodIn wsL_law (wsV RL 136 RX7 yX7_lead wsX7_lead) := goodIn_app (goodIn_of _ (by decide +kernel)) ggL_law_X7_lead
set_option maxRecDepth 20000 in
theorem ggL_law_L_crossed : GoodIn wsL_law wsL_crossed := goodIn_ca (goodIn_r _ [446, 93, 447, 448, 449, 2, 450, 16, 403, 404, 405, 406, 98, 99, 181, 182, 183, 15, 184, 32, 407, 408, 129, 409, 131, 132, 133, 451, 452, 453, 137, 138, 139, 889, 890, 891, 902, 903, 904, 905] (by decide +kernel) (by decide +kernel)) (goodIn_sub (fun _ h => List.mem_append_left _ (List.mem_append_left _ (List.mem_append_right _ h))) (by decide +kernel))
set_option maxRecDepth 20000 in
theorem gL_law_L_crossed : GoodIn wsL_law (va_wsS RL 137 yL_crossed wsL_crossed) := goodIn_app (goodIn_of _ (by decide +kernel)) ggL_law_L_crossed
set_option maxRecDepth 20000 in
theorem ggL_law_X7_crossed : GoodIn wsL_law wsX7_crossed := goodIn_r _ [457, 144, 419, 420, 421, 5, 422, 423, 424, 425, 426, 86, 43, 427, 145, 146, 147, 458, 459, 460, 148, 149, 150, 151, 892, 893, 894, 895, 896, 897, 898, 899, 900, 901] (by decide +kernel) (by decide +kernel)
set_option maxRecDepth 20000 in
theorem gL_law_X7_crossed : GoodIn wsL_law (wsV RL 139 RX7 yX7_crossed wsX7_crossed) := goodIn_app (goodIn_of _ (by decide +kernel)) ggL_law_X7_crossed
set_option maxRecDepth 20000 in
theorem ggL_law_L_call : GoodIn wsL_law wsL_call := goodIn_ca (goodIn_ca (goodIn_r _ [463, 93, 170, 464, 465, 466, 2, 467, 175, 176, 20, 435, 436, 437, 438, 98, 99, 339, 340, 341, 19, 342, 50, 211, 196, 197, 30, 198, 108, 468, 469, 470, 471, 264, 204, 205, 206, 44, 216, 217, 218, 219, 57, 220, 221, 222, 223, 51, 224, 182, 183, 15, 184, 32, 225, 128, 129, 130, 131, 132, 133, 212, 213, 214, 215, 226, 192, 193, 194, 31, 195, 227, 228, 229, 230, 231, 232, 233, 234, 33, 34, 235, 236, 237, 238, 188, 189, 190, 239, 240, 241, 242, 243, 244, 245, 55, 118, 56, 246, 247, 248, 249, 250, 251, 252, 253, 254, 255, 256, 257, 258, 54, 259, 62, 260, 261, 262, 263, 472, 411, 412, 413, 414, 16, 181, 134, 135, 136, 137, 138, 139, 889, 890, 891, 906, 907, 908, 909, 910, 911, 916, 917, 902, 903, 904, 905, 918] (by decide +kernel) (by decide +kernel)) (goodIn_sub (fun _ h => List.mem_append_left _ (List.mem_append_right _ h)) (by decide +kernel))) (goodIn_sub (fun _ h => List.mem_append_left _ (List.mem_append_left _ (List.mem_append_right _ h))) (by decide +kernel))
set_option maxRecDepth 20000 in
theorem gL_law_L_call : GoodIn wsL_law (va_wsS RL 140 yL_call wsL_call) := goodIn_app (goodIn_of _ (by decide +kernel)) ggL_law_L_call
set_option maxRecDepth 20000 in
theorem ggL_law_X7_call : GoodIn wsL_law wsX7_call := goodIn_r _ [476, 144, 88, 80, 145, 146, 5, 147, 148, 149, 150, 151, 477, 478, 479, 480, 481, 482, 483, 484, 156, 157, 158, 159, 86, 43, 367, 368, 369, 370, 87, 371, 372, 373, 374, 79, 78, 375, 376, 377, 378, 379, 380, 381, 160, 161, 162, 892, 893, 894, 895, 896, 897, 898, 899, 900, 901] (by decide +kernel) (by decide +kernel)
set_option maxRecDepth 20000 in
theorem gL_law_X7_call : GoodIn wsL_law (wsV RL 142 RX7 yX7_call wsX7_call) := goodIn_app (goodIn_of _ (by decide +kernel)) ggL_law_X7_call
set_option maxRecDepth 20000 in
theorem ggL_law_L_uncall : GoodIn wsL_law wsL_uncall := goodIn_ca (goodIn_r _ [487, 170, 488, 489, 490, 2, 491, 175, 176, 20, 339, 340, 341, 19, 342, 50, 211, 196, 197, 30, 198, 108, 492, 493, 494, 495, 57, 226, 192, 193, 15, 194, 31, 195, 496, 497, 498, 499, 51, 55, 118, 56, 500, 300, 301, 302, 303, 213, 214, 215, 44, 224, 182, 183, 184, 32, 246, 247, 129, 248, 249, 250, 251, 252, 253, 254, 255, 256, 257, 258, 54, 259, 62, 501, 502, 503, 504, 505, 261, 262, 263, 889, 890, 891, 906, 907, 908, 909, 910, 911, 916, 917, 902, 903, 904, 905, 918] (by decide +kernel) (by decide +kernel)) (goodIn_sub (fun _ h => List.mem_append_left _ (List.mem_append_right _ h)) (by decide +kernel))
set_option maxRecDepth 20000 in
theorem gL_law_L_uncall : GoodIn wsL_law (va_wsS RL 143 yL_uncall wsL_uncall) := goodIn_app (goodIn_of _ (by decide +kernel)) ggL_law_L_uncall
set_option maxRecDepth 20000 in
theorem ggL_law_X7_uncall : GoodIn wsL_law wsX7_uncall := goodIn_r _ [509, 144, 88, 80, 148, 149, 150, 5, 151, 892, 893, 894, 895, 896, 897, 898, 899, 900, 901] (by decide +kernel) (by decide +kernel)
set_option maxRecDepth 20000 in
theorem gL_law_X7_uncall : GoodIn wsL_law (wsV RL 145 RX7 yX7_uncall wsX7_uncall) := goodIn_app (goodIn_of _ (by decide +kernel)) ggL_law_X7_uncall
set_option maxRecDepth 20000 in
theorem ggL_law_L_callAt : GoodIn wsL_law wsL_callAt := goodIn_ca (goodIn_r _ [512, 385, 513, 514, 515, 2, 516, 20, 517, 518, 519, 520, 390, 391, 339, 340, 341, 19, 342, 50, 211, 196, 197, 30, 198, 108, 521, 522, 523, 524, 212, 213, 214, 215, 44, 889, 890, 891, 906, 907, 908, 909, 910, 911, 916, 917] (by decide +kernel) (by decide +kernel)) (goodIn_sub (fun _ h => List.mem_append_right _ h) (by decide +kernel))
set_option maxRecDepth 20000 in
theorem gL_law_L_callAt : GoodIn wsL_law (va_wsS RL 146 yL_callAt wsL_callAt) := goodIn_app (goodIn_of _ (by decide +kernel)) ggL_law_L_callAt
set_option maxRecDepth 20000 in
theorem ggL_law_X7_callAt : GoodIn wsL_law wsX7_callAt := goodIn_r _ [528, 144, 88, 80, 145, 146, 5, 147, 148, 149, 150, 151, 892, 893, 894, 895, 896, 897, 898, 899, 900, 901] (by decide +kernel) (by decide +kernel)
