set_option maxRecDepth 20000 in
theorem gL_law_L_begin : GoodIn wsL_law (va_wsS RL 97 yL_begin wsL_begin) := goodIn_app (goodIn_of _ (by decide +kernel)) ggL_law_L_begin
set_option maxRecDepth 20000 in
theorem ggL_law_X7_begin : GoodIn wsL_law wsX7_begin := goodIn_r _ [143, 144, 145, 146, 5, 147, 148, 149, 150, 151, 82, 83, 84, 85, 86, 87, 88, 79, 152, 153, 154, 155, 156, 157, 158, 159, 43, 160, 161, 162, 892, 893, 894, 895, 896, 897, 898, 899, 900, 901] (by decide +kernel) (by decide +kernel)
set_option maxRecDepth 20000 in
theorem gL_law_X7_begin : GoodIn wsL_law (wsV RL 102 RX7 yX7_begin wsX7_begin) := goodIn_app (goodIn_of _ (by decide +kernel)) ggL_law_X7_begin
set_option maxRecDepth 20000 in
theorem ggL_law_X7_thrown : GoodIn wsL_law wsX7_thrown := goodIn_r _ [166, 144, 892, 893, 894, 895, 896, 897, 898, 899, 900, 901] (by decide +kernel) (by decide +kernel)
set_option maxRecDepth 20000 in
theorem gL_law_X7_thrown : GoodIn wsL_law (wsV RL 103 RX7 yX7_thrown wsX7_thrown) := goodIn_app (goodIn_of _ (by decide +kernel)) ggL_law_X7_thrown
set_option maxRecDepth 20000 in
theorem ggL_law_L_change : GoodIn wsL_law wsL_change := goodIn_ca (goodIn_ca (goodIn_r _ [169, 93, 170, 171, 172, 173, 2, 174, 175, 176, 16, 20, 177, 178, 179, 180, 98, 99, 181, 182, 183, 15, 184, 32, 185, 186, 129, 187, 188, 189, 190, 191, 192, 193, 194, 31, 195, 196, 197, 30, 198, 108, 199, 200, 201, 202, 203, 204, 205, 206, 44, 207, 208, 209, 19, 210, 50, 114, 115, 116, 117, 51, 55, 118, 56, 113, 105, 106, 107, 119, 120, 121, 54, 122, 62, 123, 124, 125, 126, 211, 212, 213, 214, 215, 216, 217, 218, 219, 57, 220, 221, 222, 223, 224, 225, 128, 130, 131, 132, 133, 226, 227, 228, 229, 230, 231, 232, 233, 234, 33, 34, 235, 236, 237, 238, 239, 240, 241, 242, 243, 244, 245, 246, 247, 248, 249, 250, 251, 252, 253, 254, 255, 256, 257, 258, 259, 260, 261, 262, 263, 264, 889, 890, 891, 902, 903, 904, 905, 916, 917, 906, 907, 908, 909, 910, 911, 918] (by decide +kernel) (by decide +kernel)) (goodIn_sub (fun _ h => List.mem_append_left _ (List.mem_append_right _ h)) (by decide +kernel))) (goodIn_sub (fun _ h => List.mem_append_left _ (List.mem_append_left _ (List.mem_append_right _ h))) (by decide +kernel))
set_option maxRecDepth 20000 in
theorem gL_law_L_change : GoodIn wsL_law (va_wsS RL 106 yL_change wsL_change) := goodIn_app (goodIn_of _ (by decide +kernel)) ggL_law_L_change
set_option maxRecDepth 20000 in
theorem ggL_law_X7_change : GoodIn wsL_law wsX7_change := goodIn_r _ [268, 144, 87, 78, 269, 270, 271, 5, 272, 86, 145, 146, 147, 148, 149, 150, 151, 892, 893, 894, 895, 896, 897, 898, 899, 900, 901] (by decide +kernel) (by decide +kernel)
set_option maxRecDepth 20000 in
theorem gL_law_X7_change : GoodIn wsL_law (wsV RL 108 RX7 yX7_change wsX7_change) := goodIn_app (goodIn_of _ (by decide +kernel)) ggL_law_X7_change
set_option maxRecDepth 20000 in
theorem ggL_law_L_mirror : GoodIn wsL_law wsL_mirror := goodIn_ca (goodIn_r _ [275, 170, 276, 277, 278, 2, 279, 175, 176, 16, 20, 191, 192, 193, 15, 194, 31, 195, 196, 197, 30, 198, 108, 280, 281, 282, 283, 235, 213, 214, 215, 44, 199, 200, 201, 202, 203, 204, 205, 206, 207, 208, 209, 19, 210, 50, 114, 115, 116, 117, 51, 55, 118, 56, 113, 105, 106, 107, 119, 120, 121, 54, 122, 62, 123, 124, 125, 126, 211, 212, 216, 217, 218, 219, 57, 220, 221, 222, 223, 224, 182, 183, 184, 32, 225, 128, 129, 130, 131, 132, 133, 226, 227, 228, 229, 230, 231, 232, 233, 234, 33, 34, 236, 237, 238, 188, 189, 190, 239, 240, 241, 242, 243, 244, 245, 246, 247, 248, 249, 250, 251, 252, 253, 254, 255, 256, 257, 258, 259, 260, 261, 262, 263, 264, 889, 890, 891, 902, 903, 904, 905, 916, 917, 906, 907, 908, 909, 910, 911, 918] (by decide +kernel) (by decide +kernel)) (goodIn_sub (fun _ h => List.mem_append_left _ (List.mem_append_right _ h)) (by decide +kernel))
set_option maxRecDepth 20000 in
theorem gL_law_L_mirror : GoodIn wsL_law (va_wsS RL 109 yL_mirror wsL_mirror) := goodIn_app (goodIn_of _ (by decide +kernel)) ggL_law_L_mirror
set_option maxRecDepth 20000 in
theorem ggL_law_X7_mirror : GoodIn wsL_law wsX7_mirror := goodIn_r _ [287, 144, 87, 78, 148, 149, 150, 5, 151, 892, 893, 894, 895, 896, 897, 898, 899, 900, 901] (by decide +kernel) (by decide +kernel)
set_option maxRecDepth 20000 in
theorem gL_law_X7_mirror : GoodIn wsL_law (wsV RL 112 RX7 yX7_mirror wsX7_mirror) := goodIn_app (goodIn_of _ (by decide +kernel)) ggL_law_X7_mirror
set_option maxRecDepth 20000 in
theorem ggL_law_L_unchange : GoodIn wsL_law wsL_unchange := goodIn_ca (goodIn_r _ [290, 170, 291, 292, 293, 2, 294, 175, 176, 16, 20, 191, 192, 193, 15, 194, 31, 195, 196, 197, 30, 198, 108, 295, 296, 297, 298, 299, 300, 301, 302, 303, 213, 214, 215, 44, 207, 208, 209, 19, 210, 50, 114, 115, 116, 117, 51, 55, 118, 56, 113, 105, 106, 107, 119, 120, 121, 54, 122, 62, 123, 124, 125, 126, 211, 212, 216, 217, 218, 219, 57, 220, 221, 222, 223, 224, 182, 183, 184, 32, 225, 128, 129, 130, 131, 132, 133, 226, 227, 228, 229, 230, 231, 232, 233, 234, 33, 34, 235, 236, 237, 238, 188, 189, 190, 239, 240, 241, 242, 243, 244, 245, 246, 247, 248, 249, 250, 251, 252, 253, 254, 255, 256, 257, 258, 259, 260, 261, 262, 263, 264, 204, 205, 206, 889, 890, 891, 902, 903, 904, 905, 916, 917, 906, 907, 908, 909, 910, 911, 918] (by decide +kernel) (by decide +kernel)) (goodIn_sub (fun _ h => List.mem_append_left _ (List.mem_append_right _ h)) (by decide +kernel))
set_option maxRecDepth 20000 in
theorem gL_law_L_unchange : GoodIn wsL_law (va_wsS RL 113 yL_unchange wsL_unchange) := goodIn_app (goodIn_of _ (by decide +kernel)) ggL_law_L_unchange
set_option maxRecDepth 20000 in
theorem ggL_law_X7_unchange : GoodIn wsL_law wsX7_unchange := goodIn_r _ [307, 144, 87, 78, 148, 149, 150, 5, 151, 892, 893, 894, 895, 896, 897, 898, 899, 900, 901] (by decide +kernel) (by decide +kernel)
set_option maxRecDepth 20000 in
theorem gL_law_X7_unchange : GoodIn wsL_law (wsV RL 115 RX7 yX7_unchange wsX7_unchange) := goodIn_app (goodIn_of _ (by decide +kernel)) ggL_law_X7_unchange
set_option maxRecDepth 20000 in
theorem ggL_law_L_at : GoodIn wsL_law wsL_at := goodIn_ca (goodIn_r _ [310, 93, 311, 312, 313, 2, 314, 98, 99, 16, 20, 177, 178, 179, 180, 181, 182, 183, 15, 184, 32, 185, 186, 129, 187, 188, 189, 190, 315, 232, 233, 234, 33, 34, 316, 317, 318, 319, 207, 208, 209, 19, 210, 50, 114, 115, 116, 117, 51, 55, 118, 56, 113, 105, 106, 30, 107, 108, 119, 120, 121, 54, 122, 62, 123, 124, 125, 126, 211, 196, 197, 198, 212, 213, 214, 215, 44, 216, 217, 218, 219, 57, 220, 221, 222, 223, 224, 225, 128, 130, 131, 132, 133, 226, 192, 193, 194, 31, 195, 227, 228, 229, 230, 231, 235, 236, 237, 238, 239, 240, 241, 242, 243, 244, 245, 246, 247, 248, 249, 250, 251, 252, 253, 254, 255, 256, 257, 258, 259, 260, 261, 262, 263, 264, 204, 205, 206, 889, 890, 891, 902, 903, 904, 905, 906, 907, 908, 909, 910, 911, 916, 917, 918] (by decide +kernel) (by decide +kernel)) (goodIn_sub (fun _ h => List.mem_append_left _ (List.mem_append_left _ (List.mem_append_right _ h))) (by decide +kernel))
set_option maxRecDepth 20000 in
theorem gL_law_L_at : GoodIn wsL_law (va_wsS RL 116 yL_at wsL_at) := goodIn_app (goodIn_of _ (by decide +kernel)) ggL_law_L_at
set_option maxRecDepth 20000 in
theorem ggL_law_X7_at : GoodIn wsL_law wsX7_at := goodIn_r _ [323, 144, 79, 145, 146, 5, 147, 269, 270, 271, 272, 86, 148, 149, 150, 151, 892, 893, 894, 895, 896, 897, 898, 899, 900, 901] (by decide +kernel) (by decide +kernel)
set_option maxRecDepth 20000 in
theorem gL_law_X7_at : GoodIn wsL_law (wsV RL 119 RX7 yX7_at wsX7_at) := goodIn_app (goodIn_of _ (by decide +kernel)) ggL_law_X7_at
set_option maxRecDepth 20000 in
theorem ggL_law_X6_isChange : GoodIn wsL_law wsX6_isChange := goodIn_r _ [327, 16, 181, 182, 183, 15, 184, 32, 185, 186, 129, 187, 188, 189, 190, 889, 890, 891, 902, 903, 904, 905] (by decide +kernel) (by decide +kernel)
set_option maxRecDepth 20000 in
theorem gL_law_X6_isChange : GoodIn wsL_law (wsV RL 120 RX6 yX6_isChange wsX6_isChange) := goodIn_app (goodIn_of _ (by decide +kernel)) ggL_law_X6_isChange
set_option maxRecDepth 20000 in
theorem ggL_law_X7_isChange : GoodIn wsL_law wsX7_isChange := goodIn_r _ [331, 144, 269, 270, 271, 5, 272, 86, 145, 146, 147, 892, 893, 894, 895, 896, 897, 898, 899, 900, 901] (by decide +kernel) (by decide +kernel)
set_option maxRecDepth 20000 in
theorem gL_law_X7_isChange : GoodIn wsL_law (wsV RL 124 RX7 yX7_isChange wsX7_isChange) := goodIn_app (goodIn_of _ (by decide +kernel)) ggL_law_X7_isChange
set_option maxRecDepth 20000 in
theorem ggL_law_L_told : GoodIn wsL_law wsL_told := goodIn_ca (goodIn_r _ [334, 93, 335, 336, 337, 2, 338, 98, 99, 16, 20, 181, 182, 183, 15, 184, 32, 191, 192, 193, 194, 31, 195, 196, 197, 30, 198, 108, 315, 232, 233, 234, 33, 34, 339, 340, 341, 19, 342, 50, 211, 343, 344, 345, 346, 347, 128, 129, 130, 131, 132, 133, 348, 349, 350, 351, 352, 228, 229, 230, 231, 235, 213, 214, 215, 44, 353, 237, 238, 188, 189, 190, 239, 240, 241, 354, 138, 139, 889, 890, 891, 902, 903, 904, 905, 916, 917, 906, 907, 908, 909, 910, 911] (by decide +kernel) (by decide +kernel)) (goodIn_sub (fun _ h => List.mem_append_left _ (List.mem_append_left _ (List.mem_append_right _ h))) (by decide +kernel))
set_option maxRecDepth 20000 in
theorem gL_law_L_told : GoodIn wsL_law (va_wsS RL 125 yL_told wsL_told) := goodIn_app (goodIn_of _ (by decide +kernel)) ggL_law_L_told
set_option maxRecDepth 20000 in
theorem ggL_law_X7_told : GoodIn wsL_law wsX7_told := goodIn_r _ [358, 144, 145, 146, 5, 147, 359, 360, 361, 362, 86, 87, 79, 88, 363, 364, 365, 366, 367, 368, 369, 370, 156, 157, 158, 159, 43, 371, 372, 373, 374, 78, 375, 376, 377, 378, 379, 380, 381, 148, 149, 150, 151, 892, 893, 894, 895, 896, 897, 898, 899, 900, 901] (by decide +kernel) (by decide +kernel)
