set_option maxRecDepth 20000 in
theorem gL_law_X7_callAt : GoodIn wsL_law (wsV RL 148 RX7 yX7_callAt wsX7_callAt) := goodIn_app (goodIn_of _ (by decide +kernel)) ggL_law_X7_callAt
set_option maxRecDepth 20000 in
theorem ggL_law_L_touch : GoodIn wsL_law wsL_touch := goodIn_ca (goodIn_r _ [531, 93, 532, 533, 534, 2, 535, 98, 99, 20, 536, 537, 538, 19, 539, 51, 211, 196, 197, 30, 198, 108, 472, 221, 222, 223, 57, 224, 182, 183, 15, 184, 32, 225, 128, 129, 130, 131, 132, 133, 212, 213, 214, 215, 44, 411, 412, 413, 414, 16, 181, 134, 135, 136, 137, 138, 139, 540, 541, 542, 543, 220, 544, 545, 546, 547, 56, 548, 549, 550, 551, 552, 553, 554, 555, 556, 557, 558, 559, 560, 561, 562, 563, 564, 565, 566, 567, 568, 569, 570, 571, 572, 118, 889, 890, 891, 906, 907, 908, 909, 910, 911, 916, 917, 902, 903, 904, 905] (by decide +kernel) (by decide +kernel)) (goodIn_sub (fun _ h => List.mem_append_left _ (List.mem_append_left _ (List.mem_append_right _ h))) (by decide +kernel))
set_option maxRecDepth 20000 in
theorem gL_law_L_touch : GoodIn wsL_law (va_wsS RL 149 yL_touch wsL_touch) := goodIn_app (goodIn_of _ (by decide +kernel)) ggL_law_L_touch
set_option maxRecDepth 20000 in
theorem ggL_law_X7_touch : GoodIn wsL_law wsX7_touch := goodIn_r _ [576, 144, 145, 146, 5, 147, 577, 578, 579, 580, 581, 582, 583, 584, 80, 88, 156, 157, 158, 159, 86, 43, 585, 586, 587, 588, 87, 79, 78, 379, 380, 381, 160, 161, 162, 477, 478, 479, 480, 481, 482, 483, 484, 367, 368, 369, 370, 371, 372, 373, 374, 375, 376, 377, 378, 152, 153, 154, 155, 589, 590, 591, 592, 593, 594, 595, 596, 597, 598, 599, 600, 601, 602, 603, 604, 605, 606, 607, 608, 609, 610, 41, 611, 612, 613, 614, 148, 149, 150, 151, 892, 893, 894, 895, 896, 897, 898, 899, 900, 901] (by decide +kernel) (by decide +kernel)
set_option maxRecDepth 20000 in
theorem gL_law_X7_touch : GoodIn wsL_law (wsV RL 151 RX7 yX7_touch wsX7_touch) := goodIn_app (goodIn_of _ (by decide +kernel)) ggL_law_X7_touch
set_option maxRecDepth 20000 in
theorem ggL_law_L_row : GoodIn wsL_law wsL_row := goodIn_ca (goodIn_r _ [617, 385, 618, 619, 620, 2, 621, 20, 622, 623, 624, 625, 390, 391, 536, 537, 538, 19, 539, 51, 211, 196, 197, 30, 198, 108, 626, 627, 628, 629, 212, 213, 214, 215, 44, 411, 412, 413, 414, 16, 181, 182, 183, 15, 184, 32, 134, 135, 129, 136, 137, 138, 139, 889, 890, 891, 906, 907, 908, 909, 910, 911, 916, 917, 902, 903, 904, 905] (by decide +kernel) (by decide +kernel)) (goodIn_sub (fun _ h => List.mem_append_right _ h) (by decide +kernel))
set_option maxRecDepth 20000 in
theorem gL_law_L_row : GoodIn wsL_law (va_wsS RL 152 yL_row wsL_row) := goodIn_app (goodIn_of _ (by decide +kernel)) ggL_law_L_row
set_option maxRecDepth 20000 in
theorem ggL_law_X7_row : GoodIn wsL_law wsX7_row := goodIn_r _ [633, 144, 581, 582, 583, 5, 584, 80, 88, 156, 157, 158, 159, 86, 43, 585, 586, 587, 588, 87, 79, 78, 379, 380, 381, 160, 161, 162, 145, 146, 147, 148, 149, 150, 151, 892, 893, 894, 895, 896, 897, 898, 899, 900, 901] (by decide +kernel) (by decide +kernel)
set_option maxRecDepth 20000 in
theorem gL_law_X7_row : GoodIn wsL_law (wsV RL 154 RX7 yX7_row wsX7_row) := goodIn_app (goodIn_of _ (by decide +kernel)) ggL_law_X7_row
set_option maxRecDepth 20000 in
theorem ggL_law_L_where : GoodIn wsL_law wsL_where := goodIn_ca (goodIn_r _ [636, 93, 637, 638, 639, 2, 640, 20, 403, 404, 405, 406, 98, 99, 16, 181, 182, 183, 15, 184, 32, 407, 408, 129, 409, 131, 132, 133, 641, 642, 643, 19, 644, 55, 57, 224, 246, 247, 248, 249, 250, 251, 252, 253, 254, 255, 256, 257, 258, 54, 259, 62, 889, 890, 891, 902, 903, 904, 905, 906, 907, 908, 909, 910, 911, 918] (by decide +kernel) (by decide +kernel)) (goodIn_sub (fun _ h => List.mem_append_left _ (List.mem_append_left _ (List.mem_append_right _ h))) (by decide +kernel))
set_option maxRecDepth 20000 in
theorem gL_law_L_where : GoodIn wsL_law (va_wsS RL 155 yL_where wsL_where) := goodIn_app (goodIn_of _ (by decide +kernel)) ggL_law_L_where
set_option maxRecDepth 20000 in
theorem ggL_law_X7_where : GoodIn wsL_law wsX7_where := goodIn_r _ [648, 144, 419, 420, 421, 5, 422, 423, 424, 425, 426, 86, 43, 427, 145, 146, 147, 148, 149, 150, 151, 581, 582, 583, 584, 80, 88, 156, 157, 158, 159, 585, 586, 587, 588, 87, 79, 78, 379, 380, 381, 160, 161, 162, 592, 593, 594, 892, 893, 894, 895, 896, 897, 898, 899, 900, 901] (by decide +kernel) (by decide +kernel)
set_option maxRecDepth 20000 in
theorem gL_law_X7_where : GoodIn wsL_law (wsV RL 157 RX7 yX7_where wsX7_where) := goodIn_app (goodIn_of _ (by decide +kernel)) ggL_law_X7_where
set_option maxRecDepth 20000 in
theorem ggL_law_L_place : GoodIn wsL_law wsL_place := goodIn_ca (goodIn_r _ [651, 385, 652, 653, 654, 2, 655, 20, 16, 656, 657, 658, 659, 390, 391, 181, 182, 183, 15, 184, 32, 622, 623, 624, 625, 536, 537, 538, 19, 539, 51, 211, 196, 197, 30, 198, 108, 626, 627, 628, 629, 212, 213, 214, 215, 44, 660, 661, 129, 662, 137, 138, 139, 889, 890, 891, 902, 903, 904, 905, 906, 907, 908, 909, 910, 911, 916, 917] (by decide +kernel) (by decide +kernel)) (goodIn_sub (fun _ h => List.mem_append_right _ h) (by decide +kernel))
set_option maxRecDepth 20000 in
theorem gL_law_L_place : GoodIn wsL_law (va_wsS RL 158 yL_place wsL_place) := goodIn_app (goodIn_of _ (by decide +kernel)) ggL_law_L_place
set_option maxRecDepth 20000 in
theorem ggL_law_X7_place : GoodIn wsL_law wsX7_place := goodIn_r _ [666, 144, 86, 581, 582, 583, 5, 584, 80, 88, 156, 157, 158, 159, 43, 585, 586, 587, 588, 87, 79, 78, 379, 380, 381, 160, 161, 162, 145, 146, 147, 667, 668, 669, 670, 148, 149, 150, 151, 892, 893, 894, 895, 896, 897, 898, 899, 900, 901] (by decide +kernel) (by decide +kernel)
set_option maxRecDepth 20000 in
theorem gL_law_X7_place : GoodIn wsL_law (wsV RL 160 RX7 yX7_place wsX7_place) := goodIn_app (goodIn_of _ (by decide +kernel)) ggL_law_X7_place
set_option maxRecDepth 20000 in
theorem ggL_law_L_longest : GoodIn wsL_law wsL_longest := goodIn_ca (goodIn_r _ [673, 385, 674, 675, 676, 2, 677, 20, 656, 657, 658, 659, 390, 391, 16, 181, 182, 183, 15, 184, 32, 678, 679, 680, 19, 681, 51, 57, 682, 40, 41, 42, 211, 196, 197, 30, 198, 108, 212, 213, 214, 215, 44, 224, 683, 661, 129, 662, 137, 138, 139, 889, 890, 891, 902, 903, 904, 905, 906, 907, 908, 909, 910, 911, 916, 917] (by decide +kernel) (by decide +kernel)) (goodIn_sub (fun _ h => List.mem_append_right _ h) (by decide +kernel))
set_option maxRecDepth 20000 in
theorem gL_law_L_longest : GoodIn wsL_law (va_wsS RL 161 yL_longest wsL_longest) := goodIn_app (goodIn_of _ (by decide +kernel)) ggL_law_L_longest
set_option maxRecDepth 20000 in
theorem ggL_law_X7_longest : GoodIn wsL_law wsX7_longest := goodIn_r _ [687, 144, 86, 145, 146, 5, 147, 581, 582, 583, 584, 80, 88, 156, 157, 158, 159, 43, 585, 586, 587, 588, 87, 79, 78, 379, 380, 381, 160, 161, 162, 688, 689, 690, 691, 692, 40, 41, 42, 667, 668, 669, 670, 148, 149, 150, 151, 892, 893, 894, 895, 896, 897, 898, 899, 900, 901] (by decide +kernel) (by decide +kernel)
set_option maxRecDepth 20000 in
theorem gL_law_X7_longest : GoodIn wsL_law (wsV RL 163 RX7 yX7_longest wsX7_longest) := goodIn_app (goodIn_of _ (by decide +kernel)) ggL_law_X7_longest
set_option maxRecDepth 20000 in
theorem ggL_law_L_music : GoodIn wsL_law wsL_music := goodIn_ca (goodIn_r _ [695, 93, 696, 697, 698, 2, 699, 16, 403, 404, 405, 406, 98, 99, 181, 182, 183, 15, 184, 32, 407, 408, 129, 409, 131, 132, 133, 700, 564, 565, 566, 567, 568, 137, 138, 139, 889, 890, 891, 902, 903, 904, 905] (by decide +kernel) (by decide +kernel)) (goodIn_sub (fun _ h => List.mem_append_left _ (List.mem_append_left _ (List.mem_append_right _ h))) (by decide +kernel))
set_option maxRecDepth 20000 in
theorem gL_law_L_music : GoodIn wsL_law (va_wsS RL 164 yL_music wsL_music) := goodIn_app (goodIn_of _ (by decide +kernel)) ggL_law_L_music
set_option maxRecDepth 20000 in
theorem ggL_law_X7_music : GoodIn wsL_law wsX7_music := goodIn_r _ [704, 144, 419, 420, 421, 5, 422, 423, 424, 425, 426, 86, 43, 427, 145, 146, 147, 603, 604, 605, 606, 607, 608, 609, 610, 41, 611, 148, 149, 150, 151, 892, 893, 894, 895, 896, 897, 898, 899, 900, 901] (by decide +kernel) (by decide +kernel)
set_option maxRecDepth 20000 in
theorem gL_law_X7_music : GoodIn wsL_law (wsV RL 166 RX7 yX7_music wsX7_music) := goodIn_app (goodIn_of _ (by decide +kernel)) ggL_law_X7_music
set_option maxRecDepth 20000 in
theorem ggL_law_L_common : GoodIn wsL_law wsL_common := goodIn_ca (goodIn_r _ [707, 385, 708, 709, 710, 2, 711, 20, 517, 518, 519, 520, 390, 391, 339, 340, 341, 19, 342, 50, 211, 196, 197, 30, 198, 108, 712, 713, 714, 715, 57, 51, 226, 192, 193, 15, 194, 31, 195, 212, 213, 214, 215, 44, 716, 717, 718, 719, 889, 890, 891, 906, 907, 908, 909, 910, 911, 916, 917, 902, 903, 904, 905] (by decide +kernel) (by decide +kernel)) (goodIn_sub (fun _ h => List.mem_append_right _ h) (by decide +kernel))
set_option maxRecDepth 20000 in
theorem gL_law_L_common : GoodIn wsL_law (va_wsS RL 167 yL_common wsL_common) := goodIn_app (goodIn_of _ (by decide +kernel)) ggL_law_L_common
set_option maxRecDepth 20000 in
theorem ggL_law_X7_common : GoodIn wsL_law wsX7_common := goodIn_r _ [723, 144, 88, 87, 145, 146, 5, 147, 148, 149, 150, 151, 581, 582, 583, 584, 80, 156, 157, 158, 159, 86, 43, 585, 586, 587, 588, 79, 78, 379, 380, 381, 160, 161, 162, 724, 725, 726, 727, 728, 729, 730, 731, 592, 593, 594, 892, 893, 894, 895, 896, 897, 898, 899, 900, 901] (by decide +kernel) (by decide +kernel)
