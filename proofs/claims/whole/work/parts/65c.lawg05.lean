/-! the law's words among its callees' -/
set_option maxRecDepth 20000 in
theorem ggL_law_X5_count : GoodIn wsL_law wsX5_count := goodIn_r _ [565, 117, 118, 5, 119, 120, 121, 122, 123, 124, 566, 567, 568, 569, 61, 133, 526, 527, 528, 529, 530, 531, 532, 570, 571, 572, 573, 522, 523, 524, 525, 574, 575, 576, 577, 730, 731, 732, 733, 734, 735, 736, 737, 738, 739, 740, 741, 742] (by decide +kernel) (by decide +kernel)
set_option maxRecDepth 20000 in
theorem gL_law_X5_count : GoodIn wsL_law (wsV RL 138 RX5 yX5_count wsX5_count) := goodIn_app (goodIn_of _ (by decide +kernel)) ggL_law_X5_count
set_option maxRecDepth 20000 in
theorem ggL_law_L_setting : GoodIn wsL_law wsL_setting := goodIn_ca (goodIn_r _ [580, 73, 581, 582, 583, 2, 584, 79, 80, 16, 162, 163, 164, 165, 725, 726, 727, 728, 729, 743, 744, 745, 746, 747, 748, 749, 750, 751, 752, 753, 754, 755] (by decide +kernel) (by decide +kernel)) (goodIn_sub (fun _ h => List.mem_append_left _ (List.mem_append_left _ (List.mem_append_right _ h))) (by decide +kernel))
set_option maxRecDepth 20000 in
theorem gL_law_L_setting : GoodIn wsL_law (va_wsS RL 139 yL_setting wsL_setting) := goodIn_app (goodIn_of _ (by decide +kernel)) ggL_law_L_setting
set_option maxRecDepth 20000 in
theorem ggL_law_X5_setting : GoodIn wsL_law wsX5_setting := goodIn_r _ [588, 61, 117, 118, 5, 119, 120, 121, 122, 123, 124, 730, 731, 732, 733, 734, 735, 736, 737, 738, 739, 740, 741, 742] (by decide +kernel) (by decide +kernel)
set_option maxRecDepth 20000 in
theorem gL_law_X5_setting : GoodIn wsL_law (wsV RL 141 RX5 yX5_setting wsX5_setting) := goodIn_app (goodIn_of _ (by decide +kernel)) ggL_law_X5_setting
set_option maxRecDepth 20000 in
theorem ggL_law_L_ifGap : GoodIn wsL_law wsL_ifGap := goodIn_ca (goodIn_ca (goodIn_r _ [591, 73, 74, 592, 593, 594, 2, 595, 79, 80, 81, 82, 16, 20, 240, 84, 85, 86, 596, 597, 598, 15, 599, 104, 36, 40, 600, 601, 602, 603, 34, 604, 269, 270, 271, 605, 606, 607, 608, 35, 609, 266, 267, 610, 285, 286, 287, 39, 288, 281, 282, 283, 216, 217, 218, 248, 249, 250, 19, 251, 252, 46, 253, 101, 102, 103, 254, 255, 256, 257, 258, 44, 45, 259, 260, 261, 262, 263, 264, 265, 268, 272, 273, 274, 275, 276, 277, 278, 279, 280, 284, 725, 726, 727, 728, 729, 756, 757, 758, 759, 760, 761, 743, 744, 745, 746, 747, 748, 749, 750, 751, 752, 753, 754, 755] (by decide +kernel) (by decide +kernel)) (goodIn_sub (fun _ h => List.mem_append_left _ (List.mem_append_left _ (List.mem_append_right _ h))) (by decide +kernel))) (goodIn_sub (fun _ h => List.mem_append_left _ (List.mem_append_right _ h)) (by decide +kernel))
set_option maxRecDepth 20000 in
theorem gL_law_L_ifGap : GoodIn wsL_law (va_wsS RL 142 yL_ifGap wsL_ifGap) := goodIn_app (goodIn_of _ (by decide +kernel)) ggL_law_L_ifGap
set_option maxRecDepth 20000 in
theorem ggL_law_X5_ifGap : GoodIn wsL_law wsX5_ifGap := goodIn_r _ [614, 67, 114, 115, 5, 116, 117, 118, 119, 120, 121, 122, 123, 124, 325, 326, 327, 328, 61, 301, 302, 303, 304, 305, 306, 307, 308, 309, 310, 311, 312, 313, 314, 315, 316, 317, 318, 319, 320, 321, 322, 323, 324, 329, 330, 331, 332, 333, 334, 335, 336, 228, 229, 230, 730, 731, 732, 733, 734, 735, 736, 737, 738, 739, 740, 741, 742] (by decide +kernel) (by decide +kernel)
set_option maxRecDepth 20000 in
theorem gL_law_X5_ifGap : GoodIn wsL_law (wsV RL 144 RX5 yX5_ifGap wsX5_ifGap) := goodIn_app (goodIn_of _ (by decide +kernel)) ggL_law_X5_ifGap
set_option maxRecDepth 20000 in
theorem ggL_law_L_wrong : GoodIn wsL_law wsL_wrong := goodIn_ca (goodIn_r _ [617, 74, 618, 619, 620, 2, 621, 81, 82, 16, 209, 210, 211, 622, 623, 624, 15, 625, 35, 36, 34, 609, 266, 267, 604, 269, 270, 271, 288, 281, 282, 283, 39, 610, 285, 286, 287, 216, 217, 218, 725, 726, 727, 728, 729, 743, 744, 745, 746, 747, 748, 749, 750, 751, 752, 753, 754, 755] (by decide +kernel) (by decide +kernel)) (goodIn_sub (fun _ h => List.mem_append_left _ (List.mem_append_right _ h)) (by decide +kernel))
set_option maxRecDepth 20000 in
theorem gL_law_L_wrong : GoodIn wsL_law (va_wsS RL 145 yL_wrong wsL_wrong) := goodIn_app (goodIn_of _ (by decide +kernel)) ggL_law_L_wrong
set_option maxRecDepth 20000 in
theorem ggL_law_X5_wrong : GoodIn wsL_law wsX5_wrong := goodIn_r _ [629, 117, 118, 5, 119, 120, 121, 122, 123, 124, 630, 631, 632, 633, 67, 61, 325, 326, 327, 328, 301, 302, 303, 304, 305, 306, 307, 308, 309, 310, 311, 312, 313, 314, 315, 316, 317, 318, 319, 320, 321, 322, 323, 324, 329, 330, 331, 332, 333, 334, 335, 336, 228, 229, 230, 730, 731, 732, 733, 734, 735, 736, 737, 738, 739, 740, 741, 742] (by decide +kernel) (by decide +kernel)
set_option maxRecDepth 20000 in
theorem gL_law_X5_wrong : GoodIn wsL_law (wsV RL 147 RX5 yX5_wrong wsX5_wrong) := goodIn_app (goodIn_of _ (by decide +kernel)) ggL_law_X5_wrong
set_option maxRecDepth 20000 in
theorem ggL_law_L_bears : GoodIn wsL_law wsL_bears := goodIn_ca (goodIn_r _ [636, 73, 637, 638, 639, 2, 640, 79, 80, 16, 84, 85, 86, 622, 623, 624, 15, 625, 35, 36, 34, 609, 266, 267, 604, 269, 270, 271, 288, 281, 282, 283, 39, 610, 285, 286, 287, 216, 217, 218, 725, 726, 727, 728, 729, 743, 744, 745, 746, 747, 748, 749, 750, 751, 752, 753, 754, 755] (by decide +kernel) (by decide +kernel)) (goodIn_sub (fun _ h => List.mem_append_left _ (List.mem_append_left _ (List.mem_append_right _ h))) (by decide +kernel))
set_option maxRecDepth 20000 in
theorem gL_law_L_bears : GoodIn wsL_law (va_wsS RL 148 yL_bears wsL_bears) := goodIn_app (goodIn_of _ (by decide +kernel)) ggL_law_L_bears
set_option maxRecDepth 20000 in
theorem ggL_law_X5_bears : GoodIn wsL_law wsX5_bears := goodIn_r _ [644, 114, 115, 5, 116, 117, 118, 119, 120, 121, 122, 123, 124, 645, 646, 647, 648, 61, 630, 631, 632, 633, 67, 325, 326, 327, 328, 301, 302, 303, 304, 305, 306, 307, 308, 309, 310, 311, 312, 313, 314, 315, 316, 317, 318, 319, 320, 321, 322, 323, 324, 329, 330, 331, 332, 333, 334, 335, 336, 228, 229, 230, 730, 731, 732, 733, 734, 735, 736, 737, 738, 739, 740, 741, 742] (by decide +kernel) (by decide +kernel)
set_option maxRecDepth 20000 in
theorem gL_law_X5_bears : GoodIn wsL_law (wsV RL 150 RX5 yX5_bears wsX5_bears) := goodIn_app (goodIn_of _ (by decide +kernel)) ggL_law_X5_bears
