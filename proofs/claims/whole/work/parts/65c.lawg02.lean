/-! the law's words among its callees' -/
set_option maxRecDepth 20000 in
theorem ggL_law_L_pulse : GoodIn wsL_law wsL_pulse := goodIn_ca (goodIn_r _ [175, 74, 176, 177, 178, 2, 179, 81, 82, 28, 16, 180, 87, 88, 89, 27, 90, 91, 56, 55, 14, 15, 92, 93, 94, 95, 30, 31, 32, 11, 12, 33, 34, 35, 36, 37, 38, 39, 40, 96, 97, 98, 99, 100, 101, 102, 103, 104, 105, 106, 107, 108, 109, 181, 182, 183, 184, 185, 186, 187, 188, 189, 190, 191, 192, 193, 725, 726, 727, 728, 729, 743, 744, 745, 746, 747, 748, 749, 750, 751, 752, 753, 754, 755, 764, 765] (by decide +kernel) (by decide +kernel)) (goodIn_sub (fun _ h => List.mem_append_left _ (List.mem_append_right _ h)) (by decide +kernel))
set_option maxRecDepth 20000 in
theorem gL_law_L_pulse : GoodIn wsL_law (va_wsS RL 91 yL_pulse wsL_pulse) := goodIn_app (goodIn_of _ (by decide +kernel)) ggL_law_L_pulse
set_option maxRecDepth 20000 in
theorem ggL_law_X5_pulse : GoodIn wsL_law wsX5_pulse := goodIn_r _ [197, 61, 117, 118, 5, 119, 120, 121, 122, 123, 124, 129, 130, 131, 132, 133, 62, 134, 135, 136, 198, 199, 200, 201, 730, 731, 732, 733, 734, 735, 736, 737, 738, 739, 740, 741, 742] (by decide +kernel) (by decide +kernel)
set_option maxRecDepth 20000 in
theorem gL_law_X5_pulse : GoodIn wsL_law (wsV RL 94 RX5 yX5_pulse wsX5_pulse) := goodIn_app (goodIn_of _ (by decide +kernel)) ggL_law_X5_pulse
set_option maxRecDepth 20000 in
theorem ggL_law_L_send : GoodIn wsL_law wsL_send := goodIn_ca (goodIn_r _ [204, 74, 205, 206, 207, 2, 208, 81, 82, 28, 16, 180, 209, 210, 211, 87, 88, 89, 27, 90, 91, 56, 55, 14, 15, 92, 93, 94, 95, 30, 31, 32, 11, 12, 33, 34, 35, 36, 37, 38, 39, 40, 96, 97, 98, 99, 100, 101, 102, 103, 104, 105, 106, 107, 108, 109, 181, 182, 183, 184, 185, 186, 187, 188, 189, 212, 213, 214, 215, 216, 217, 218, 219, 191, 192, 193, 725, 726, 727, 728, 729, 743, 744, 745, 746, 747, 748, 749, 750, 751, 752, 753, 754, 755, 764, 765] (by decide +kernel) (by decide +kernel)) (goodIn_sub (fun _ h => List.mem_append_left _ (List.mem_append_right _ h)) (by decide +kernel))
set_option maxRecDepth 20000 in
theorem gL_law_L_send : GoodIn wsL_law (va_wsS RL 95 yL_send wsL_send) := goodIn_app (goodIn_of _ (by decide +kernel)) ggL_law_L_send
set_option maxRecDepth 20000 in
theorem ggL_law_X5_send : GoodIn wsL_law wsX5_send := goodIn_r _ [223, 61, 117, 118, 5, 119, 120, 121, 122, 123, 124, 129, 130, 131, 132, 133, 62, 134, 135, 136, 224, 225, 226, 227, 228, 229, 230, 198, 199, 200, 201, 730, 731, 732, 733, 734, 735, 736, 737, 738, 739, 740, 741, 742] (by decide +kernel) (by decide +kernel)
set_option maxRecDepth 20000 in
theorem gL_law_X5_send : GoodIn wsL_law (wsV RL 97 RX5 yX5_send wsX5_send) := goodIn_app (goodIn_of _ (by decide +kernel)) ggL_law_X5_send
set_option maxRecDepth 20000 in
theorem ggL_law_X4_gap : GoodIn wsL_law wsX4_gap := goodIn_r _ [234, 28, 16, 87, 88, 89, 27, 90, 91, 56, 55, 14, 15, 92, 93, 94, 95, 30, 31, 32, 11, 12, 33, 34, 35, 36, 37, 38, 39, 40, 96, 97, 98, 99, 100, 101, 102, 103, 104, 105, 106, 107, 108, 109, 235, 236, 237, 2, 238, 20, 239, 240, 241, 242, 243, 83, 244, 245, 246, 247, 180, 248, 249, 250, 19, 251, 252, 46, 253, 254, 255, 256, 257, 258, 44, 45, 259, 260, 261, 262, 263, 264, 265, 266, 267, 268, 269, 270, 271, 272, 273, 274, 275, 276, 277, 278, 279, 280, 281, 282, 283, 284, 285, 286, 287, 288, 216, 217, 218, 725, 726, 727, 728, 729, 764, 765, 743, 744, 745, 746, 747, 748, 749, 750, 751, 752, 753, 754, 755, 756, 757, 758, 759, 760, 761] (by decide +kernel) (by decide +kernel)
set_option maxRecDepth 20000 in
theorem gL_law_X4_gap : GoodIn wsL_law (wsV RL 98 RX4 yX4_gap wsX4_gap) := goodIn_app (goodIn_of _ (by decide +kernel)) ggL_law_X4_gap
set_option maxRecDepth 20000 in
theorem ggL_law_X5_gap : GoodIn wsL_law wsX5_gap := goodIn_r _ [292, 124, 129, 130, 131, 5, 132, 133, 62, 61, 134, 135, 136, 293, 294, 295, 296, 67, 297, 298, 299, 300, 301, 302, 303, 304, 305, 306, 307, 308, 309, 310, 311, 312, 313, 314, 315, 316, 317, 318, 319, 320, 321, 322, 323, 324, 325, 326, 327, 328, 329, 330, 331, 332, 333, 334, 335, 336, 228, 229, 230, 337, 338, 339, 340, 730, 731, 732, 733, 734, 735, 736, 737, 738, 739, 740, 741, 742] (by decide +kernel) (by decide +kernel)
set_option maxRecDepth 20000 in
theorem gL_law_X5_gap : GoodIn wsL_law (wsV RL 101 RX5 yX5_gap wsX5_gap) := goodIn_app (goodIn_of _ (by decide +kernel)) ggL_law_X5_gap
set_option maxRecDepth 20000 in
theorem ggL_law_X4_drop : GoodIn wsL_law wsX4_drop := goodIn_r _ [344, 28, 16, 180, 345, 87, 88, 89, 27, 90, 91, 56, 55, 14, 15, 92, 93, 94, 95, 30, 31, 32, 11, 12, 33, 34, 35, 36, 37, 38, 39, 40, 96, 97, 98, 99, 100, 101, 102, 103, 104, 105, 106, 107, 108, 109, 725, 726, 727, 728, 729, 743, 744, 745, 746, 747, 748, 749, 750, 751, 752, 753, 754, 755, 764, 765] (by decide +kernel) (by decide +kernel)
set_option maxRecDepth 20000 in
theorem gL_law_X4_drop : GoodIn wsL_law (wsV RL 102 RX4 yX4_drop wsX4_drop) := goodIn_app (goodIn_of _ (by decide +kernel)) ggL_law_X4_drop
set_option maxRecDepth 20000 in
theorem ggL_law_X5_drop : GoodIn wsL_law wsX5_drop := goodIn_r _ [349, 124, 61, 129, 130, 131, 5, 132, 133, 62, 134, 135, 136, 337, 338, 339, 340, 730, 731, 732, 733, 734, 735, 736, 737, 738, 739, 740, 741, 742] (by decide +kernel) (by decide +kernel)
set_option maxRecDepth 20000 in
theorem gL_law_X5_drop : GoodIn wsL_law (wsV RL 105 RX5 yX5_drop wsX5_drop) := goodIn_app (goodIn_of _ (by decide +kernel)) ggL_law_X5_drop
set_option maxRecDepth 20000 in
theorem ggL_law_L_append : GoodIn wsL_law wsL_append := goodIn_ca (goodIn_ca (goodIn_r _ [352, 74, 353, 354, 355, 356, 2, 357, 81, 82, 358, 359, 24, 360, 361, 362, 363, 23, 364, 365, 51, 725, 726, 727, 728, 729, 762, 763] (by decide +kernel) (by decide +kernel)) (goodIn_sub (fun _ h => List.mem_append_left _ (List.mem_append_right _ h)) (by decide +kernel))) (goodIn_sub (fun _ h => List.mem_append_right _ h) (by decide +kernel))
set_option maxRecDepth 20000 in
theorem gL_law_L_append : GoodIn wsL_law (va_wsS RL 106 yL_append wsL_append) := goodIn_app (goodIn_of _ (by decide +kernel)) ggL_law_L_append
