/-! the law's words among its callees' -/
set_option maxRecDepth 20000 in
theorem ggL_law_X4_brokenAt : GoodIn wsL_law wsX4_brokenAt := goodIn_r _ [652, 16, 83, 725, 726, 727, 728, 729, 743, 744, 745, 746, 747, 748, 749, 750, 751, 752, 753, 754, 755] (by decide +kernel) (by decide +kernel)
set_option maxRecDepth 20000 in
theorem gL_law_X4_brokenAt : GoodIn wsL_law (wsV RL 151 RX4 yX4_brokenAt wsX4_brokenAt) := goodIn_app (goodIn_of _ (by decide +kernel)) ggL_law_X4_brokenAt
set_option maxRecDepth 20000 in
theorem ggL_law_X5_brokenAt : GoodIn wsL_law wsX5_brokenAt := goodIn_r _ [656, 124, 67, 309, 310, 311, 5, 312, 313, 314, 315, 316, 61, 317, 318, 319, 320, 305, 306, 307, 308, 321, 322, 323, 324, 730, 731, 732, 733, 734, 735, 736, 737, 738, 739, 740, 741, 742] (by decide +kernel) (by decide +kernel)
set_option maxRecDepth 20000 in
theorem gL_law_X5_brokenAt : GoodIn wsL_law (wsV RL 154 RX5 yX5_brokenAt wsX5_brokenAt) := goodIn_app (goodIn_of _ (by decide +kernel)) ggL_law_X5_brokenAt
set_option maxRecDepth 20000 in
theorem ggL_law_L_wordsTo : GoodIn wsL_law wsL_wordsTo := goodIn_ca (goodIn_r _ [659, 73, 660, 661, 662, 2, 663, 79, 80, 16, 84, 85, 86, 664, 601, 602, 15, 603, 34, 604, 269, 270, 271, 725, 726, 727, 728, 729, 743, 744, 745, 746, 747, 748, 749, 750, 751, 752, 753, 754, 755] (by decide +kernel) (by decide +kernel)) (goodIn_sub (fun _ h => List.mem_append_left _ (List.mem_append_left _ (List.mem_append_right _ h))) (by decide +kernel))
set_option maxRecDepth 20000 in
theorem gL_law_L_wordsTo : GoodIn wsL_law (va_wsS RL 155 yL_wordsTo wsL_wordsTo) := goodIn_app (goodIn_of _ (by decide +kernel)) ggL_law_L_wordsTo
set_option maxRecDepth 20000 in
theorem ggL_law_X5_wordsTo : GoodIn wsL_law wsX5_wordsTo := goodIn_r _ [668, 114, 115, 5, 116, 117, 118, 119, 120, 121, 122, 123, 124, 669, 670, 671, 672, 305, 306, 307, 308, 61, 321, 322, 323, 324, 317, 318, 319, 320, 730, 731, 732, 733, 734, 735, 736, 737, 738, 739, 740, 741, 742] (by decide +kernel) (by decide +kernel)
set_option maxRecDepth 20000 in
theorem gL_law_X5_wordsTo : GoodIn wsL_law (wsV RL 157 RX5 yX5_wordsTo wsX5_wordsTo) := goodIn_app (goodIn_of _ (by decide +kernel)) ggL_law_X5_wordsTo
set_option maxRecDepth 20000 in
theorem ggL_law_X4_brightness : GoodIn wsL_law wsX4_brightness := goodIn_r _ [676, 16, 677, 552, 553, 554, 15, 555, 37, 556, 506, 507, 508, 509, 503, 504, 557, 511, 512, 513, 39, 725, 726, 727, 728, 729, 743, 744, 745, 746, 747, 748, 749, 750, 751, 752, 753, 754, 755] (by decide +kernel) (by decide +kernel)
set_option maxRecDepth 20000 in
theorem gL_law_X4_brightness : GoodIn wsL_law (wsV RL 158 RX4 yX4_brightness wsX4_brightness) := goodIn_app (goodIn_of _ (by decide +kernel)) ggL_law_X4_brightness
set_option maxRecDepth 20000 in
theorem ggL_law_X5_brightness : GoodIn wsL_law wsX5_brightness := goodIn_r _ [681, 124, 682, 570, 571, 572, 5, 573, 522, 523, 524, 525, 61, 526, 527, 528, 529, 530, 531, 532, 730, 731, 732, 733, 734, 735, 736, 737, 738, 739, 740, 741, 742] (by decide +kernel) (by decide +kernel)
set_option maxRecDepth 20000 in
theorem gL_law_X5_brightness : GoodIn wsL_law (wsV RL 162 RX5 yX5_brightness wsX5_brightness) := goodIn_app (goodIn_of _ (by decide +kernel)) ggL_law_X5_brightness
set_option maxRecDepth 20000 in
theorem ggL_law_X4_digest : GoodIn wsL_law wsX4_digest := goodIn_ca (goodIn_ca (goodIn_r _ [686, 687, 688, 16, 162, 180, 540, 29, 24, 360, 689, 690, 549, 550, 2, 551, 81, 82, 244, 245, 247, 345, 189, 28, 482, 505, 506, 507, 15, 508, 37, 509, 503, 504, 552, 553, 554, 555, 556, 557, 511, 512, 513, 39, 558, 559, 560, 561, 691, 692, 693, 694, 20, 240, 248, 249, 250, 19, 251, 252, 46, 253, 101, 102, 103, 254, 255, 256, 257, 258, 44, 45, 259, 260, 261, 262, 263, 264, 265, 266, 267, 268, 269, 270, 271, 34, 272, 273, 274, 275, 276, 277, 278, 279, 280, 281, 282, 283, 284, 285, 286, 287, 288, 216, 217, 218, 695, 499, 500, 501, 79, 80, 83, 148, 239, 243, 241, 84, 85, 86, 502, 510, 596, 597, 598, 599, 104, 36, 40, 600, 601, 602, 603, 604, 605, 606, 607, 608, 35, 609, 610, 696, 638, 639, 640, 622, 623, 624, 625, 664, 697, 619, 620, 621, 209, 210, 211, 698, 650, 651, 652, 699, 674, 675, 676, 677, 700, 701, 702, 703, 704, 725, 726, 727, 728, 729, 743, 744, 745, 746, 747, 748, 749, 750, 751, 752, 753, 754, 755, 762, 763, 764, 765, 756, 757, 758, 759, 760, 761] (by decide +kernel) (by decide +kernel)) (goodIn_sub (fun _ h => List.mem_append_left _ (List.mem_append_right _ h)) (by decide +kernel))) (goodIn_sub (fun _ h => List.mem_append_left _ (List.mem_append_left _ (List.mem_append_right _ h))) (by decide +kernel))
set_option maxRecDepth 20000 in
theorem gL_law_X4_digest : GoodIn wsL_law (wsV RL 163 RX4 yX4_digest wsX4_digest) := goodIn_app (goodIn_of _ (by decide +kernel)) ggL_law_X4_digest
set_option maxRecDepth 20000 in
theorem ggL_law_X5_digest : GoodIn wsL_law wsX5_digest := goodIn_r _ [708, 124, 709, 710, 61, 67, 65, 370, 66, 566, 567, 568, 5, 569, 133, 526, 527, 528, 529, 530, 531, 532, 570, 571, 572, 573, 522, 523, 524, 525, 574, 575, 576, 577, 518, 519, 520, 521, 325, 326, 327, 328, 301, 302, 303, 304, 305, 306, 307, 308, 309, 310, 311, 312, 313, 314, 315, 316, 317, 318, 319, 320, 321, 322, 323, 324, 329, 330, 331, 332, 333, 334, 335, 336, 228, 229, 230, 645, 646, 647, 648, 630, 631, 632, 633, 669, 670, 671, 672, 711, 654, 655, 656, 712, 679, 680, 681, 682, 713, 714, 715, 716, 717, 718, 719, 720, 721, 722, 723, 724, 730, 731, 732, 733, 734, 735, 736, 737, 738, 739, 740, 741, 742] (by decide +kernel) (by decide +kernel)
set_option maxRecDepth 20000 in
theorem gL_law_X5_digest : GoodIn wsL_law (wsV RL 167 RX5 yX5_digest wsX5_digest) := goodIn_app (goodIn_of _ (by decide +kernel)) ggL_law_X5_digest
