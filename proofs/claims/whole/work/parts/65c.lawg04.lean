/-! the law's words among its callees' -/
set_option maxRecDepth 20000 in
theorem ggL_law_L_goBack : GoodIn wsL_law wsL_goBack := goodIn_ca (goodIn_ca (goodIn_r _ [466, 74, 353, 467, 468, 469, 2, 470, 81, 82, 358, 359, 29, 28, 16, 180, 456, 457, 458, 87, 88, 89, 27, 90, 91, 56, 55, 14, 15, 92, 93, 94, 95, 30, 31, 32, 11, 12, 33, 34, 35, 36, 37, 38, 39, 40, 96, 97, 98, 99, 100, 101, 102, 103, 104, 105, 106, 107, 108, 109, 459, 725, 726, 727, 728, 729, 743, 744, 745, 746, 747, 748, 749, 750, 751, 752, 753, 754, 755, 764, 765] (by decide +kernel) (by decide +kernel)) (goodIn_sub (fun _ h => List.mem_append_left _ (List.mem_append_right _ h)) (by decide +kernel))) (goodIn_sub (fun _ h => List.mem_append_right _ h) (by decide +kernel))
set_option maxRecDepth 20000 in
theorem gL_law_L_goBack : GoodIn wsL_law (va_wsS RL 124 yL_goBack wsL_goBack) := goodIn_app (goodIn_of _ (by decide +kernel)) ggL_law_L_goBack
set_option maxRecDepth 20000 in
theorem ggL_law_X5_goBack : GoodIn wsL_law wsX5_goBack := goodIn_r _ [474, 65, 63, 61, 117, 118, 5, 119, 120, 121, 122, 123, 124, 129, 130, 131, 132, 133, 62, 134, 135, 136, 730, 731, 732, 733, 734, 735, 736, 737, 738, 739, 740, 741, 742] (by decide +kernel) (by decide +kernel)
set_option maxRecDepth 20000 in
theorem gL_law_X5_goBack : GoodIn wsL_law (wsV RL 126 RX5 yX5_goBack wsX5_goBack) := goodIn_app (goodIn_of _ (by decide +kernel)) ggL_law_X5_goBack
set_option maxRecDepth 20000 in
theorem ggL_law_L_undo : GoodIn wsL_law wsL_undo := goodIn_ca (goodIn_r _ [477, 353, 478, 479, 480, 2, 481, 358, 359, 28, 16, 482, 483, 484, 485, 27, 486, 91, 56, 459, 97, 98, 15, 99, 34, 100, 101, 102, 103, 35, 36, 37, 38, 39, 40, 104, 105, 106, 107, 108, 109, 487, 488, 489, 490, 725, 726, 727, 728, 729, 764, 765, 743, 744, 745, 746, 747, 748, 749, 750, 751, 752, 753, 754, 755] (by decide +kernel) (by decide +kernel)) (goodIn_sub (fun _ h => List.mem_append_right _ h) (by decide +kernel))
set_option maxRecDepth 20000 in
theorem gL_law_L_undo : GoodIn wsL_law (va_wsS RL 127 yL_undo wsL_undo) := goodIn_app (goodIn_of _ (by decide +kernel)) ggL_law_L_undo
set_option maxRecDepth 20000 in
theorem ggL_law_X5_undo : GoodIn wsL_law wsX5_undo := goodIn_r _ [494, 133, 62, 61, 120, 121, 122, 5, 123, 124, 134, 135, 136, 730, 731, 732, 733, 734, 735, 736, 737, 738, 739, 740, 741, 742] (by decide +kernel) (by decide +kernel)
set_option maxRecDepth 20000 in
theorem gL_law_X5_undo : GoodIn wsL_law (wsV RL 129 RX5 yX5_undo wsX5_undo) := goodIn_app (goodIn_of _ (by decide +kernel)) ggL_law_X5_undo
set_option maxRecDepth 20000 in
theorem ggL_law_L_lampOf : GoodIn wsL_law wsL_lampOf := goodIn_ca (goodIn_ca (goodIn_r _ [497, 73, 74, 498, 499, 500, 2, 501, 79, 80, 81, 82, 16, 83, 148, 239, 243, 241, 84, 85, 86, 502, 503, 15, 504, 505, 506, 507, 508, 37, 509, 510, 511, 512, 513, 39, 725, 726, 727, 728, 729, 743, 744, 745, 746, 747, 748, 749, 750, 751, 752, 753, 754, 755] (by decide +kernel) (by decide +kernel)) (goodIn_sub (fun _ h => List.mem_append_left _ (List.mem_append_left _ (List.mem_append_right _ h))) (by decide +kernel))) (goodIn_sub (fun _ h => List.mem_append_left _ (List.mem_append_right _ h)) (by decide +kernel))
set_option maxRecDepth 20000 in
theorem gL_law_L_lampOf : GoodIn wsL_law (va_wsS RL 130 yL_lampOf wsL_lampOf) := goodIn_app (goodIn_of _ (by decide +kernel)) ggL_law_L_lampOf
set_option maxRecDepth 20000 in
theorem ggL_law_X5_lampOf : GoodIn wsL_law wsX5_lampOf := goodIn_r _ [517, 114, 115, 5, 116, 117, 118, 119, 120, 121, 122, 123, 124, 518, 519, 520, 521, 61, 522, 523, 524, 525, 526, 527, 528, 529, 530, 531, 532, 730, 731, 732, 733, 734, 735, 736, 737, 738, 739, 740, 741, 742] (by decide +kernel) (by decide +kernel)
set_option maxRecDepth 20000 in
theorem gL_law_X5_lampOf : GoodIn wsL_law (wsV RL 132 RX5 yX5_lampOf wsX5_lampOf) := goodIn_app (goodIn_of _ (by decide +kernel)) ggL_law_X5_lampOf
set_option maxRecDepth 20000 in
theorem ggL_law_L_pulseAt : GoodIn wsL_law wsL_pulseAt := goodIn_ca (goodIn_r _ [535, 74, 536, 537, 538, 2, 539, 81, 82, 16, 180, 540, 725, 726, 727, 728, 729, 743, 744, 745, 746, 747, 748, 749, 750, 751, 752, 753, 754, 755] (by decide +kernel) (by decide +kernel)) (goodIn_sub (fun _ h => List.mem_append_left _ (List.mem_append_right _ h)) (by decide +kernel))
set_option maxRecDepth 20000 in
theorem gL_law_L_pulseAt : GoodIn wsL_law (va_wsS RL 133 yL_pulseAt wsL_pulseAt) := goodIn_app (goodIn_of _ (by decide +kernel)) ggL_law_L_pulseAt
set_option maxRecDepth 20000 in
theorem ggL_law_X5_pulseAt : GoodIn wsL_law wsX5_pulseAt := goodIn_r _ [544, 61, 120, 121, 122, 5, 123, 124, 730, 731, 732, 733, 734, 735, 736, 737, 738, 739, 740, 741, 742] (by decide +kernel) (by decide +kernel)
set_option maxRecDepth 20000 in
theorem gL_law_X5_pulseAt : GoodIn wsL_law (wsV RL 135 RX5 yX5_pulseAt wsX5_pulseAt) := goodIn_app (goodIn_of _ (by decide +kernel)) ggL_law_X5_pulseAt
set_option maxRecDepth 20000 in
theorem ggL_law_L_count : GoodIn wsL_law wsL_count := goodIn_ca (goodIn_r _ [547, 74, 548, 549, 550, 2, 551, 81, 82, 16, 180, 244, 245, 247, 345, 189, 28, 482, 505, 506, 507, 15, 508, 37, 509, 503, 504, 552, 553, 554, 555, 556, 557, 511, 512, 513, 39, 558, 559, 560, 561, 725, 726, 727, 728, 729, 743, 744, 745, 746, 747, 748, 749, 750, 751, 752, 753, 754, 755, 764, 765] (by decide +kernel) (by decide +kernel)) (goodIn_sub (fun _ h => List.mem_append_left _ (List.mem_append_right _ h)) (by decide +kernel))
set_option maxRecDepth 20000 in
theorem gL_law_L_count : GoodIn wsL_law (va_wsS RL 136 yL_count wsL_count) := goodIn_app (goodIn_of _ (by decide +kernel)) ggL_law_L_count
