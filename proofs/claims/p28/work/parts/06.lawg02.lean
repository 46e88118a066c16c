set_option maxRecDepth 20000 in
theorem ggL_call_X4_undo : GoodIn wsL_call wsX4_undo := goodIn_ca (goodIn_r _ [235, 112, 113, 13, 14, 236, 237, 238, 239, 22, 240, 24, 25, 227, 47, 48, 28, 49, 39, 50, 51, 52, 53, 40, 41, 42, 43, 44, 45, 54, 55, 56, 57, 58, 59, 241, 242, 243, 244, 245, 246, 247, 248, 249, 263, 264, 250, 251, 252, 253, 254, 255, 256, 257, 258, 259, 260, 261, 262] (by decide +kernel) (by decide +kernel)) (goodIn_sub (fun _ h => List.mem_cons_of_mem _ (List.mem_append_right _ h)) (by decide +kernel))
set_option maxRecDepth 20000 in
theorem gL_call_X4_undo : GoodIn wsL_call (wsV RL 41 RX4 yX4_undo wsX4_undo) := goodIn_app (goodIn_of _ (by decide +kernel)) ggL_call_X4_undo
set_option maxRecDepth 20000 in
theorem ggL_ask_X4_lampOf : GoodIn wsL_ask wsX4_lampOf := goodIn_ca (goodIn_ca (goodIn_r _ [7, 8, 9, 10, 11, 12, 13, 14, 15, 16, 17, 18, 19, 6, 20, 21, 22, 23, 24, 25, 26, 27, 28, 29, 30, 31, 32, 33, 34, 35, 168, 169, 170, 171, 172, 173, 174, 175, 176, 177, 178, 179, 180, 181, 182, 183, 184, 185] (by decide +kernel) (by decide +kernel)) (goodIn_sub (fun _ h => List.mem_cons_of_mem _ (List.mem_append_left _ (List.mem_append_right _ h))) (by decide +kernel))) (goodIn_sub (fun _ h => List.mem_cons_of_mem _ (List.mem_append_right _ h)) (by decide +kernel))
set_option maxRecDepth 20000 in
theorem gL_ask_X4_lampOf : GoodIn wsL_ask (wsV RL 50 RX4 yX4_lampOf wsX4_lampOf) := goodIn_app (goodIn_of _ (by decide +kernel)) ggL_ask_X4_lampOf
set_option maxRecDepth 20000 in
theorem ggL_ask_X4_pulseAt : GoodIn wsL_ask wsX4_pulseAt := goodIn_ca (goodIn_r _ [39, 10, 11, 12, 40, 41, 168, 169, 170, 171, 172, 173, 174, 175, 176, 177, 178, 179, 180, 181, 182, 183, 184, 185] (by decide +kernel) (by decide +kernel)) (goodIn_sub (fun _ h => List.mem_cons_of_mem _ (List.mem_append_right _ h)) (by decide +kernel))
set_option maxRecDepth 20000 in
theorem gL_ask_X4_pulseAt : GoodIn wsL_ask (wsV RL 53 RX4 yX4_pulseAt wsX4_pulseAt) := goodIn_app (goodIn_of _ (by decide +kernel)) ggL_ask_X4_pulseAt
set_option maxRecDepth 20000 in
theorem ggL_ask_X4_count : GoodIn wsL_ask wsX4_count := goodIn_ca (goodIn_r _ [45, 10, 11, 12, 40, 46, 47, 48, 49, 50, 51, 52, 25, 26, 27, 23, 28, 29, 30, 22, 24, 53, 54, 55, 56, 57, 58, 32, 33, 34, 35, 59, 60, 61, 62, 168, 169, 170, 171, 172, 173, 174, 175, 176, 177, 178, 179, 180, 181, 182, 183, 184, 185, 186, 187] (by decide +kernel) (by decide +kernel)) (goodIn_sub (fun _ h => List.mem_cons_of_mem _ (List.mem_append_right _ h)) (by decide +kernel))
set_option maxRecDepth 20000 in
theorem gL_ask_X4_count : GoodIn wsL_ask (wsV RL 56 RX4 yX4_count wsX4_count) := goodIn_app (goodIn_of _ (by decide +kernel)) ggL_ask_X4_count
set_option maxRecDepth 20000 in
theorem ggL_ask_X4_setting : GoodIn wsL_ask wsX4_setting := goodIn_ca (goodIn_r _ [66, 8, 9, 12, 67, 68, 69, 6, 70, 168, 169, 170, 171, 172, 173, 174, 175, 176, 177, 178, 179, 180, 181, 182, 183, 184, 185] (by decide +kernel) (by decide +kernel)) (goodIn_sub (fun _ h => List.mem_cons_of_mem _ (List.mem_append_left _ (List.mem_append_right _ h))) (by decide +kernel))
set_option maxRecDepth 20000 in
theorem gL_ask_X4_setting : GoodIn wsL_ask (wsV RL 59 RX4 yX4_setting wsX4_setting) := goodIn_app (goodIn_of _ (by decide +kernel)) ggL_ask_X4_setting
set_option maxRecDepth 20000 in
theorem ggL_ask_X4_ifGap : GoodIn wsL_ask wsX4_ifGap := goodIn_ca (goodIn_ca (goodIn_r _ [74, 8, 9, 10, 11, 12, 75, 76, 18, 19, 6, 20, 77, 78, 79, 23, 80, 81, 82, 83, 84, 85, 86, 87, 88, 89, 90, 91, 92, 93, 94, 95, 96, 97, 98, 99, 100, 101, 102, 103, 104, 35, 105, 106, 107, 108, 109, 110, 111, 112, 113, 114, 115, 116, 117, 118, 119, 120, 121, 122, 123, 124, 125, 126, 127, 128, 129, 130, 131, 132, 133, 134, 135, 136, 137, 138, 139, 140, 141, 142, 143, 144, 145, 146, 147, 168, 169, 170, 171, 172, 188, 189, 190, 191, 192, 193, 173, 174, 175, 176, 177, 178, 179, 180, 181, 182, 183, 184, 185] (by decide +kernel) (by decide +kernel)) (goodIn_sub (fun _ h => List.mem_cons_of_mem _ (List.mem_append_left _ (List.mem_append_right _ h))) (by decide +kernel))) (goodIn_sub (fun _ h => List.mem_cons_of_mem _ (List.mem_append_right _ h)) (by decide +kernel))
set_option maxRecDepth 20000 in
theorem gL_ask_X4_ifGap : GoodIn wsL_ask (wsV RL 62 RX4 yX4_ifGap wsX4_ifGap) := goodIn_app (goodIn_of _ (by decide +kernel)) ggL_ask_X4_ifGap
set_option maxRecDepth 20000 in
theorem ggL_ask_X4_wrong : GoodIn wsL_ask wsX4_wrong := goodIn_ca (goodIn_r _ [151, 10, 11, 12, 152, 153, 6, 154, 155, 156, 157, 23, 158, 97, 82, 88, 98, 99, 100, 89, 90, 91, 92, 105, 106, 107, 108, 35, 101, 102, 103, 104, 109, 110, 111, 168, 169, 170, 171, 172, 173, 174, 175, 176, 177, 178, 179, 180, 181, 182, 183, 184, 185] (by decide +kernel) (by decide +kernel)) (goodIn_sub (fun _ h => List.mem_cons_of_mem _ (List.mem_append_right _ h)) (by decide +kernel))
set_option maxRecDepth 20000 in
theorem gL_ask_X4_wrong : GoodIn wsL_ask (wsV RL 65 RX4 yX4_wrong wsX4_wrong) := goodIn_app (goodIn_of _ (by decide +kernel)) ggL_ask_X4_wrong
set_option maxRecDepth 20000 in
theorem ggL_ask_X4_bears : GoodIn wsL_ask wsX4_bears := goodIn_ca (goodIn_r _ [162, 8, 9, 12, 18, 19, 6, 20, 155, 156, 157, 23, 158, 97, 82, 88, 98, 99, 100, 89, 90, 91, 92, 105, 106, 107, 108, 35, 101, 102, 103, 104, 109, 110, 111, 168, 169, 170, 171, 172, 173, 174, 175, 176, 177, 178, 179, 180, 181, 182, 183, 184, 185] (by decide +kernel) (by decide +kernel)) (goodIn_sub (fun _ h => List.mem_cons_of_mem _ (List.mem_append_left _ (List.mem_append_right _ h))) (by decide +kernel))
set_option maxRecDepth 20000 in
theorem gL_ask_X4_bears : GoodIn wsL_ask (wsV RL 68 RX4 yX4_bears wsX4_bears) := goodIn_app (goodIn_of _ (by decide +kernel)) ggL_ask_X4_bears
set_option maxRecDepth 20000 in
theorem ggL_ask_X4_wordsTo : GoodIn wsL_ask wsX4_wordsTo := goodIn_ca (goodIn_r _ [166, 8, 9, 12, 18, 19, 6, 20, 167, 85, 86, 23, 87, 88, 89, 90, 91, 92, 168, 169, 170, 171, 172, 173, 174, 175, 176, 177, 178, 179, 180, 181, 182, 183, 184, 185] (by decide +kernel) (by decide +kernel)) (goodIn_sub (fun _ h => List.mem_cons_of_mem _ (List.mem_append_left _ (List.mem_append_right _ h))) (by decide +kernel))
set_option maxRecDepth 20000 in
theorem gL_ask_X4_wordsTo : GoodIn wsL_ask (wsV RL 71 RX4 yX4_wordsTo wsX4_wordsTo) := goodIn_app (goodIn_of _ (by decide +kernel)) ggL_ask_X4_wordsTo
