set_option maxRecDepth 20000 in
theorem ggL_seen_X4_count : GoodIn wsL_seen wsX4_count := goodIn_ca (goodIn_r _ [7, 8, 9, 10, 11, 12, 13, 14, 15, 16, 17, 18, 19, 20, 21, 22, 23, 24, 25, 26, 27, 28, 29, 30, 31, 32, 33, 34, 35, 36, 37, 38, 39, 40, 41, 71, 72, 73, 74, 75, 76, 77, 78, 79, 80, 81, 82, 83, 84, 85, 86, 87, 88, 89, 90] (by decide +kernel) (by decide +kernel)) (goodIn_sub (fun _ h => List.mem_cons_of_mem _ (List.mem_append_left _ (List.mem_append_right _ h))) (by decide +kernel))
set_option maxRecDepth 20000 in
theorem gL_seen_X4_count : GoodIn wsL_seen (wsV RL 56 RX4 yX4_count wsX4_count) := goodIn_app (goodIn_of _ (by decide +kernel)) ggL_seen_X4_count
set_option maxRecDepth 20000 in
theorem ggL_seen_X4_lampOf : GoodIn wsL_seen wsX4_lampOf := goodIn_ca (goodIn_ca (goodIn_r _ [45, 46, 47, 8, 9, 10, 48, 49, 50, 51, 52, 53, 54, 6, 55, 56, 26, 22, 27, 19, 20, 21, 23, 24, 25, 57, 34, 35, 36, 37, 71, 72, 73, 74, 75, 76, 77, 78, 79, 80, 81, 82, 83, 84, 85, 86, 87, 88] (by decide +kernel) (by decide +kernel)) (goodIn_sub (fun _ h => List.mem_cons_of_mem _ (List.mem_append_right _ h)) (by decide +kernel))) (goodIn_sub (fun _ h => List.mem_cons_of_mem _ (List.mem_append_left _ (List.mem_append_right _ h))) (by decide +kernel))
set_option maxRecDepth 20000 in
theorem gL_seen_X4_lampOf : GoodIn wsL_seen (wsV RL 50 RX4 yX4_lampOf wsX4_lampOf) := goodIn_app (goodIn_of _ (by decide +kernel)) ggL_seen_X4_lampOf
set_option maxRecDepth 20000 in
theorem ggL_seen_X4_pulseAt : GoodIn wsL_seen wsX4_pulseAt := goodIn_ca (goodIn_r _ [61, 8, 9, 10, 11, 62, 71, 72, 73, 74, 75, 76, 77, 78, 79, 80, 81, 82, 83, 84, 85, 86, 87, 88] (by decide +kernel) (by decide +kernel)) (goodIn_sub (fun _ h => List.mem_cons_of_mem _ (List.mem_append_left _ (List.mem_append_right _ h))) (by decide +kernel))
set_option maxRecDepth 20000 in
theorem gL_seen_X4_pulseAt : GoodIn wsL_seen (wsV RL 53 RX4 yX4_pulseAt wsX4_pulseAt) := goodIn_app (goodIn_of _ (by decide +kernel)) ggL_seen_X4_pulseAt
set_option maxRecDepth 20000 in
theorem ggL_seen_X4_setting : GoodIn wsL_seen wsX4_setting := goodIn_ca (goodIn_r _ [66, 46, 47, 10, 67, 68, 69, 6, 70, 71, 72, 73, 74, 75, 76, 77, 78, 79, 80, 81, 82, 83, 84, 85, 86, 87, 88] (by decide +kernel) (by decide +kernel)) (goodIn_sub (fun _ h => List.mem_cons_of_mem _ (List.mem_append_right _ h)) (by decide +kernel))
set_option maxRecDepth 20000 in
theorem gL_seen_X4_setting : GoodIn wsL_seen (wsV RL 59 RX4 yX4_setting wsX4_setting) := goodIn_app (goodIn_of _ (by decide +kernel)) ggL_seen_X4_setting
set_option maxRecDepth 20000 in
theorem ggL_isWhole_X4_lampOf : GoodIn wsL_isWhole wsX4_lampOf := goodIn_ca (goodIn_ca (goodIn_r _ [5, 6, 7, 8, 9, 10, 11, 12, 13, 14, 15, 16, 17, 4, 18, 19, 20, 21, 22, 23, 24, 25, 26, 27, 28, 29, 30, 31, 32, 33, 82, 83, 84, 85, 86, 87, 88, 89, 90, 91, 92, 93, 94, 95, 96, 97, 98, 99] (by decide +kernel) (by decide +kernel)) (goodIn_sub (fun _ h => List.mem_cons_of_mem _ (List.mem_append_left _ (List.mem_append_right _ h))) (by decide +kernel))) (goodIn_sub (fun _ h => List.mem_cons_of_mem _ (List.mem_append_right _ h)) (by decide +kernel))
set_option maxRecDepth 20000 in
theorem gL_isWhole_X4_lampOf : GoodIn wsL_isWhole (wsV RL 50 RX4 yX4_lampOf wsX4_lampOf) := goodIn_app (goodIn_of _ (by decide +kernel)) ggL_isWhole_X4_lampOf
set_option maxRecDepth 20000 in
theorem ggL_isWhole_X4_wordsTo : GoodIn wsL_isWhole wsX4_wordsTo := goodIn_ca (goodIn_r _ [37, 6, 7, 10, 16, 17, 4, 18, 38, 39, 40, 21, 41, 42, 43, 44, 45, 46, 82, 83, 84, 85, 86, 87, 88, 89, 90, 91, 92, 93, 94, 95, 96, 97, 98, 99] (by decide +kernel) (by decide +kernel)) (goodIn_sub (fun _ h => List.mem_cons_of_mem _ (List.mem_append_left _ (List.mem_append_right _ h))) (by decide +kernel))
set_option maxRecDepth 20000 in
theorem gL_isWhole_X4_wordsTo : GoodIn wsL_isWhole (wsV RL 71 RX4 yX4_wordsTo wsX4_wordsTo) := goodIn_app (goodIn_of _ (by decide +kernel)) ggL_isWhole_X4_wordsTo
set_option maxRecDepth 20000 in
theorem ggL_isWhole_X4_count : GoodIn wsL_isWhole wsX4_count := goodIn_ca (goodIn_r _ [50, 8, 9, 10, 51, 52, 53, 54, 55, 56, 57, 58, 23, 24, 25, 21, 26, 27, 28, 20, 22, 59, 60, 61, 62, 63, 64, 30, 31, 32, 33, 65, 66, 67, 68, 82, 83, 84, 85, 86, 87, 88, 89, 90, 91, 92, 93, 94, 95, 96, 97, 98, 99, 100, 101] (by decide +kernel) (by decide +kernel)) (goodIn_sub (fun _ h => List.mem_cons_of_mem _ (List.mem_append_right _ h)) (by decide +kernel))
set_option maxRecDepth 20000 in
theorem gL_isWhole_X4_count : GoodIn wsL_isWhole (wsV RL 56 RX4 yX4_count wsX4_count) := goodIn_app (goodIn_of _ (by decide +kernel)) ggL_isWhole_X4_count
set_option maxRecDepth 20000 in
theorem ggL_isWhole_X4_setting : GoodIn wsL_isWhole wsX4_setting := goodIn_ca (goodIn_r _ [72, 6, 7, 10, 73, 74, 75, 4, 76, 82, 83, 84, 85, 86, 87, 88, 89, 90, 91, 92, 93, 94, 95, 96, 97, 98, 99] (by decide +kernel) (by decide +kernel)) (goodIn_sub (fun _ h => List.mem_cons_of_mem _ (List.mem_append_left _ (List.mem_append_right _ h))) (by decide +kernel))
set_option maxRecDepth 20000 in
theorem gL_isWhole_X4_setting : GoodIn wsL_isWhole (wsV RL 59 RX4 yX4_setting wsX4_setting) := goodIn_app (goodIn_of _ (by decide +kernel)) ggL_isWhole_X4_setting
set_option maxRecDepth 20000 in
theorem ggL_isWhole_X4_brightness : GoodIn wsL_isWhole wsX4_brightness := goodIn_r _ [80, 10, 81, 59, 60, 61, 21, 62, 27, 63, 24, 25, 26, 28, 20, 22, 64, 30, 31, 32, 33, 82, 83, 84, 85, 86, 87, 88, 89, 90, 91, 92, 93, 94, 95, 96, 97, 98, 99] (by decide +kernel) (by decide +kernel)
set_option maxRecDepth 20000 in
theorem gL_isWhole_X4_brightness : GoodIn wsL_isWhole (wsV RL 80 RX4 yX4_brightness wsX4_brightness) := goodIn_app (goodIn_of _ (by decide +kernel)) ggL_isWhole_X4_brightness
