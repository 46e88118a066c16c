set_option maxRecDepth 20000 in
theorem ggL_act_L_sends : GoodIn wsL_act wsL_sends := goodIn_ca (goodIn_r _ [4, 5, 6, 7, 8, 9, 10, 11, 12, 13, 14, 15, 16, 17, 18, 19, 20, 21, 22, 23, 24, 25, 26, 27, 28, 29, 30, 31, 32, 33, 34, 35, 36, 37, 38, 39, 40, 41, 42, 43, 44, 45, 46, 47, 48, 49, 50, 51, 52, 53, 54, 55, 56, 57, 58, 59, 60, 61, 62, 63, 64, 65, 66, 67, 68, 69, 70, 71, 72, 73, 74, 75, 76, 77, 78, 79, 80, 81, 82, 83, 84, 85, 86, 87, 88, 89, 90, 91, 92, 93, 94, 95, 96, 97, 98, 99, 100, 101, 102, 103, 104, 105, 106, 107, 108, 109, 110, 111, 112, 113, 114, 115, 116, 117, 303, 304, 305, 306, 307, 308, 309, 310, 311, 312, 313, 314, 315, 316, 317, 318, 319, 320, 321, 322] (by decide +kernel) (by decide +kernel)) (goodIn_sub (fun _ h => List.mem_cons_of_mem _ (List.mem_append_left _ (List.mem_append_left _ (List.mem_append_right _ h)))) (by decide +kernel))
set_option maxRecDepth 20000 in
theorem gL_act_L_sends : GoodIn wsL_act (va_wsS RL 106 yL_sends wsL_sends) := goodIn_app (goodIn_of _ (by decide +kernel)) ggL_act_L_sends
set_option maxRecDepth 20000 in
theorem ggL_act_L_gap : GoodIn wsL_act wsL_gap := goodIn_ca (goodIn_ca (goodIn_r _ [120, 5, 6, 7, 8, 9, 10, 11, 12, 13, 14, 15, 16, 17, 18, 19, 20, 21, 22, 23, 24, 25, 26, 27, 28, 29, 30, 31, 32, 33, 34, 35, 36, 37, 38, 39, 40, 41, 42, 43, 121, 122, 123, 124, 51, 52, 53, 54, 55, 56, 57, 58, 59, 60, 61, 62, 63, 64, 65, 66, 67, 68, 69, 70, 71, 72, 73, 74, 75, 76, 77, 78, 79, 80, 81, 82, 83, 84, 85, 86, 87, 88, 125, 126, 127, 128, 129, 130, 131, 132, 133, 134, 135, 136, 137, 138, 139, 140, 141, 142, 143, 144, 145, 146, 147, 148, 149, 150, 151, 152, 153, 154, 155, 156, 157, 158, 159, 160, 161, 162, 163, 164, 165, 166, 167, 168, 169, 170, 171, 172, 173, 174, 175, 176, 177, 178, 179, 180, 181, 101, 102, 103, 182, 183, 184, 185, 186, 187, 188, 189, 190, 191, 192, 193, 303, 304, 305, 306, 307, 308, 309, 310, 311, 312, 313, 314, 315, 316, 317, 318, 319, 320, 321, 322, 323, 324, 325, 326, 327, 328] (by decide +kernel) (by decide +kernel)) (goodIn_sub (fun _ h => List.mem_cons_of_mem _ (List.mem_append_left _ (List.mem_append_left _ (List.mem_append_right _ h)))) (by decide +kernel))) (goodIn_sub (fun _ h => List.mem_cons_of_mem _ (List.mem_append_left _ (List.mem_append_right _ h))) (by decide +kernel))
set_option maxRecDepth 20000 in
theorem gL_act_L_gap : GoodIn wsL_act (va_wsS RL 110 yL_gap wsL_gap) := goodIn_app (goodIn_of _ (by decide +kernel)) ggL_act_L_gap
set_option maxRecDepth 20000 in
theorem ggL_act_X4_count : GoodIn wsL_act wsX4_count := goodIn_ca (goodIn_r _ [9, 10, 11, 12, 13, 14, 15, 16, 17, 18, 19, 20, 21, 22, 23, 24, 25, 26, 27, 28, 29, 30, 31, 32, 33, 34, 35, 36, 37, 38, 39, 40, 41, 42, 43, 303, 304, 305, 306, 307, 308, 309, 310, 311, 312, 313, 314, 315, 316, 317, 318, 319, 320, 321, 322] (by decide +kernel) (by decide +kernel)) (goodIn_sub (fun _ h => List.mem_cons_of_mem _ (List.mem_append_left _ (List.mem_append_left _ (List.mem_append_right _ h)))) (by decide +kernel))
set_option maxRecDepth 20000 in
theorem gL_act_X4_count : GoodIn wsL_act (wsV RL 56 RX4 yX4_count wsX4_count) := goodIn_app (goodIn_of _ (by decide +kernel)) ggL_act_X4_count
set_option maxRecDepth 20000 in
theorem ggL_act_X4_drop : GoodIn wsL_act wsX4_drop := goodIn_r _ [197, 19, 12, 13, 17, 51, 52, 53, 54, 55, 56, 57, 58, 59, 24, 60, 61, 62, 63, 64, 65, 66, 67, 68, 69, 70, 71, 72, 26, 73, 39, 74, 75, 76, 77, 78, 79, 80, 81, 82, 83, 84, 85, 86, 87, 88, 303, 304, 305, 306, 307, 308, 309, 310, 311, 312, 313, 314, 315, 316, 317, 318, 319, 320, 321, 322] (by decide +kernel) (by decide +kernel)
set_option maxRecDepth 20000 in
theorem gL_act_X4_drop : GoodIn wsL_act (wsV RL 113 RX4 yX4_drop wsX4_drop) := goodIn_app (goodIn_of _ (by decide +kernel)) ggL_act_X4_drop
set_option maxRecDepth 20000 in
theorem ggL_act_X4_lampOf : GoodIn wsL_act wsX4_lampOf := goodIn_ca (goodIn_ca (goodIn_r _ [185, 186, 187, 10, 11, 12, 135, 188, 130, 134, 132, 189, 190, 8, 191, 192, 28, 24, 29, 21, 22, 23, 25, 26, 27, 193, 36, 37, 38, 39, 303, 304, 305, 306, 307, 308, 309, 310, 311, 312, 313, 314, 315, 316, 317, 318, 319, 320] (by decide +kernel) (by decide +kernel)) (goodIn_sub (fun _ h => List.mem_cons_of_mem _ (List.mem_append_left _ (List.mem_append_right _ h))) (by decide +kernel))) (goodIn_sub (fun _ h => List.mem_cons_of_mem _ (List.mem_append_left _ (List.mem_append_left _ (List.mem_append_right _ h)))) (by decide +kernel))
set_option maxRecDepth 20000 in
theorem gL_act_X4_lampOf : GoodIn wsL_act (wsV RL 50 RX4 yX4_lampOf wsX4_lampOf) := goodIn_app (goodIn_of _ (by decide +kernel)) ggL_act_X4_lampOf
set_option maxRecDepth 20000 in
theorem in_L_act_L_call_h : GoodIn wsL_act ([.codeWith yL_call cL_call 5 (some .int) [(0, 125, 126, 44), (0, 125, 131, 46), (0, 125, 136, 48)]] : List Cond) := goodIn_r ([.codeWith yL_call cL_call 5 (some .int) [(0, 125, 126, 44), (0, 125, 131, 46), (0, 125, 136, 48)]] : List Cond) [200] (by decide +kernel) (by decide +kernel)
set_option maxRecDepth 20000 in
theorem in_L_act_L_call_wsL_call_r1 : GoodIn wsL_act wsL_call_r1 := goodIn_r wsL_call_r1 [201, 202, 203, 204, 205, 206, 8, 207, 186, 187, 10, 11, 19, 12, 135, 189, 190, 191, 51, 52, 53, 54, 55, 56] (by decide +kernel) (by decide +kernel)
set_option maxRecDepth 20000 in
theorem in_L_act_L_call_wsL_call_r2 : GoodIn wsL_act wsL_call_r2 := goodIn_r wsL_call_r2 [57, 58, 59, 24, 60, 61, 62, 63, 64, 65, 66, 67, 68, 69, 70, 71, 72, 26, 73, 39, 74, 75, 76, 77] (by decide +kernel) (by decide +kernel)
set_option maxRecDepth 20000 in
theorem in_L_act_L_call_wsL_call_r3 : GoodIn wsL_act wsL_call_r3 := goodIn_r wsL_call_r3 [78, 79, 80, 81, 82, 83, 84, 85, 86, 87, 88, 208, 209, 210, 211, 188, 212, 213, 214, 215, 216, 217, 218, 219] (by decide +kernel) (by decide +kernel)
set_option maxRecDepth 20000 in
theorem in_L_act_L_call_wsL_call_r4 : GoodIn wsL_act wsL_call_r4 := goodIn_r wsL_call_r4 [220, 221, 108, 109, 110, 111, 13, 89, 90, 91, 92, 93, 94, 95, 96, 18, 112, 105, 106, 107, 44, 45, 46, 47] (by decide +kernel) (by decide +kernel)
set_option maxRecDepth 20000 in
theorem in_L_act_L_call_wsL_call_r5 : GoodIn wsL_act wsL_call_r5 := goodIn_r wsL_call_r5 [48, 49, 50, 97, 98, 99, 100, 101, 102, 103, 104, 222, 223, 224, 225, 226, 227, 228, 229, 230, 231, 232, 233, 234] (by decide +kernel) (by decide +kernel)
