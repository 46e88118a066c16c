set_option maxRecDepth 20000 in
theorem in_L_refuses_L_refusesAny_wsL_refusesAny_r10 : GoodIn wsL_refuses wsL_refusesAny_r10 := goodIn_r wsL_refusesAny_r10 [136, 137, 138, 139, 140, 327, 328, 329, 330, 81, 331, 332, 333, 334, 335, 336, 337, 338, 339, 340, 341, 342, 343, 22] (by decide +kernel) (by decide +kernel)
set_option maxRecDepth 20000 in
theorem in_L_refuses_L_refusesAny_wsL_refusesAny_r11 : GoodIn wsL_refuses wsL_refusesAny_r11 := goodIn_r wsL_refusesAny_r11 [344, 345, 346, 347, 348, 349, 350, 351, 352, 353, 354, 46, 47, 48, 49, 60, 30, 31, 23, 24, 25, 27, 29, 61] (by decide +kernel) (by decide +kernel)
set_option maxRecDepth 20000 in
theorem in_L_refuses_L_refusesAny_wsL_refusesAny_r12 : GoodIn wsL_refuses wsL_refusesAny_r12 := goodIn_r wsL_refusesAny_r12 [38, 39, 40, 62, 63, 64, 65, 66, 7, 8, 9, 11, 19, 32, 33, 34, 35, 36, 37, 42, 43, 44, 45, 67] (by decide +kernel) (by decide +kernel)
set_option maxRecDepth 20000 in
theorem in_L_refuses_L_refusesAny_wsL_refusesAny_r13 : GoodIn wsL_refuses wsL_refusesAny_r13 := goodIn_r wsL_refusesAny_r13 [68, 69, 70, 355, 356, 357, 358, 145, 146, 147, 148, 152, 153, 154, 155, 156, 157, 158, 159, 160, 162, 163, 359, 174] (by decide +kernel) (by decide +kernel)
set_option maxRecDepth 20000 in
theorem in_L_refuses_L_refusesAny_wsL_refusesAny_r14 : GoodIn wsL_refuses wsL_refusesAny_r14 := goodIn_r wsL_refusesAny_r14 [175, 176, 168, 169, 170, 171, 360, 165, 166, 167, 361, 362, 363, 364, 172] (by decide +kernel) (by decide +kernel)
set_option maxRecDepth 20000 in
theorem in_L_refuses_L_refusesAny_wsX40 : GoodIn wsL_refuses wsX40 := goodIn_r wsX40 [365, 366, 367, 368, 369] (by decide +kernel) (by decide +kernel)
set_option maxRecDepth 20000 in
theorem in_L_refuses_L_refusesAny_wsX20 : GoodIn wsL_refuses wsX20 := goodIn_r wsX20 [370, 371, 372, 373, 374, 375, 376, 377, 378, 379, 380, 381, 382] (by decide +kernel) (by decide +kernel)
set_option maxRecDepth 20000 in
theorem in_L_refuses_L_refusesAny_wsX00 : GoodIn wsL_refuses wsX00 := goodIn_r wsX00 [383, 384] (by decide +kernel) (by decide +kernel)
set_option maxRecDepth 20000 in
theorem in_L_refuses_L_refusesAny_wsX30 : GoodIn wsL_refuses wsX30 := goodIn_r wsX30 [385, 386] (by decide +kernel) (by decide +kernel)
set_option maxRecDepth 20000 in
theorem in_L_refuses_L_refusesAny_wsX10 : GoodIn wsL_refuses wsX10 := goodIn_r wsX10 [387, 388, 389, 390, 391, 392] (by decide +kernel) (by decide +kernel)
set_option maxRecDepth 20000 in
theorem ggL_refuses_L_refusesAny : GoodIn wsL_refuses wsL_refusesAny := goodIn_ca (goodIn_ca (goodIn_ca (goodIn_app (a := ([.code yL_refusesAny cL_refusesAny 5 (some .boolean)] : List Cond)) in_L_refuses_L_refusesAny_h (goodIn_app (goodIn_app (goodIn_app (goodIn_app (goodIn_app (goodIn_app in_L_refuses_L_refusesAny_wsL_refusesAny_r1 (goodIn_app in_L_refuses_L_refusesAny_wsL_refusesAny_r2 (goodIn_app in_L_refuses_L_refusesAny_wsL_refusesAny_r3 (goodIn_app in_L_refuses_L_refusesAny_wsL_refusesAny_r4 (goodIn_app in_L_refuses_L_refusesAny_wsL_refusesAny_r5 (goodIn_app in_L_refuses_L_refusesAny_wsL_refusesAny_r6 (goodIn_app in_L_refuses_L_refusesAny_wsL_refusesAny_r7 (goodIn_app in_L_refuses_L_refusesAny_wsL_refusesAny_r8 (goodIn_app in_L_refuses_L_refusesAny_wsL_refusesAny_r9 (goodIn_app in_L_refuses_L_refusesAny_wsL_refusesAny_r10 (goodIn_app in_L_refuses_L_refusesAny_wsL_refusesAny_r11 (goodIn_app in_L_refuses_L_refusesAny_wsL_refusesAny_r12 (goodIn_app in_L_refuses_L_refusesAny_wsL_refusesAny_r13 in_L_refuses_L_refusesAny_wsL_refusesAny_r14))))))))))))) in_L_refuses_L_refusesAny_wsX40) in_L_refuses_L_refusesAny_wsX20) in_L_refuses_L_refusesAny_wsX00) in_L_refuses_L_refusesAny_wsX30) in_L_refuses_L_refusesAny_wsX10)) (goodIn_sub (fun _ h => List.mem_cons_of_mem _ (List.mem_append_left _ (List.mem_append_right _ h))) (by decide +kernel))) (goodIn_sub (fun _ h => List.mem_cons_of_mem _ (List.mem_append_left _ (List.mem_append_left _ (List.mem_append_right _ h)))) (by decide +kernel))) (goodIn_sub (fun _ h => List.mem_cons_of_mem _ (List.mem_append_right _ h)) (by decide +kernel))
set_option maxRecDepth 20000 in
theorem gL_refuses_L_refusesAny : GoodIn wsL_refuses (va_wsS RL 99 yL_refusesAny wsL_refusesAny) := goodIn_app (goodIn_of _ (by decide +kernel)) ggL_refuses_L_refusesAny
set_option maxRecDepth 20000 in
theorem ggL_sends_X4_count : GoodIn wsL_sends wsX4_count := goodIn_ca (goodIn_r _ [5, 6, 7, 8, 9, 10, 11, 12, 13, 14, 15, 16, 17, 18, 19, 20, 21, 22, 23, 24, 25, 26, 27, 28, 29, 30, 31, 32, 33, 34, 35, 36, 37, 38, 39, 114, 115, 116, 117, 118, 119, 120, 121, 122, 123, 124, 125, 126, 127, 128, 129, 130, 131, 132, 133] (by decide +kernel) (by decide +kernel)) (goodIn_sub (fun _ h => List.mem_cons_of_mem _ (List.mem_append_right _ h)) (by decide +kernel))
set_option maxRecDepth 20000 in
theorem gL_sends_X4_count : GoodIn wsL_sends (wsV RL 56 RX4 yX4_count wsX4_count) := goodIn_app (goodIn_of _ (by decide +kernel)) ggL_sends_X4_count
set_option maxRecDepth 20000 in
theorem ggL_sends_X4_send : GoodIn wsL_sends wsX4_send := goodIn_ca (goodIn_r _ [43, 6, 7, 15, 8, 9, 44, 45, 4, 46, 47, 48, 49, 50, 51, 52, 53, 54, 55, 20, 56, 57, 58, 59, 60, 61, 62, 63, 64, 65, 66, 67, 68, 22, 69, 35, 70, 71, 72, 73, 74, 75, 76, 77, 78, 79, 80, 81, 82, 83, 84, 85, 86, 87, 88, 89, 90, 91, 92, 14, 93, 94, 95, 96, 97, 98, 99, 100, 101, 102, 103, 114, 115, 116, 117, 118, 119, 120, 121, 122, 123, 124, 125, 126, 127, 128, 129, 130, 131, 132, 133] (by decide +kernel) (by decide +kernel)) (goodIn_sub (fun _ h => List.mem_cons_of_mem _ (List.mem_append_right _ h)) (by decide +kernel))
set_option maxRecDepth 20000 in
theorem gL_sends_X4_send : GoodIn wsL_sends (wsV RL 25 RX4 yX4_send wsX4_send) := goodIn_app (goodIn_of _ (by decide +kernel)) ggL_sends_X4_send
set_option maxRecDepth 20000 in
theorem ggL_sends_X4_pulse : GoodIn wsL_sends wsX4_pulse := goodIn_ca (goodIn_r _ [107, 6, 7, 15, 8, 9, 47, 48, 49, 50, 51, 52, 53, 54, 55, 20, 56, 57, 58, 59, 60, 61, 62, 63, 64, 65, 66, 67, 68, 22, 69, 35, 70, 71, 72, 73, 74, 75, 76, 77, 78, 79, 80, 81, 82, 83, 84, 85, 86, 87, 88, 89, 90, 91, 4, 92, 14, 108, 101, 102, 103, 114, 115, 116, 117, 118, 119, 120, 121, 122, 123, 124, 125, 126, 127, 128, 129, 130, 131, 132, 133] (by decide +kernel) (by decide +kernel)) (goodIn_sub (fun _ h => List.mem_cons_of_mem _ (List.mem_append_right _ h)) (by decide +kernel))
set_option maxRecDepth 20000 in
theorem gL_sends_X4_pulse : GoodIn wsL_sends (wsV RL 21 RX4 yX4_pulse wsX4_pulse) := goodIn_app (goodIn_of _ (by decide +kernel)) ggL_sends_X4_pulse
set_option maxRecDepth 20000 in
theorem ggL_sends_X4_pulseAt : GoodIn wsL_sends wsX4_pulseAt := goodIn_ca (goodIn_r _ [112, 6, 7, 8, 9, 113, 114, 115, 116, 117, 118, 119, 120, 121, 122, 123, 124, 125, 126, 127, 128, 129, 130, 131] (by decide +kernel) (by decide +kernel)) (goodIn_sub (fun _ h => List.mem_cons_of_mem _ (List.mem_append_right _ h)) (by decide +kernel))
set_option maxRecDepth 20000 in
theorem gL_sends_X4_pulseAt : GoodIn wsL_sends (wsV RL 53 RX4 yX4_pulseAt wsX4_pulseAt) := goodIn_app (goodIn_of _ (by decide +kernel)) ggL_sends_X4_pulseAt
set_option maxRecDepth 20000 in
theorem ggL_gap_X4_count : GoodIn wsL_gap wsX4_count := goodIn_ca (goodIn_r _ [5, 6, 7, 8, 9, 10, 11, 12, 13, 14, 15, 16, 17, 18, 19, 20, 21, 22, 23, 24, 25, 26, 27, 28, 29, 30, 31, 32, 33, 34, 35, 36, 37, 38, 39, 154, 155, 156, 157, 158, 159, 160, 161, 162, 163, 164, 165, 166, 167, 168, 169, 170, 171, 172, 173] (by decide +kernel) (by decide +kernel)) (goodIn_sub (fun _ h => List.mem_cons_of_mem _ (List.mem_append_left _ (List.mem_append_right _ h))) (by decide +kernel))
set_option maxRecDepth 20000 in
theorem gL_gap_X4_count : GoodIn wsL_gap (wsV RL 56 RX4 yX4_count wsX4_count) := goodIn_app (goodIn_of _ (by decide +kernel)) ggL_gap_X4_count
set_option maxRecDepth 20000 in
theorem ggL_gap_X4_gap : GoodIn wsL_gap wsX4_gap := goodIn_r _ [43, 15, 8, 44, 45, 46, 47, 48, 49, 50, 51, 52, 20, 53, 54, 55, 56, 57, 58, 59, 60, 61, 62, 63, 64, 65, 22, 66, 35, 67, 68, 69, 70, 71, 72, 73, 74, 75, 76, 77, 78, 79, 80, 81, 82, 83, 84, 4, 85, 86, 87, 88, 89, 90, 91, 92, 10, 11, 93, 12, 9, 94, 95, 96, 97, 98, 99, 100, 101, 102, 103, 104, 105, 106, 107, 108, 109, 110, 111, 112, 113, 114, 115, 116, 117, 118, 119, 120, 121, 122, 123, 124, 125, 126, 127, 128, 129, 130, 131, 132, 133, 134, 135, 136, 137, 138, 139, 140, 141, 154, 155, 156, 157, 158, 172, 173, 159, 160, 161, 162, 163, 164, 165, 166, 167, 168, 169, 170, 171, 174, 175, 176, 177, 178, 179] (by decide +kernel) (by decide +kernel)
set_option maxRecDepth 20000 in
theorem gL_gap_X4_gap : GoodIn wsL_gap (wsV RL 103 RX4 yX4_gap wsX4_gap) := goodIn_app (goodIn_of _ (by decide +kernel)) ggL_gap_X4_gap
set_option maxRecDepth 20000 in
theorem ggL_gap_X4_lampOf : GoodIn wsL_gap wsX4_lampOf := goodIn_ca (goodIn_ca (goodIn_r _ [145, 146, 147, 6, 7, 8, 92, 148, 87, 91, 89, 149, 150, 4, 151, 152, 24, 20, 25, 17, 18, 19, 21, 22, 23, 153, 32, 33, 34, 35, 154, 155, 156, 157, 158, 159, 160, 161, 162, 163, 164, 165, 166, 167, 168, 169, 170, 171] (by decide +kernel) (by decide +kernel)) (goodIn_sub (fun _ h => List.mem_cons_of_mem _ (List.mem_append_right _ h)) (by decide +kernel))) (goodIn_sub (fun _ h => List.mem_cons_of_mem _ (List.mem_append_left _ (List.mem_append_right _ h))) (by decide +kernel))
set_option maxRecDepth 20000 in
theorem gL_gap_X4_lampOf : GoodIn wsL_gap (wsV RL 50 RX4 yX4_lampOf wsX4_lampOf) := goodIn_app (goodIn_of _ (by decide +kernel)) ggL_gap_X4_lampOf
