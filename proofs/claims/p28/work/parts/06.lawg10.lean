set_option maxRecDepth 20000 in
theorem in_L_law_L_refuses_wsL_refuses_r15 : GoodIn wsL_law wsL_refuses_r15 := goodIn_r wsL_refuses_r15 [254, 255, 256, 257, 258, 259, 260, 262, 263, 264, 265, 266, 267, 268, 269, 376, 377, 378, 379, 380, 381, 382, 383, 384] (by decide +kernel) (by decide +kernel)
set_option maxRecDepth 20000 in
theorem in_L_law_L_refuses_wsL_refuses_r16 : GoodIn wsL_law wsL_refuses_r16 := goodIn_r wsL_refuses_r16 [385, 386, 387, 388] (by decide +kernel) (by decide +kernel)
set_option maxRecDepth 20000 in
theorem in_L_law_L_refuses_wsX40 : GoodIn wsL_law wsX40 := goodIn_r wsX40 [415, 416, 417, 418, 419] (by decide +kernel) (by decide +kernel)
set_option maxRecDepth 20000 in
theorem in_L_law_L_refuses_wsX20 : GoodIn wsL_law wsX20 := goodIn_r wsX20 [420, 421, 422, 423, 424, 425, 426, 427, 428, 429, 430, 431, 432] (by decide +kernel) (by decide +kernel)
set_option maxRecDepth 20000 in
theorem in_L_law_L_refuses_wsX00 : GoodIn wsL_law wsX00 := goodIn_r wsX00 [441, 442] (by decide +kernel) (by decide +kernel)
set_option maxRecDepth 20000 in
theorem in_L_law_L_refuses_wsX30 : GoodIn wsL_law wsX30 := goodIn_r wsX30 [439, 440] (by decide +kernel) (by decide +kernel)
set_option maxRecDepth 20000 in
theorem in_L_law_L_refuses_wsX10 : GoodIn wsL_law wsX10 := goodIn_r wsX10 [433, 434, 435, 436, 437, 438] (by decide +kernel) (by decide +kernel)
set_option maxRecDepth 20000 in
theorem ggL_law_L_refuses : GoodIn wsL_law wsL_refuses := goodIn_ca (goodIn_ca (goodIn_ca (goodIn_app (a := ([.code yL_refuses cL_refuses 7 (some .boolean)] : List Cond)) in_L_law_L_refuses_h (goodIn_app (goodIn_app (goodIn_app (goodIn_app (goodIn_app (goodIn_app in_L_law_L_refuses_wsL_refuses_r1 (goodIn_app in_L_law_L_refuses_wsL_refuses_r2 (goodIn_app in_L_law_L_refuses_wsL_refuses_r3 (goodIn_app in_L_law_L_refuses_wsL_refuses_r4 (goodIn_app in_L_law_L_refuses_wsL_refuses_r5 (goodIn_app in_L_law_L_refuses_wsL_refuses_r6 (goodIn_app in_L_law_L_refuses_wsL_refuses_r7 (goodIn_app in_L_law_L_refuses_wsL_refuses_r8 (goodIn_app in_L_law_L_refuses_wsL_refuses_r9 (goodIn_app in_L_law_L_refuses_wsL_refuses_r10 (goodIn_app in_L_law_L_refuses_wsL_refuses_r11 (goodIn_app in_L_law_L_refuses_wsL_refuses_r12 (goodIn_app in_L_law_L_refuses_wsL_refuses_r13 (goodIn_app in_L_law_L_refuses_wsL_refuses_r14 (goodIn_app in_L_law_L_refuses_wsL_refuses_r15 in_L_law_L_refuses_wsL_refuses_r16))))))))))))))) in_L_law_L_refuses_wsX40) in_L_law_L_refuses_wsX20) in_L_law_L_refuses_wsX00) in_L_law_L_refuses_wsX30) in_L_law_L_refuses_wsX10)) (goodIn_sub (fun _ h => List.mem_append_left _ (List.mem_append_right _ h)) (by decide +kernel))) (goodIn_sub (fun _ h => List.mem_append_left _ (List.mem_append_left _ (List.mem_append_right _ h))) (by decide +kernel))) (goodIn_sub (fun _ h => List.mem_append_right _ h) (by decide +kernel))
set_option maxRecDepth 20000 in
theorem gL_law_L_refuses : GoodIn wsL_law (va_wsS RL 117 yL_refuses wsL_refuses) := goodIn_app (goodIn_of _ (by decide +kernel)) ggL_law_L_refuses
set_option maxRecDepth 20000 in
theorem ggL_law_X4_setting : GoodIn wsL_law wsX4_setting := goodIn_ca (goodIn_r _ [317, 64, 65, 12, 106, 107, 108, 2, 109, 415, 416, 417, 418, 419, 420, 421, 422, 423, 424, 425, 426, 427, 428, 429, 430, 431, 432] (by decide +kernel) (by decide +kernel)) (goodIn_sub (fun _ h => List.mem_append_left _ (List.mem_append_left _ (List.mem_append_right _ h))) (by decide +kernel))
set_option maxRecDepth 20000 in
theorem gL_law_X4_setting : GoodIn wsL_law (wsV RL 59 RX4 yX4_setting wsX4_setting) := goodIn_app (goodIn_of _ (by decide +kernel)) ggL_law_X4_setting
set_option maxRecDepth 20000 in
theorem ggL_law_L_seen : GoodIn wsL_law wsL_seen := goodIn_ca (goodIn_ca (goodIn_r _ [275, 276, 277, 278, 279, 280, 2, 281, 66, 67, 12, 114, 200, 201, 203, 282, 123, 24, 261, 283, 284, 285, 11, 286, 33, 287, 288, 289, 290, 291, 292, 293, 294, 295, 296, 297, 298, 35, 299, 300, 301, 302, 303, 304, 305, 306, 64, 65, 68, 99, 195, 199, 197, 69, 70, 71, 307, 308, 309, 310, 311, 312, 313, 314, 315, 316, 317, 106, 107, 108, 109, 415, 416, 417, 418, 419, 420, 421, 422, 423, 424, 425, 426, 427, 428, 429, 430, 431, 432, 441, 442] (by decide +kernel) (by decide +kernel)) (goodIn_sub (fun _ h => List.mem_append_left _ (List.mem_append_right _ h)) (by decide +kernel))) (goodIn_sub (fun _ h => List.mem_append_left _ (List.mem_append_left _ (List.mem_append_right _ h))) (by decide +kernel))
set_option maxRecDepth 20000 in
theorem gL_law_L_seen : GoodIn wsL_law (va_wsS RL 91 yL_seen wsL_seen) := goodIn_app (goodIn_of _ (by decide +kernel)) ggL_law_L_seen
set_option maxRecDepth 20000 in
theorem ggL_law_L_cell : GoodIn wsL_law wsL_cell := goodIn_r _ [391, 392, 393] (by decide +kernel) (by decide +kernel)
set_option maxRecDepth 20000 in
theorem gL_law_L_cell : GoodIn wsL_law (va_wsS RL 120 yL_cell wsL_cell) := goodIn_app (goodIn_of _ (by decide +kernel)) ggL_law_L_cell
set_option maxRecDepth 20000 in
theorem in_L_law_X4_digest_h : GoodIn wsL_law ([.code yX4_digest cX4_digest 4 (some .long)] : List Cond) := goodIn_r ([.code yX4_digest cX4_digest 4 (some .long)] : List Cond) [321] (by decide +kernel) (by decide +kernel)
set_option maxRecDepth 20000 in
theorem in_L_law_X4_digest_wsX4_digest_r1 : GoodIn wsL_law wsX4_digest_r1 := goodIn_r wsX4_digest_r1 [322, 323, 12, 106, 114, 313, 25, 20, 149, 324, 325, 279, 280, 2, 281, 66, 67, 200, 201, 203, 282, 123, 24, 261] (by decide +kernel) (by decide +kernel)
set_option maxRecDepth 20000 in
theorem in_L_law_X4_digest_wsX4_digest_r2 : GoodIn wsL_law wsX4_digest_r2 := goodIn_r wsX4_digest_r2 [283, 284, 285, 11, 286, 33, 287, 288, 289, 290, 291, 292, 293, 294, 295, 296, 297, 298, 35, 299, 300, 301, 302, 326] (by decide +kernel) (by decide +kernel)
set_option maxRecDepth 20000 in
theorem in_L_law_X4_digest_wsX4_digest_r3 : GoodIn wsL_law wsX4_digest_r3 := goodIn_r wsX4_digest_r3 [327, 328, 329, 16, 196, 204, 205, 206, 15, 207, 208, 42, 209, 86, 87, 88, 210, 211, 212, 213, 214, 40, 41, 215] (by decide +kernel) (by decide +kernel)
set_option maxRecDepth 20000 in
theorem in_L_law_X4_digest_wsX4_digest_r4 : GoodIn wsL_law wsX4_digest_r4 := goodIn_r wsX4_digest_r4 [216, 217, 218, 219, 220, 221, 222, 223, 224, 225, 226, 227, 30, 228, 229, 230, 231, 232, 233, 234, 235, 236, 237, 238] (by decide +kernel) (by decide +kernel)
set_option maxRecDepth 20000 in
theorem in_L_law_X4_digest_wsX4_digest_r5 : GoodIn wsL_law wsX4_digest_r5 := goodIn_r wsX4_digest_r5 [239, 240, 241, 242, 243, 244, 139, 140, 141, 330, 304, 305, 306, 64, 65, 68, 99, 195, 199, 197, 69, 70, 71, 307] (by decide +kernel) (by decide +kernel)
