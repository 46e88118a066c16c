set_option maxRecDepth 20000 in
theorem in_L_act_L_call_wsL_call_r6 : GoodIn wsL_act wsL_call_r6 := goodIn_r wsL_call_r6 [235, 236, 237, 238, 239, 240, 241, 242, 243, 244, 245, 246, 247, 248, 249, 250, 251, 252, 253, 254, 255, 256, 257, 258] (by decide +kernel) (by decide +kernel)
set_option maxRecDepth 20000 in
theorem in_L_act_L_call_wsL_call_r7 : GoodIn wsL_act wsL_call_r7 := goodIn_r wsL_call_r7 [259, 260, 261, 262, 263, 264, 265, 266, 267, 268, 269, 270, 271, 272, 125, 126, 127, 128, 129, 130, 131, 132, 133, 134] (by decide +kernel) (by decide +kernel)
set_option maxRecDepth 20000 in
theorem in_L_act_L_call_wsL_call_r8 : GoodIn wsL_act wsL_call_r8 := goodIn_r wsL_call_r8 [14, 15, 136, 16, 137, 138, 139, 140, 141, 142, 143, 144, 145, 146, 147, 148, 149, 150, 151, 152, 153, 154, 155, 156] (by decide +kernel) (by decide +kernel)
set_option maxRecDepth 20000 in
theorem in_L_act_L_call_wsL_call_r9 : GoodIn wsL_act wsL_call_r9 := goodIn_r wsL_call_r9 [157, 158, 159, 160, 161, 162, 163, 164, 165, 166, 167, 168, 169, 170, 171, 172, 173, 174, 175, 176, 177, 178, 179, 180] (by decide +kernel) (by decide +kernel)
set_option maxRecDepth 20000 in
theorem in_L_act_L_call_wsL_call_r10 : GoodIn wsL_act wsL_call_r10 := goodIn_r wsL_call_r10 [181, 273, 274, 275, 276, 277, 278, 279, 280, 281, 282, 283, 284, 285, 286, 287, 288, 289, 290, 20, 291, 292, 293, 294] (by decide +kernel) (by decide +kernel)
set_option maxRecDepth 20000 in
theorem in_L_act_L_call_wsL_call_r11 : GoodIn wsL_act wsL_call_r11 := goodIn_r wsL_call_r11 [295, 296, 297, 298] (by decide +kernel) (by decide +kernel)
set_option maxRecDepth 20000 in
theorem in_L_act_L_call_wsX40 : GoodIn wsL_act wsX40 := goodIn_r wsX40 [303, 304, 305, 306, 307] (by decide +kernel) (by decide +kernel)
set_option maxRecDepth 20000 in
theorem in_L_act_L_call_wsX20 : GoodIn wsL_act wsX20 := goodIn_r wsX20 [308, 309, 310, 311, 312, 313, 314, 315, 316, 317, 318, 319, 320] (by decide +kernel) (by decide +kernel)
set_option maxRecDepth 20000 in
theorem in_L_act_L_call_wsX00 : GoodIn wsL_act wsX00 := goodIn_r wsX00 [321, 322] (by decide +kernel) (by decide +kernel)
set_option maxRecDepth 20000 in
theorem in_L_act_L_call_wsX30 : GoodIn wsL_act wsX30 := goodIn_r wsX30 [329, 330] (by decide +kernel) (by decide +kernel)
set_option maxRecDepth 20000 in
theorem in_L_act_L_call_wsX10 : GoodIn wsL_act wsX10 := goodIn_r wsX10 [323, 324, 325, 326, 327, 328] (by decide +kernel) (by decide +kernel)
set_option maxRecDepth 20000 in
theorem ggL_act_L_call : GoodIn wsL_act wsL_call := goodIn_ca (goodIn_ca (goodIn_ca (goodIn_app (a := ([.codeWith yL_call cL_call 5 (some .int) [(0, 125, 126, 44), (0, 125, 131, 46), (0, 125, 136, 48)]] : List Cond)) in_L_act_L_call_h (goodIn_app (goodIn_app (goodIn_app (goodIn_app (goodIn_app (goodIn_app in_L_act_L_call_wsL_call_r1 (goodIn_app in_L_act_L_call_wsL_call_r2 (goodIn_app in_L_act_L_call_wsL_call_r3 (goodIn_app in_L_act_L_call_wsL_call_r4 (goodIn_app in_L_act_L_call_wsL_call_r5 (goodIn_app in_L_act_L_call_wsL_call_r6 (goodIn_app in_L_act_L_call_wsL_call_r7 (goodIn_app in_L_act_L_call_wsL_call_r8 (goodIn_app in_L_act_L_call_wsL_call_r9 (goodIn_app in_L_act_L_call_wsL_call_r10 in_L_act_L_call_wsL_call_r11)))))))))) in_L_act_L_call_wsX40) in_L_act_L_call_wsX20) in_L_act_L_call_wsX00) in_L_act_L_call_wsX30) in_L_act_L_call_wsX10)) (goodIn_sub (fun _ h => List.mem_cons_of_mem _ (List.mem_append_left _ (List.mem_append_right _ h))) (by decide +kernel))) (goodIn_sub (fun _ h => List.mem_cons_of_mem _ (List.mem_append_left _ (List.mem_append_left _ (List.mem_append_right _ h)))) (by decide +kernel))) (goodIn_sub (fun _ h => List.mem_cons_of_mem _ (List.mem_append_right _ h)) (by decide +kernel))
set_option maxRecDepth 20000 in
theorem gL_act_L_call : GoodIn wsL_act (va_wsS RL 84 yL_call wsL_call) := goodIn_app (goodIn_of _ (by decide +kernel)) ggL_act_L_call
set_option maxRecDepth 20000 in
theorem ggL_act_X4_setting : GoodIn wsL_act wsX4_setting := goodIn_ca (goodIn_r _ [302, 186, 187, 12, 218, 219, 220, 8, 221, 303, 304, 305, 306, 307, 308, 309, 310, 311, 312, 313, 314, 315, 316, 317, 318, 319, 320] (by decide +kernel) (by decide +kernel)) (goodIn_sub (fun _ h => List.mem_cons_of_mem _ (List.mem_append_left _ (List.mem_append_right _ h))) (by decide +kernel))
set_option maxRecDepth 20000 in
theorem gL_act_X4_setting : GoodIn wsL_act (wsV RL 59 RX4 yX4_setting wsX4_setting) := goodIn_app (goodIn_of _ (by decide +kernel)) ggL_act_X4_setting
set_option maxRecDepth 20000 in
theorem ggL_law_X4_init : GoodIn wsL_law wsX4_init := goodIn_r _ [5, 6, 7, 8, 9, 10, 11, 12, 13, 14, 15, 16, 17, 18, 19, 20, 21, 22, 23, 24, 25, 26, 27, 28, 29, 30, 31, 32, 33, 34, 35, 36, 37, 38, 39, 40, 41, 42, 43, 44, 45, 46, 47, 48, 49, 50, 51, 52, 420, 421, 422, 423, 424, 425, 426, 427, 428, 429, 430, 431, 432, 415, 416, 417, 418, 419, 433, 434, 435, 436, 437, 438, 439, 440, 441, 442] (by decide +kernel) (by decide +kernel)
set_option maxRecDepth 20000 in
theorem gL_law_X4_init : GoodIn wsL_law (wsX4_init) := ggL_law_X4_init
set_option maxRecDepth 20000 in
theorem in_L_law_L_call_h : GoodIn wsL_law ([.codeWith yL_call cL_call 5 (some .int) [(0, 125, 126, 44), (0, 125, 131, 46), (0, 125, 136, 48)]] : List Cond) := goodIn_r ([.codeWith yL_call cL_call 5 (some .int) [(0, 125, 126, 44), (0, 125, 131, 46), (0, 125, 136, 48)]] : List Cond) [56] (by decide +kernel) (by decide +kernel)
set_option maxRecDepth 20000 in
theorem in_L_law_L_call_wsL_call_r1 : GoodIn wsL_law wsL_call_r1 := goodIn_r wsL_call_r1 [57, 58, 59, 60, 61, 62, 2, 63, 64, 65, 66, 67, 24, 12, 68, 69, 70, 71, 72, 73, 74, 23, 75, 76] (by decide +kernel) (by decide +kernel)
set_option maxRecDepth 20000 in
theorem in_L_law_L_call_wsL_call_r2 : GoodIn wsL_law wsL_call_r2 := goodIn_r wsL_call_r2 [52, 51, 10, 11, 77, 78, 79, 80, 26, 27, 28, 7, 8, 29, 30, 31, 32, 33, 34, 35, 36, 81, 82, 83] (by decide +kernel) (by decide +kernel)
set_option maxRecDepth 20000 in
theorem in_L_law_L_call_wsL_call_r3 : GoodIn wsL_law wsL_call_r3 := goodIn_r wsL_call_r3 [84, 85, 86, 87, 88, 89, 90, 91, 92, 93, 94, 95, 96, 97, 98, 99, 100, 101, 102, 103, 104, 105, 106, 107] (by decide +kernel) (by decide +kernel)
set_option maxRecDepth 20000 in
theorem in_L_law_L_call_wsL_call_r4 : GoodIn wsL_law wsL_call_r4 := goodIn_r wsL_call_r4 [108, 109, 110, 111, 112, 113, 114, 115, 116, 117, 118, 119, 120, 121, 122, 123, 124, 125, 126, 127, 128, 129, 130, 131] (by decide +kernel) (by decide +kernel)
set_option maxRecDepth 20000 in
theorem in_L_law_L_call_wsL_call_r5 : GoodIn wsL_law wsL_call_r5 := goodIn_r wsL_call_r5 [132, 133, 134, 135, 136, 137, 138, 139, 140, 141, 142, 143, 144, 145, 146, 147, 148, 20, 149, 150, 151, 152, 19, 153] (by decide +kernel) (by decide +kernel)
set_option maxRecDepth 20000 in
theorem in_L_law_L_call_wsL_call_r6 : GoodIn wsL_law wsL_call_r6 := goodIn_r wsL_call_r6 [154, 47, 155, 156, 157, 158, 159, 160, 161, 162, 163, 164, 165, 166, 167, 168, 169, 170, 171, 172, 173, 174, 175, 176] (by decide +kernel) (by decide +kernel)
set_option maxRecDepth 20000 in
theorem in_L_law_L_call_wsL_call_r7 : GoodIn wsL_law wsL_call_r7 := goodIn_r wsL_call_r7 [177, 178, 179, 180, 181, 182, 183, 184, 185, 186, 187, 188, 189, 190, 191, 192, 193, 194, 16, 195, 196, 197, 198, 199] (by decide +kernel) (by decide +kernel)
set_option maxRecDepth 20000 in
theorem in_L_law_L_call_wsL_call_r8 : GoodIn wsL_law wsL_call_r8 := goodIn_r wsL_call_r8 [200, 201, 202, 203, 204, 205, 206, 15, 207, 208, 42, 209, 210, 211, 212, 213, 214, 40, 41, 215, 216, 217, 218, 219] (by decide +kernel) (by decide +kernel)
set_option maxRecDepth 20000 in
theorem in_L_law_L_call_wsL_call_r9 : GoodIn wsL_law wsL_call_r9 := goodIn_r wsL_call_r9 [220, 221, 222, 223, 224, 225, 226, 227, 228, 229, 230, 231, 232, 233, 234, 235, 236, 237, 238, 239, 240, 241, 242, 243] (by decide +kernel) (by decide +kernel)
