set_option maxRecDepth 20000 in
theorem in_L_law_L_act_wsL_act_r11 : GoodIn wsL_law wsL_act_r11 := goodIn_r wsL_act_r11 [159, 160, 161, 162, 163, 164, 165, 166, 167, 168, 169, 170, 171, 172, 173, 174, 175, 176, 177, 178, 179, 180, 181, 182] (by decide +kernel) (by decide +kernel)
set_option maxRecDepth 20000 in
theorem in_L_law_L_act_wsL_act_r12 : GoodIn wsL_law wsL_act_r12 := goodIn_r wsL_act_r12 [183, 184, 185, 186, 187, 188, 189, 190, 245, 246, 247, 248, 25, 9, 249, 250, 251, 252, 253, 254, 255, 256, 257, 258] (by decide +kernel) (by decide +kernel)
set_option maxRecDepth 20000 in
theorem in_L_law_L_act_wsL_act_r13 : GoodIn wsL_law wsL_act_r13 := goodIn_r wsL_act_r13 [259, 260, 262, 263, 264, 265, 266, 267, 268, 269, 314, 315, 316, 317] (by decide +kernel) (by decide +kernel)
set_option maxRecDepth 20000 in
theorem in_L_law_L_act_wsX40 : GoodIn wsL_law wsX40 := goodIn_r wsX40 [415, 416, 417, 418, 419] (by decide +kernel) (by decide +kernel)
set_option maxRecDepth 20000 in
theorem in_L_law_L_act_wsX20 : GoodIn wsL_law wsX20 := goodIn_r wsX20 [420, 421, 422, 423, 424, 425, 426, 427, 428, 429, 430, 431, 432] (by decide +kernel) (by decide +kernel)
set_option maxRecDepth 20000 in
theorem in_L_law_L_act_wsX00 : GoodIn wsL_law wsX00 := goodIn_r wsX00 [441, 442] (by decide +kernel) (by decide +kernel)
set_option maxRecDepth 20000 in
theorem in_L_law_L_act_wsX10 : GoodIn wsL_law wsX10 := goodIn_r wsX10 [433, 434, 435, 436, 437, 438] (by decide +kernel) (by decide +kernel)
set_option maxRecDepth 20000 in
theorem in_L_law_L_act_wsX30 : GoodIn wsL_law wsX30 := goodIn_r wsX30 [439, 440] (by decide +kernel) (by decide +kernel)
set_option maxRecDepth 20000 in
theorem ggL_law_L_act : GoodIn wsL_law wsL_act := goodIn_ca (goodIn_ca (goodIn_ca (goodIn_app (a := ([.code yL_act cL_act 8 (some .int)] : List Cond)) in_L_law_L_act_h (goodIn_app (goodIn_app (goodIn_app (goodIn_app (goodIn_app (goodIn_app in_L_law_L_act_wsL_act_r1 (goodIn_app in_L_law_L_act_wsL_act_r2 (goodIn_app in_L_law_L_act_wsL_act_r3 (goodIn_app in_L_law_L_act_wsL_act_r4 (goodIn_app in_L_law_L_act_wsL_act_r5 (goodIn_app in_L_law_L_act_wsL_act_r6 (goodIn_app in_L_law_L_act_wsL_act_r7 (goodIn_app in_L_law_L_act_wsL_act_r8 (goodIn_app in_L_law_L_act_wsL_act_r9 (goodIn_app in_L_law_L_act_wsL_act_r10 (goodIn_app in_L_law_L_act_wsL_act_r11 (goodIn_app in_L_law_L_act_wsL_act_r12 in_L_law_L_act_wsL_act_r13)))))))))))) in_L_law_L_act_wsX40) in_L_law_L_act_wsX20) in_L_law_L_act_wsX00) in_L_law_L_act_wsX10) in_L_law_L_act_wsX30)) (goodIn_sub (fun _ h => List.mem_append_left _ (List.mem_append_right _ h)) (by decide +kernel))) (goodIn_sub (fun _ h => List.mem_append_left _ (List.mem_append_left _ (List.mem_append_right _ h))) (by decide +kernel))) (goodIn_sub (fun _ h => List.mem_append_right _ h) (by decide +kernel))
set_option maxRecDepth 20000 in
theorem gL_law_L_act : GoodIn wsL_law (va_wsS RL 124 yL_act wsL_act) := goodIn_app (goodIn_of _ (by decide +kernel)) ggL_law_L_act
set_option maxRecDepth 20000 in
theorem in_L_law_L_isWhole_h : GoodIn wsL_law ([.code yL_isWhole cL_isWhole 8 (some .boolean)] : List Cond) := goodIn_r ([.code yL_isWhole cL_isWhole 8 (some .boolean)] : List Cond) [413] (by decide +kernel) (by decide +kernel)
set_option maxRecDepth 20000 in
theorem in_L_law_L_isWhole_wsL_isWhole_r1 : GoodIn wsL_law wsL_isWhole_r1 := goodIn_r wsL_isWhole_r1 [303, 304, 305, 2, 306, 64, 65, 66, 67, 12, 68, 99, 195, 199, 197, 69, 70, 71, 307, 288, 11, 289, 283, 284] (by decide +kernel) (by decide +kernel)
set_option maxRecDepth 20000 in
theorem in_L_law_L_isWhole_wsL_isWhole_r2 : GoodIn wsL_law wsL_isWhole_r2 := goodIn_r wsL_isWhole_r2 [285, 286, 33, 287, 308, 296, 297, 298, 35, 385, 386, 387, 388, 354, 336, 337, 338, 30, 339, 225, 226, 227, 278, 279] (by decide +kernel) (by decide +kernel)
set_option maxRecDepth 20000 in
theorem in_L_law_L_isWhole_wsL_isWhole_r3 : GoodIn wsL_law wsL_isWhole_r3 := goodIn_r wsL_isWhole_r3 [280, 281, 114, 200, 201, 203, 282, 123, 24, 261, 290, 291, 292, 293, 294, 295, 299, 300, 301, 302, 314, 315, 316, 317] (by decide +kernel) (by decide +kernel)
set_option maxRecDepth 20000 in
theorem in_L_law_L_isWhole_wsL_isWhole_r4 : GoodIn wsL_law wsL_isWhole_r4 := goodIn_r wsL_isWhole_r4 [106, 107, 108, 109, 414, 364, 365, 366, 367] (by decide +kernel) (by decide +kernel)
set_option maxRecDepth 20000 in
theorem in_L_law_L_isWhole_wsX40 : GoodIn wsL_law wsX40 := goodIn_r wsX40 [415, 416, 417, 418, 419] (by decide +kernel) (by decide +kernel)
set_option maxRecDepth 20000 in
theorem in_L_law_L_isWhole_wsX20 : GoodIn wsL_law wsX20 := goodIn_r wsX20 [420, 421, 422, 423, 424, 425, 426, 427, 428, 429, 430, 431, 432] (by decide +kernel) (by decide +kernel)
set_option maxRecDepth 20000 in
theorem in_L_law_L_isWhole_wsX00 : GoodIn wsL_law wsX00 := goodIn_r wsX00 [441, 442] (by decide +kernel) (by decide +kernel)
set_option maxRecDepth 20000 in
theorem ggL_law_L_isWhole : GoodIn wsL_law wsL_isWhole := goodIn_ca (goodIn_ca (goodIn_app (a := ([.code yL_isWhole cL_isWhole 8 (some .boolean)] : List Cond)) in_L_law_L_isWhole_h (goodIn_app (goodIn_app (goodIn_app (goodIn_app in_L_law_L_isWhole_wsL_isWhole_r1 (goodIn_app in_L_law_L_isWhole_wsL_isWhole_r2 (goodIn_app in_L_law_L_isWhole_wsL_isWhole_r3 in_L_law_L_isWhole_wsL_isWhole_r4))) in_L_law_L_isWhole_wsX40) in_L_law_L_isWhole_wsX20) in_L_law_L_isWhole_wsX00)) (goodIn_sub (fun _ h => List.mem_append_left _ (List.mem_append_left _ (List.mem_append_right _ h))) (by decide +kernel))) (goodIn_sub (fun _ h => List.mem_append_left _ (List.mem_append_right _ h)) (by decide +kernel))
set_option maxRecDepth 20000 in
theorem gL_law_L_isWhole : GoodIn wsL_law (va_wsS RL 128 yL_isWhole wsL_isWhole) := goodIn_app (goodIn_of _ (by decide +kernel)) ggL_law_L_isWhole
set_option maxRecDepth 20000 in
theorem ggL_law_X4_undo : GoodIn wsL_law wsX4_undo := goodIn_ca (goodIn_r _ [260, 147, 148, 24, 12, 261, 262, 263, 264, 23, 265, 76, 52, 252, 82, 83, 11, 84, 30, 85, 86, 87, 88, 31, 32, 33, 34, 35, 36, 89, 90, 91, 92, 93, 94, 266, 267, 268, 269, 415, 416, 417, 418, 419, 441, 442, 420, 421, 422, 423, 424, 425, 426, 427, 428, 429, 430, 431, 432] (by decide +kernel) (by decide +kernel)) (goodIn_sub (fun _ h => List.mem_append_right _ h) (by decide +kernel))
set_option maxRecDepth 20000 in
theorem gL_law_X4_undo : GoodIn wsL_law (wsV RL 41 RX4 yX4_undo wsX4_undo) := goodIn_app (goodIn_of _ (by decide +kernel)) ggL_law_X4_undo
