set_option maxRecDepth 20000 in
theorem in_L_law_X4_digest_wsX4_digest_r6 : GoodIn wsL_law wsX4_digest_r6 := goodIn_r wsX4_digest_r6 [308, 331, 332, 333, 334, 89, 32, 36, 335, 336, 337, 338, 339, 340, 341, 342, 343, 31, 344, 345, 346, 347, 348, 349] (by decide +kernel) (by decide +kernel)
set_option maxRecDepth 20000 in
theorem in_L_law_X4_digest_wsX4_digest_r7 : GoodIn wsL_law wsX4_digest_r7 := goodIn_r wsX4_digest_r7 [350, 351, 352, 353, 354, 355, 356, 357, 358, 132, 133, 134, 359, 360, 361, 362, 363, 364, 365, 366, 367, 368, 369, 370] (by decide +kernel) (by decide +kernel)
set_option maxRecDepth 20000 in
theorem in_L_law_X4_digest_wsX4_digest_r8 : GoodIn wsL_law wsX4_digest_r8 := goodIn_r wsX4_digest_r8 [371, 372] (by decide +kernel) (by decide +kernel)
set_option maxRecDepth 20000 in
theorem in_L_law_X4_digest_wsX40 : GoodIn wsL_law wsX40 := goodIn_r wsX40 [415, 416, 417, 418, 419] (by decide +kernel) (by decide +kernel)
set_option maxRecDepth 20000 in
theorem in_L_law_X4_digest_wsX20 : GoodIn wsL_law wsX20 := goodIn_r wsX20 [420, 421, 422, 423, 424, 425, 426, 427, 428, 429, 430, 431, 432] (by decide +kernel) (by decide +kernel)
set_option maxRecDepth 20000 in
theorem in_L_law_X4_digest_wsX30 : GoodIn wsL_law wsX30 := goodIn_r wsX30 [439, 440] (by decide +kernel) (by decide +kernel)
set_option maxRecDepth 20000 in
theorem in_L_law_X4_digest_wsX00 : GoodIn wsL_law wsX00 := goodIn_r wsX00 [441, 442] (by decide +kernel) (by decide +kernel)
set_option maxRecDepth 20000 in
theorem in_L_law_X4_digest_wsX10 : GoodIn wsL_law wsX10 := goodIn_r wsX10 [433, 434, 435, 436, 437, 438] (by decide +kernel) (by decide +kernel)
set_option maxRecDepth 20000 in
theorem ggL_law_X4_digest : GoodIn wsL_law wsX4_digest := goodIn_ca (goodIn_ca (goodIn_app (a := ([.code yX4_digest cX4_digest 4 (some .long)] : List Cond)) in_L_law_X4_digest_h (goodIn_app (goodIn_app (goodIn_app (goodIn_app (goodIn_app (goodIn_app in_L_law_X4_digest_wsX4_digest_r1 (goodIn_app in_L_law_X4_digest_wsX4_digest_r2 (goodIn_app in_L_law_X4_digest_wsX4_digest_r3 (goodIn_app in_L_law_X4_digest_wsX4_digest_r4 (goodIn_app in_L_law_X4_digest_wsX4_digest_r5 (goodIn_app in_L_law_X4_digest_wsX4_digest_r6 (goodIn_app in_L_law_X4_digest_wsX4_digest_r7 in_L_law_X4_digest_wsX4_digest_r8))))))) in_L_law_X4_digest_wsX40) in_L_law_X4_digest_wsX20) in_L_law_X4_digest_wsX30) in_L_law_X4_digest_wsX00) in_L_law_X4_digest_wsX10)) (goodIn_sub (fun _ h => List.mem_append_left _ (List.mem_append_right _ h)) (by decide +kernel))) (goodIn_sub (fun _ h => List.mem_append_left _ (List.mem_append_left _ (List.mem_append_right _ h))) (by decide +kernel))
set_option maxRecDepth 20000 in
theorem gL_law_X4_digest : GoodIn wsL_law (wsV RL 95 RX4 yX4_digest wsX4_digest) := goodIn_app (goodIn_of _ (by decide +kernel)) ggL_law_X4_digest
set_option maxRecDepth 20000 in
theorem ggL_law_X4_count : GoodIn wsL_law wsX4_count := goodIn_ca (goodIn_r _ [281, 66, 67, 12, 114, 200, 201, 203, 282, 123, 24, 261, 283, 284, 285, 11, 286, 33, 287, 288, 289, 290, 291, 292, 293, 294, 295, 296, 297, 298, 35, 299, 300, 301, 302, 415, 416, 417, 418, 419, 420, 421, 422, 423, 424, 425, 426, 427, 428, 429, 430, 431, 432, 441, 442] (by decide +kernel) (by decide +kernel)) (goodIn_sub (fun _ h => List.mem_append_left _ (List.mem_append_right _ h)) (by decide +kernel))
set_option maxRecDepth 20000 in
theorem gL_law_X4_count : GoodIn wsL_law (wsV RL 56 RX4 yX4_count wsX4_count) := goodIn_app (goodIn_of _ (by decide +kernel)) ggL_law_X4_count
set_option maxRecDepth 20000 in
theorem in_L_law_L_act_h : GoodIn wsL_law ([.code yL_act cL_act 8 (some .int)] : List Cond) := goodIn_r ([.code yL_act cL_act 8 (some .int)] : List Cond) [396] (by decide +kernel) (by decide +kernel)
set_option maxRecDepth 20000 in
theorem in_L_law_L_act_wsL_act_r1 : GoodIn wsL_law wsL_act_r1 := goodIn_r wsL_act_r1 [397, 398, 55, 399, 278, 279, 280, 2, 281, 66, 67, 12, 114, 200, 201, 203, 282, 123, 24, 261, 283, 284, 285, 11] (by decide +kernel) (by decide +kernel)
set_option maxRecDepth 20000 in
theorem in_L_law_L_act_wsL_act_r2 : GoodIn wsL_law wsL_act_r2 := goodIn_r wsL_act_r2 [286, 33, 287, 288, 289, 290, 291, 292, 293, 294, 295, 296, 297, 298, 35, 299, 300, 301, 302, 128, 129, 130, 131, 132] (by decide +kernel) (by decide +kernel)
set_option maxRecDepth 20000 in
theorem in_L_law_L_act_wsL_act_r3 : GoodIn wsL_law wsL_act_r3 := goodIn_r wsL_act_r3 [133, 134, 72, 73, 74, 23, 75, 76, 52, 51, 10, 77, 78, 79, 80, 26, 27, 28, 7, 8, 29, 30, 31, 32] (by decide +kernel) (by decide +kernel)
set_option maxRecDepth 20000 in
theorem in_L_law_L_act_wsL_act_r4 : GoodIn wsL_law wsL_act_r4 := goodIn_r wsL_act_r4 [34, 36, 81, 82, 83, 84, 85, 86, 87, 88, 89, 90, 91, 92, 93, 94, 115, 116, 117, 118, 119, 120, 121, 122] (by decide +kernel) (by decide +kernel)
set_option maxRecDepth 20000 in
theorem in_L_law_L_act_wsL_act_r5 : GoodIn wsL_law wsL_act_r5 := goodIn_r wsL_act_r5 [135, 136, 137, 138, 139, 140, 141, 142, 125, 126, 127, 110, 111, 112, 113, 124, 309, 310, 311, 312, 313, 400, 401, 402] (by decide +kernel) (by decide +kernel)
set_option maxRecDepth 20000 in
theorem in_L_law_L_act_wsL_act_r6 : GoodIn wsL_law wsL_act_r6 := goodIn_r wsL_act_r6 [403, 404, 405, 406, 191, 192, 193, 194, 16, 195, 196, 197, 198, 199, 68, 202, 204, 205, 206, 15, 207, 208, 42, 209] (by decide +kernel) (by decide +kernel)
set_option maxRecDepth 20000 in
theorem in_L_law_L_act_wsL_act_r7 : GoodIn wsL_law wsL_act_r7 := goodIn_r wsL_act_r7 [210, 211, 212, 213, 214, 40, 41, 215, 216, 217, 218, 219, 220, 221, 222, 223, 224, 225, 226, 227, 228, 229, 230, 231] (by decide +kernel) (by decide +kernel)
set_option maxRecDepth 20000 in
theorem in_L_law_L_act_wsL_act_r8 : GoodIn wsL_law wsL_act_r8 := goodIn_r wsL_act_r8 [232, 233, 234, 235, 236, 237, 238, 239, 240, 241, 242, 243, 244, 303, 304, 305, 306, 64, 65, 99, 69, 70, 71, 307] (by decide +kernel) (by decide +kernel)
set_option maxRecDepth 20000 in
theorem in_L_law_L_act_wsL_act_r9 : GoodIn wsL_law wsL_act_r9 := goodIn_r wsL_act_r9 [308, 407, 408, 409, 410, 53, 54, 56, 57, 58, 59, 60, 61, 62, 63, 95, 96, 97, 98, 100, 101, 102, 103, 104] (by decide +kernel) (by decide +kernel)
set_option maxRecDepth 20000 in
theorem in_L_law_L_act_wsL_act_r10 : GoodIn wsL_law wsL_act_r10 := goodIn_r wsL_act_r10 [105, 106, 107, 108, 109, 143, 144, 145, 146, 147, 148, 20, 149, 150, 151, 152, 19, 153, 154, 47, 155, 156, 157, 158] (by decide +kernel) (by decide +kernel)
