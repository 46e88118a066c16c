set_option maxRecDepth 20000 in
theorem ggL_refuses_L_seen : GoodIn wsL_refuses wsL_seen := goodIn_ca (goodIn_ca (goodIn_r _ [4, 5, 6, 7, 8, 9, 10, 11, 12, 13, 14, 15, 16, 17, 18, 19, 20, 21, 22, 23, 24, 25, 26, 27, 28, 29, 30, 31, 32, 33, 34, 35, 36, 37, 38, 39, 40, 41, 42, 43, 44, 45, 46, 47, 48, 49, 50, 51, 52, 53, 54, 55, 56, 57, 58, 59, 60, 61, 62, 63, 64, 65, 66, 67, 68, 69, 70, 71, 72, 73, 74, 365, 366, 367, 368, 369, 370, 371, 372, 373, 374, 375, 376, 377, 378, 379, 380, 381, 382, 383, 384] (by decide +kernel) (by decide +kernel)) (goodIn_sub (fun _ h => List.mem_cons_of_mem _ (List.mem_append_left _ (List.mem_append_left _ (List.mem_append_right _ h)))) (by decide +kernel))) (goodIn_sub (fun _ h => List.mem_cons_of_mem _ (List.mem_append_left _ (List.mem_append_right _ h))) (by decide +kernel))
set_option maxRecDepth 20000 in
theorem gL_refuses_L_seen : GoodIn wsL_refuses (va_wsS RL 91 yL_seen wsL_seen) := goodIn_app (goodIn_of _ (by decide +kernel)) ggL_refuses_L_seen
set_option maxRecDepth 20000 in
theorem in_L_refuses_X4_digest_h : GoodIn wsL_refuses ([.code yX4_digest cX4_digest 4 (some .long)] : List Cond) := goodIn_r ([.code yX4_digest cX4_digest 4 (some .long)] : List Cond) [78] (by decide +kernel) (by decide +kernel)
set_option maxRecDepth 20000 in
theorem in_L_refuses_X4_digest_wsX4_digest_r1 : GoodIn wsL_refuses wsX4_digest_r1 := goodIn_r wsX4_digest_r1 [79, 80, 14, 71, 15, 66, 81, 82, 83, 84, 85, 8, 9, 10, 11, 12, 13, 16, 17, 18, 19, 20, 21, 22] (by decide +kernel) (by decide +kernel)
set_option maxRecDepth 20000 in
theorem in_L_refuses_X4_digest_wsX4_digest_r2 : GoodIn wsL_refuses wsX4_digest_r2 := goodIn_r wsX4_digest_r2 [23, 24, 25, 26, 27, 28, 29, 30, 31, 32, 33, 34, 35, 36, 37, 38, 39, 40, 41, 42, 43, 44, 45, 86] (by decide +kernel) (by decide +kernel)
set_option maxRecDepth 20000 in
theorem in_L_refuses_X4_digest_wsX4_digest_r3 : GoodIn wsL_refuses wsX4_digest_r3 := goodIn_r wsX4_digest_r3 [87, 88, 89, 90, 91, 92, 93, 94, 95, 96, 97, 98, 99, 100, 101, 102, 103, 104, 105, 106, 107, 108, 109, 110] (by decide +kernel) (by decide +kernel)
set_option maxRecDepth 20000 in
theorem in_L_refuses_X4_digest_wsX4_digest_r4 : GoodIn wsL_refuses wsX4_digest_r4 := goodIn_r wsX4_digest_r4 [111, 112, 113, 114, 115, 116, 117, 118, 119, 120, 121, 122, 123, 124, 125, 126, 127, 128, 129, 130, 131, 132, 133, 134] (by decide +kernel) (by decide +kernel)
set_option maxRecDepth 20000 in
theorem in_L_refuses_X4_digest_wsX4_digest_r5 : GoodIn wsL_refuses wsX4_digest_r5 := goodIn_r wsX4_digest_r5 [135, 136, 137, 138, 139, 140, 141, 142, 143, 144, 47, 48, 49, 50, 51, 52, 53, 54, 55, 56, 57, 58, 59, 60] (by decide +kernel) (by decide +kernel)
set_option maxRecDepth 20000 in
theorem in_L_refuses_X4_digest_wsX4_digest_r6 : GoodIn wsL_refuses wsX4_digest_r6 := goodIn_r wsX4_digest_r6 [61, 145, 146, 147, 148, 149, 150, 151, 152, 153, 154, 155, 156, 157, 158, 159, 160, 161, 162, 163, 164, 165, 166, 167] (by decide +kernel) (by decide +kernel)
set_option maxRecDepth 20000 in
theorem in_L_refuses_X4_digest_wsX4_digest_r7 : GoodIn wsL_refuses wsX4_digest_r7 := goodIn_r wsX4_digest_r7 [168, 169, 170, 171, 172, 173, 174, 175, 176, 177, 178, 179, 180, 181, 182, 183, 184, 185, 186, 187, 188, 189, 190, 191] (by decide +kernel) (by decide +kernel)
set_option maxRecDepth 20000 in
theorem in_L_refuses_X4_digest_wsX4_digest_r8 : GoodIn wsL_refuses wsX4_digest_r8 := goodIn_r wsX4_digest_r8 [192, 193] (by decide +kernel) (by decide +kernel)
set_option maxRecDepth 20000 in
theorem in_L_refuses_X4_digest_wsX40 : GoodIn wsL_refuses wsX40 := goodIn_r wsX40 [365, 366, 367, 368, 369] (by decide +kernel) (by decide +kernel)
set_option maxRecDepth 20000 in
theorem in_L_refuses_X4_digest_wsX20 : GoodIn wsL_refuses wsX20 := goodIn_r wsX20 [370, 371, 372, 373, 374, 375, 376, 377, 378, 379, 380, 381, 382] (by decide +kernel) (by decide +kernel)
set_option maxRecDepth 20000 in
theorem in_L_refuses_X4_digest_wsX30 : GoodIn wsL_refuses wsX30 := goodIn_r wsX30 [385, 386] (by decide +kernel) (by decide +kernel)
set_option maxRecDepth 20000 in
theorem in_L_refuses_X4_digest_wsX00 : GoodIn wsL_refuses wsX00 := goodIn_r wsX00 [383, 384] (by decide +kernel) (by decide +kernel)
set_option maxRecDepth 20000 in
theorem in_L_refuses_X4_digest_wsX10 : GoodIn wsL_refuses wsX10 := goodIn_r wsX10 [387, 388, 389, 390, 391, 392] (by decide +kernel) (by decide +kernel)
set_option maxRecDepth 20000 in
theorem ggL_refuses_X4_digest : GoodIn wsL_refuses wsX4_digest := goodIn_ca (goodIn_ca (goodIn_app (a := ([.code yX4_digest cX4_digest 4 (some .long)] : List Cond)) in_L_refuses_X4_digest_h (goodIn_app (goodIn_app (goodIn_app (goodIn_app (goodIn_app (goodIn_app in_L_refuses_X4_digest_wsX4_digest_r1 (goodIn_app in_L_refuses_X4_digest_wsX4_digest_r2 (goodIn_app in_L_refuses_X4_digest_wsX4_digest_r3 (goodIn_app in_L_refuses_X4_digest_wsX4_digest_r4 (goodIn_app in_L_refuses_X4_digest_wsX4_digest_r5 (goodIn_app in_L_refuses_X4_digest_wsX4_digest_r6 (goodIn_app in_L_refuses_X4_digest_wsX4_digest_r7 in_L_refuses_X4_digest_wsX4_digest_r8))))))) in_L_refuses_X4_digest_wsX40) in_L_refuses_X4_digest_wsX20) in_L_refuses_X4_digest_wsX30) in_L_refuses_X4_digest_wsX00) in_L_refuses_X4_digest_wsX10)) (goodIn_sub (fun _ h => List.mem_cons_of_mem _ (List.mem_append_left _ (List.mem_append_left _ (List.mem_append_right _ h)))) (by decide +kernel))) (goodIn_sub (fun _ h => List.mem_cons_of_mem _ (List.mem_append_left _ (List.mem_append_right _ h))) (by decide +kernel))
set_option maxRecDepth 20000 in
theorem gL_refuses_X4_digest : GoodIn wsL_refuses (wsV RL 95 RX4 yX4_digest wsX4_digest) := goodIn_app (goodIn_of _ (by decide +kernel)) ggL_refuses_X4_digest
set_option maxRecDepth 20000 in
theorem ggL_refuses_X4_count : GoodIn wsL_refuses wsX4_count := goodIn_ca (goodIn_r _ [11, 12, 13, 14, 15, 16, 17, 18, 19, 20, 21, 22, 23, 24, 25, 26, 27, 28, 29, 30, 31, 32, 33, 34, 35, 36, 37, 38, 39, 40, 41, 42, 43, 44, 45, 365, 366, 367, 368, 369, 370, 371, 372, 373, 374, 375, 376, 377, 378, 379, 380, 381, 382, 383, 384] (by decide +kernel) (by decide +kernel)) (goodIn_sub (fun _ h => List.mem_cons_of_mem _ (List.mem_append_left _ (List.mem_append_left _ (List.mem_append_right _ h)))) (by decide +kernel))
set_option maxRecDepth 20000 in
theorem gL_refuses_X4_count : GoodIn wsL_refuses (wsV RL 56 RX4 yX4_count wsX4_count) := goodIn_app (goodIn_of _ (by decide +kernel)) ggL_refuses_X4_count
set_option maxRecDepth 20000 in
theorem in_L_refuses_L_refusesAny_h : GoodIn wsL_refuses ([.code yL_refusesAny cL_refusesAny 5 (some .boolean)] : List Cond) := goodIn_r ([.code yL_refusesAny cL_refusesAny 5 (some .boolean)] : List Cond) [196] (by decide +kernel) (by decide +kernel)
set_option maxRecDepth 20000 in
theorem in_L_refuses_L_refusesAny_wsL_refusesAny_r1 : GoodIn wsL_refuses wsL_refusesAny_r1 := goodIn_r wsL_refusesAny_r1 [197, 198, 3, 199, 200, 201, 202, 203, 204, 205, 10, 206, 50, 51, 12, 13, 21, 14, 52, 57, 58, 59, 207, 208] (by decide +kernel) (by decide +kernel)
set_option maxRecDepth 20000 in
theorem in_L_refuses_L_refusesAny_wsL_refusesAny_r2 : GoodIn wsL_refuses wsL_refusesAny_r2 := goodIn_r wsL_refusesAny_r2 [209, 210, 211, 212, 213, 214, 215, 26, 216, 217, 218, 219, 220, 221, 222, 223, 224, 225, 123, 161, 150, 28, 226, 41] (by decide +kernel) (by decide +kernel)
set_option maxRecDepth 20000 in
theorem in_L_refuses_L_refusesAny_wsL_refusesAny_r3 : GoodIn wsL_refuses wsL_refusesAny_r3 := goodIn_r wsL_refusesAny_r3 [151, 227, 228, 229, 230, 231, 100, 101, 102, 149, 232, 233, 234, 235, 236, 237, 238, 239, 240, 53, 241, 242, 243, 244] (by decide +kernel) (by decide +kernel)
set_option maxRecDepth 20000 in
theorem in_L_refuses_L_refusesAny_wsL_refusesAny_r4 : GoodIn wsL_refuses wsL_refusesAny_r4 := goodIn_r wsL_refusesAny_r4 [245, 246, 71, 72, 73, 74, 247, 248, 249, 250, 15, 251, 252, 253, 254, 255, 256, 257, 258, 20, 259, 260, 261, 262] (by decide +kernel) (by decide +kernel)
set_option maxRecDepth 20000 in
theorem in_L_refuses_L_refusesAny_wsL_refusesAny_r5 : GoodIn wsL_refuses wsL_refusesAny_r5 := goodIn_r wsL_refusesAny_r5 [263, 264, 265, 266, 177, 178, 179, 267, 268, 269, 270, 141, 142, 143, 271, 272, 273, 274, 275, 276, 277, 82, 83, 278] (by decide +kernel) (by decide +kernel)
set_option maxRecDepth 20000 in
theorem in_L_refuses_L_refusesAny_wsL_refusesAny_r6 : GoodIn wsL_refuses wsL_refusesAny_r6 := goodIn_r wsL_refusesAny_r6 [279, 280, 281, 282, 283, 284, 285, 286, 287, 288, 289, 290, 291, 292, 293, 294, 295, 296, 297, 298, 299, 300, 301, 302] (by decide +kernel) (by decide +kernel)
set_option maxRecDepth 20000 in
theorem in_L_refuses_L_refusesAny_wsL_refusesAny_r7 : GoodIn wsL_refuses wsL_refusesAny_r7 := goodIn_r wsL_refusesAny_r7 [303, 304, 305, 306, 307, 308, 309, 310, 311, 312, 313, 314, 315, 316, 317, 318, 319, 320, 321, 322, 323, 324, 90, 54] (by decide +kernel) (by decide +kernel)
set_option maxRecDepth 20000 in
theorem in_L_refuses_L_refusesAny_wsL_refusesAny_r8 : GoodIn wsL_refuses wsL_refusesAny_r8 := goodIn_r wsL_refusesAny_r8 [91, 56, 325, 55, 16, 17, 326, 18, 92, 93, 94, 95, 96, 97, 98, 99, 103, 104, 105, 106, 107, 108, 109, 110] (by decide +kernel) (by decide +kernel)
set_option maxRecDepth 20000 in
theorem in_L_refuses_L_refusesAny_wsL_refusesAny_r9 : GoodIn wsL_refuses wsL_refusesAny_r9 := goodIn_r wsL_refusesAny_r9 [111, 112, 113, 114, 115, 116, 117, 118, 119, 120, 121, 122, 124, 125, 126, 127, 128, 129, 130, 131, 132, 133, 134, 135] (by decide +kernel) (by decide +kernel)
