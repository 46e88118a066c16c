set_option maxRecDepth 20000 in
theorem in_L_law_L_call_wsL_call_r10 : GoodIn wsL_law wsL_call_r10 := goodIn_r wsL_call_r10 [244, 245, 246, 247, 248, 25, 9, 249, 250, 251, 252, 253, 254, 255, 256, 257, 258, 259, 260, 261, 262, 263, 264, 265] (by decide +kernel) (by decide +kernel)
set_option maxRecDepth 20000 in
theorem in_L_law_L_call_wsL_call_r11 : GoodIn wsL_law wsL_call_r11 := goodIn_r wsL_call_r11 [266, 267, 268, 269] (by decide +kernel) (by decide +kernel)
set_option maxRecDepth 20000 in
theorem in_L_law_L_call_wsX40 : GoodIn wsL_law wsX40 := goodIn_r wsX40 [415, 416, 417, 418, 419] (by decide +kernel) (by decide +kernel)
set_option maxRecDepth 20000 in
theorem in_L_law_L_call_wsX20 : GoodIn wsL_law wsX20 := goodIn_r wsX20 [420, 421, 422, 423, 424, 425, 426, 427, 428, 429, 430, 431, 432] (by decide +kernel) (by decide +kernel)
set_option maxRecDepth 20000 in
theorem in_L_law_L_call_wsX00 : GoodIn wsL_law wsX00 := goodIn_r wsX00 [441, 442] (by decide +kernel) (by decide +kernel)
set_option maxRecDepth 20000 in
theorem in_L_law_L_call_wsX30 : GoodIn wsL_law wsX30 := goodIn_r wsX30 [439, 440] (by decide +kernel) (by decide +kernel)
set_option maxRecDepth 20000 in
theorem in_L_law_L_call_wsX10 : GoodIn wsL_law wsX10 := goodIn_r wsX10 [433, 434, 435, 436, 437, 438] (by decide +kernel) (by decide +kernel)
set_option maxRecDepth 20000 in
theorem ggL_law_L_call : GoodIn wsL_law wsL_call := goodIn_ca (goodIn_ca (goodIn_ca (goodIn_app (a := ([.codeWith yL_call cL_call 5 (some .int) [(0, 125, 126, 44), (0, 125, 131, 46), (0, 125, 136, 48)]] : List Cond)) in_L_law_L_call_h (goodIn_app (goodIn_app (goodIn_app (goodIn_app (goodIn_app (goodIn_app in_L_law_L_call_wsL_call_r1 (goodIn_app in_L_law_L_call_wsL_call_r2 (goodIn_app in_L_law_L_call_wsL_call_r3 (goodIn_app in_L_law_L_call_wsL_call_r4 (goodIn_app in_L_law_L_call_wsL_call_r5 (goodIn_app in_L_law_L_call_wsL_call_r6 (goodIn_app in_L_law_L_call_wsL_call_r7 (goodIn_app in_L_law_L_call_wsL_call_r8 (goodIn_app in_L_law_L_call_wsL_call_r9 (goodIn_app in_L_law_L_call_wsL_call_r10 in_L_law_L_call_wsL_call_r11)))))))))) in_L_law_L_call_wsX40) in_L_law_L_call_wsX20) in_L_law_L_call_wsX00) in_L_law_L_call_wsX30) in_L_law_L_call_wsX10)) (goodIn_sub (fun _ h => List.mem_append_left _ (List.mem_append_left _ (List.mem_append_right _ h))) (by decide +kernel))) (goodIn_sub (fun _ h => List.mem_append_left _ (List.mem_append_right _ h)) (by decide +kernel))) (goodIn_sub (fun _ h => List.mem_append_right _ h) (by decide +kernel))
set_option maxRecDepth 20000 in
theorem gL_law_L_call : GoodIn wsL_law (va_wsS RL 84 yL_call wsL_call) := goodIn_app (goodIn_of _ (by decide +kernel)) ggL_law_L_call
set_option maxRecDepth 20000 in
theorem in_L_law_L_refuses_h : GoodIn wsL_law ([.code yL_refuses cL_refuses 7 (some .boolean)] : List Cond) := goodIn_r ([.code yL_refuses cL_refuses 7 (some .boolean)] : List Cond) [272] (by decide +kernel) (by decide +kernel)
set_option maxRecDepth 20000 in
theorem in_L_law_L_refuses_wsL_refuses_r1 : GoodIn wsL_law wsL_refuses_r1 := goodIn_r wsL_refuses_r1 [273, 274, 55, 275, 276, 277, 278, 279, 280, 2, 281, 66, 67, 12, 114, 200, 201, 203, 282, 123, 24, 261, 283, 284] (by decide +kernel) (by decide +kernel)
set_option maxRecDepth 20000 in
theorem in_L_law_L_refuses_wsL_refuses_r2 : GoodIn wsL_law wsL_refuses_r2 := goodIn_r wsL_refuses_r2 [285, 11, 286, 33, 287, 288, 289, 290, 291, 292, 293, 294, 295, 296, 297, 298, 35, 299, 300, 301, 302, 303, 304, 305] (by decide +kernel) (by decide +kernel)
set_option maxRecDepth 20000 in
theorem in_L_law_L_refuses_wsL_refuses_r3 : GoodIn wsL_law wsL_refuses_r3 := goodIn_r wsL_refuses_r3 [306, 64, 65, 68, 99, 195, 199, 197, 69, 70, 71, 307, 308, 309, 310, 311, 312, 313, 314, 315, 316, 317, 106, 107] (by decide +kernel) (by decide +kernel)
set_option maxRecDepth 20000 in
theorem in_L_law_L_refuses_wsL_refuses_r4 : GoodIn wsL_law wsL_refuses_r4 := goodIn_r wsL_refuses_r4 [108, 109, 318, 319, 320, 321, 322, 323, 25, 20, 149, 324, 325, 326, 327, 328, 329, 16, 196, 204, 205, 206, 15, 207] (by decide +kernel) (by decide +kernel)
set_option maxRecDepth 20000 in
theorem in_L_law_L_refuses_wsL_refuses_r5 : GoodIn wsL_law wsL_refuses_r5 := goodIn_r wsL_refuses_r5 [208, 42, 209, 86, 87, 88, 210, 211, 212, 213, 214, 40, 41, 215, 216, 217, 218, 219, 220, 221, 222, 223, 224, 225] (by decide +kernel) (by decide +kernel)
set_option maxRecDepth 20000 in
theorem in_L_law_L_refuses_wsL_refuses_r6 : GoodIn wsL_law wsL_refuses_r6 := goodIn_r wsL_refuses_r6 [226, 227, 30, 228, 229, 230, 231, 232, 233, 234, 235, 236, 237, 238, 239, 240, 241, 242, 243, 244, 139, 140, 141, 330] (by decide +kernel) (by decide +kernel)
set_option maxRecDepth 20000 in
theorem in_L_law_L_refuses_wsL_refuses_r7 : GoodIn wsL_law wsL_refuses_r7 := goodIn_r wsL_refuses_r7 [331, 332, 333, 334, 89, 32, 36, 335, 336, 337, 338, 339, 340, 341, 342, 343, 31, 344, 345, 346, 347, 348, 349, 350] (by decide +kernel) (by decide +kernel)
set_option maxRecDepth 20000 in
theorem in_L_law_L_refuses_wsL_refuses_r8 : GoodIn wsL_law wsL_refuses_r8 := goodIn_r wsL_refuses_r8 [351, 352, 353, 354, 355, 356, 357, 358, 132, 133, 134, 359, 360, 361, 362, 363, 364, 365, 366, 367, 368, 369, 370, 371] (by decide +kernel) (by decide +kernel)
set_option maxRecDepth 20000 in
theorem in_L_law_L_refuses_wsL_refuses_r9 : GoodIn wsL_law wsL_refuses_r9 := goodIn_r wsL_refuses_r9 [372, 373, 374, 375, 53, 54, 56, 57, 58, 59, 60, 61, 62, 63, 72, 73, 74, 23, 75, 76, 52, 51, 10, 77] (by decide +kernel) (by decide +kernel)
set_option maxRecDepth 20000 in
theorem in_L_law_L_refuses_wsL_refuses_r10 : GoodIn wsL_law wsL_refuses_r10 := goodIn_r wsL_refuses_r10 [78, 79, 80, 26, 27, 28, 7, 8, 29, 34, 81, 82, 83, 84, 85, 90, 91, 92, 93, 94, 95, 96, 97, 98] (by decide +kernel) (by decide +kernel)
set_option maxRecDepth 20000 in
theorem in_L_law_L_refuses_wsL_refuses_r11 : GoodIn wsL_law wsL_refuses_r11 := goodIn_r wsL_refuses_r11 [100, 101, 102, 103, 104, 105, 110, 111, 112, 113, 115, 116, 117, 118, 119, 120, 121, 122, 124, 125, 126, 127, 128, 129] (by decide +kernel) (by decide +kernel)
set_option maxRecDepth 20000 in
theorem in_L_law_L_refuses_wsL_refuses_r12 : GoodIn wsL_law wsL_refuses_r12 := goodIn_r wsL_refuses_r12 [130, 131, 135, 136, 137, 138, 142, 143, 144, 145, 146, 147, 148, 150, 151, 152, 19, 153, 154, 47, 155, 156, 157, 158] (by decide +kernel) (by decide +kernel)
set_option maxRecDepth 20000 in
theorem in_L_law_L_refuses_wsL_refuses_r13 : GoodIn wsL_law wsL_refuses_r13 := goodIn_r wsL_refuses_r13 [159, 160, 161, 162, 163, 164, 165, 166, 167, 168, 169, 170, 171, 172, 173, 174, 175, 176, 177, 178, 179, 180, 181, 182] (by decide +kernel) (by decide +kernel)
set_option maxRecDepth 20000 in
theorem in_L_law_L_refuses_wsL_refuses_r14 : GoodIn wsL_law wsL_refuses_r14 := goodIn_r wsL_refuses_r14 [183, 184, 185, 186, 187, 188, 189, 190, 191, 192, 193, 194, 198, 202, 245, 246, 247, 248, 9, 249, 250, 251, 252, 253] (by decide +kernel) (by decide +kernel)
