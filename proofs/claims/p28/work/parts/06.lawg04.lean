set_option maxRecDepth 20000 in
theorem in_L_refusesAny_L_call_h : GoodIn wsL_refusesAny ([.codeWith yL_call cL_call 5 (some .int) [(0, 125, 126, 44), (0, 125, 131, 46), (0, 125, 136, 48)]] : List Cond) := goodIn_r ([.codeWith yL_call cL_call 5 (some .int) [(0, 125, 126, 44), (0, 125, 131, 46), (0, 125, 136, 48)]] : List Cond) [4] (by decide +kernel) (by decide +kernel)
set_option maxRecDepth 20000 in
theorem in_L_refusesAny_L_call_wsL_call_r1 : GoodIn wsL_refusesAny wsL_call_r1 := goodIn_r wsL_call_r1 [5, 6, 7, 8, 9, 10, 11, 12, 13, 14, 15, 16, 17, 18, 19, 20, 21, 22, 23, 24, 25, 26, 27, 28] (by decide +kernel) (by decide +kernel)
set_option maxRecDepth 20000 in
theorem in_L_refusesAny_L_call_wsL_call_r2 : GoodIn wsL_refusesAny wsL_call_r2 := goodIn_r wsL_call_r2 [29, 30, 31, 32, 33, 34, 35, 36, 37, 38, 39, 40, 41, 42, 43, 44, 45, 46, 47, 48, 49, 50, 51, 52] (by decide +kernel) (by decide +kernel)
set_option maxRecDepth 20000 in
theorem in_L_refusesAny_L_call_wsL_call_r3 : GoodIn wsL_refusesAny wsL_call_r3 := goodIn_r wsL_call_r3 [53, 54, 55, 56, 57, 58, 59, 60, 61, 62, 63, 64, 65, 66, 67, 68, 69, 70, 71, 72, 73, 74, 75, 76] (by decide +kernel) (by decide +kernel)
set_option maxRecDepth 20000 in
theorem in_L_refusesAny_L_call_wsL_call_r4 : GoodIn wsL_refusesAny wsL_call_r4 := goodIn_r wsL_call_r4 [77, 78, 79, 80, 81, 82, 83, 84, 85, 86, 87, 88, 89, 90, 91, 92, 93, 94, 95, 96, 97, 98, 99, 100] (by decide +kernel) (by decide +kernel)
set_option maxRecDepth 20000 in
theorem in_L_refusesAny_L_call_wsL_call_r5 : GoodIn wsL_refusesAny wsL_call_r5 := goodIn_r wsL_call_r5 [101, 102, 103, 104, 105, 106, 107, 108, 109, 110, 111, 112, 113, 114, 115, 116, 117, 118, 119, 120, 121, 122, 123, 124] (by decide +kernel) (by decide +kernel)
set_option maxRecDepth 20000 in
theorem in_L_refusesAny_L_call_wsL_call_r6 : GoodIn wsL_refusesAny wsL_call_r6 := goodIn_r wsL_call_r6 [125, 126, 127, 128, 129, 130, 131, 132, 133, 134, 135, 136, 137, 138, 139, 140, 141, 142, 143, 144, 145, 146, 147, 148] (by decide +kernel) (by decide +kernel)
set_option maxRecDepth 20000 in
theorem in_L_refusesAny_L_call_wsL_call_r7 : GoodIn wsL_refusesAny wsL_call_r7 := goodIn_r wsL_call_r7 [149, 150, 151, 152, 153, 154, 155, 156, 157, 158, 159, 160, 161, 162, 163, 164, 165, 166, 167, 168, 169, 170, 171, 172] (by decide +kernel) (by decide +kernel)
set_option maxRecDepth 20000 in
theorem in_L_refusesAny_L_call_wsL_call_r8 : GoodIn wsL_refusesAny wsL_call_r8 := goodIn_r wsL_call_r8 [173, 174, 175, 176, 177, 178, 179, 180, 181, 182, 183, 184, 185, 186, 187, 188, 189, 190, 191, 192, 193, 194, 195, 196] (by decide +kernel) (by decide +kernel)
set_option maxRecDepth 20000 in
theorem in_L_refusesAny_L_call_wsL_call_r9 : GoodIn wsL_refusesAny wsL_call_r9 := goodIn_r wsL_call_r9 [197, 198, 199, 200, 201, 202, 203, 204, 205, 206, 207, 208, 209, 210, 211, 212, 213, 214, 215, 216, 217, 218, 219, 220] (by decide +kernel) (by decide +kernel)
set_option maxRecDepth 20000 in
theorem in_L_refusesAny_L_call_wsL_call_r10 : GoodIn wsL_refusesAny wsL_call_r10 := goodIn_r wsL_call_r10 [221, 222, 223, 224, 225, 226, 227, 228, 229, 230, 231, 232, 233, 234, 235, 236, 237, 238, 239, 240, 241, 242, 243, 244] (by decide +kernel) (by decide +kernel)
set_option maxRecDepth 20000 in
theorem in_L_refusesAny_L_call_wsL_call_r11 : GoodIn wsL_refusesAny wsL_call_r11 := goodIn_r wsL_call_r11 [245, 246, 247, 248] (by decide +kernel) (by decide +kernel)
set_option maxRecDepth 20000 in
theorem in_L_refusesAny_L_call_wsX40 : GoodIn wsL_refusesAny wsX40 := goodIn_r wsX40 [328, 329, 330, 331, 332] (by decide +kernel) (by decide +kernel)
set_option maxRecDepth 20000 in
theorem in_L_refusesAny_L_call_wsX20 : GoodIn wsL_refusesAny wsX20 := goodIn_r wsX20 [333, 334, 335, 336, 337, 338, 339, 340, 341, 342, 343, 344, 345] (by decide +kernel) (by decide +kernel)
set_option maxRecDepth 20000 in
theorem in_L_refusesAny_L_call_wsX00 : GoodIn wsL_refusesAny wsX00 := goodIn_r wsX00 [346, 347] (by decide +kernel) (by decide +kernel)
set_option maxRecDepth 20000 in
theorem in_L_refusesAny_L_call_wsX30 : GoodIn wsL_refusesAny wsX30 := goodIn_r wsX30 [348, 349] (by decide +kernel) (by decide +kernel)
set_option maxRecDepth 20000 in
theorem in_L_refusesAny_L_call_wsX10 : GoodIn wsL_refusesAny wsX10 := goodIn_r wsX10 [350, 351, 352, 353, 354, 355] (by decide +kernel) (by decide +kernel)
set_option maxRecDepth 20000 in
theorem ggL_refusesAny_L_call : GoodIn wsL_refusesAny wsL_call := goodIn_ca (goodIn_ca (goodIn_ca (goodIn_app (a := ([.codeWith yL_call cL_call 5 (some .int) [(0, 125, 126, 44), (0, 125, 131, 46), (0, 125, 136, 48)]] : List Cond)) in_L_refusesAny_L_call_h (goodIn_app (goodIn_app (goodIn_app (goodIn_app (goodIn_app (goodIn_app in_L_refusesAny_L_call_wsL_call_r1 (goodIn_app in_L_refusesAny_L_call_wsL_call_r2 (goodIn_app in_L_refusesAny_L_call_wsL_call_r3 (goodIn_app in_L_refusesAny_L_call_wsL_call_r4 (goodIn_app in_L_refusesAny_L_call_wsL_call_r5 (goodIn_app in_L_refusesAny_L_call_wsL_call_r6 (goodIn_app in_L_refusesAny_L_call_wsL_call_r7 (goodIn_app in_L_refusesAny_L_call_wsL_call_r8 (goodIn_app in_L_refusesAny_L_call_wsL_call_r9 (goodIn_app in_L_refusesAny_L_call_wsL_call_r10 in_L_refusesAny_L_call_wsL_call_r11)))))))))) in_L_refusesAny_L_call_wsX40) in_L_refusesAny_L_call_wsX20) in_L_refusesAny_L_call_wsX00) in_L_refusesAny_L_call_wsX30) in_L_refusesAny_L_call_wsX10)) (goodIn_sub (fun _ h => List.mem_cons_of_mem _ (List.mem_append_left _ (List.mem_append_left _ (List.mem_append_right _ h)))) (by decide +kernel))) (goodIn_sub (fun _ h => List.mem_cons_of_mem _ (List.mem_append_left _ (List.mem_append_right _ h))) (by decide +kernel))) (goodIn_sub (fun _ h => List.mem_cons_of_mem _ (List.mem_append_right _ h)) (by decide +kernel))
set_option maxRecDepth 20000 in
theorem gL_refusesAny_L_call : GoodIn wsL_refusesAny (va_wsS RL 84 yL_call wsL_call) := goodIn_app (goodIn_of _ (by decide +kernel)) ggL_refusesAny_L_call
set_option maxRecDepth 20000 in
theorem in_L_refusesAny_L_ask_h : GoodIn wsL_refusesAny ([.codeWith yL_ask cL_ask 5 (some .int) [(0, 98, 99, 44), (0, 98, 104, 46)]] : List Cond) := goodIn_r ([.codeWith yL_ask cL_ask 5 (some .int) [(0, 98, 99, 44), (0, 98, 104, 46)]] : List Cond) [251] (by decide +kernel) (by decide +kernel)
set_option maxRecDepth 20000 in
theorem in_L_refusesAny_L_ask_wsL_ask_r1 : GoodIn wsL_refusesAny wsL_ask_r1 := goodIn_r wsL_ask_r1 [5, 6, 252, 253, 254, 11, 255, 13, 14, 15, 16, 18, 19, 68, 168, 172, 170, 20, 21, 22, 256, 257, 32, 258] (by decide +kernel) (by decide +kernel)
set_option maxRecDepth 20000 in
theorem in_L_refusesAny_L_ask_wsL_ask_r2 : GoodIn wsL_refusesAny wsL_ask_r2 := goodIn_r wsL_ask_r2 [259, 260, 261, 262, 46, 263, 264, 265, 266, 267, 48, 268, 269, 270, 271, 83, 272, 273, 274, 275, 276, 173, 174, 176] (by decide +kernel) (by decide +kernel)
set_option maxRecDepth 20000 in
theorem in_L_refusesAny_L_ask_wsL_ask_r3 : GoodIn wsL_refusesAny wsL_ask_r3 := goodIn_r wsL_ask_r3 [277, 92, 17, 240, 278, 279, 280, 281, 282, 283, 284, 285, 286, 287, 288, 289, 290, 291, 75, 76, 77, 78, 292, 293] (by decide +kernel) (by decide +kernel)
set_option maxRecDepth 20000 in
theorem in_L_refusesAny_L_ask_wsL_ask_r4 : GoodIn wsL_refusesAny wsL_ask_r4 := goodIn_r wsL_ask_r4 [294, 295, 167, 169, 296, 297, 298, 299, 58, 45, 49, 300, 301, 302, 303, 43, 304, 202, 203, 204, 305, 306, 307, 308] (by decide +kernel) (by decide +kernel)
set_option maxRecDepth 20000 in
theorem in_L_refusesAny_L_ask_wsL_ask_r5 : GoodIn wsL_refusesAny wsL_ask_r5 := goodIn_r wsL_ask_r5 [44, 309, 199, 200, 310, 218, 219, 220, 221, 214, 215, 216, 108, 109, 110, 177, 178, 179, 180, 181, 182, 183, 184, 55] (by decide +kernel) (by decide +kernel)
set_option maxRecDepth 20000 in
theorem in_L_refusesAny_L_ask_wsL_ask_r6 : GoodIn wsL_refusesAny wsL_ask_r6 := goodIn_r wsL_ask_r6 [56, 57, 185, 186, 187, 188, 189, 190, 191, 192, 193, 194, 195, 196, 197, 198, 201, 205, 206, 207, 208, 209, 210, 211] (by decide +kernel) (by decide +kernel)
set_option maxRecDepth 20000 in
theorem in_L_refusesAny_L_ask_wsL_ask_r7 : GoodIn wsL_refusesAny wsL_ask_r7 := goodIn_r wsL_ask_r7 [212, 213, 217, 311, 312, 313, 314, 101, 102, 103, 315, 316, 317, 318, 319, 320, 321, 322, 323, 324, 325, 326, 327] (by decide +kernel) (by decide +kernel)
set_option maxRecDepth 20000 in
theorem in_L_refusesAny_L_ask_wsX40 : GoodIn wsL_refusesAny wsX40 := goodIn_r wsX40 [328, 329, 330, 331, 332] (by decide +kernel) (by decide +kernel)
set_option maxRecDepth 20000 in
theorem in_L_refusesAny_L_ask_wsX20 : GoodIn wsL_refusesAny wsX20 := goodIn_r wsX20 [333, 334, 335, 336, 337, 338, 339, 340, 341, 342, 343, 344, 345] (by decide +kernel) (by decide +kernel)
set_option maxRecDepth 20000 in
theorem in_L_refusesAny_L_ask_wsX00 : GoodIn wsL_refusesAny wsX00 := goodIn_r wsX00 [346, 347] (by decide +kernel) (by decide +kernel)
set_option maxRecDepth 20000 in
theorem in_L_refusesAny_L_ask_wsX10 : GoodIn wsL_refusesAny wsX10 := goodIn_r wsX10 [350, 351, 352, 353, 354, 355] (by decide +kernel) (by decide +kernel)
set_option maxRecDepth 20000 in
theorem ggL_refusesAny_L_ask : GoodIn wsL_refusesAny wsL_ask := goodIn_ca (goodIn_ca (goodIn_app (a := ([.codeWith yL_ask cL_ask 5 (some .int) [(0, 98, 99, 44), (0, 98, 104, 46)]] : List Cond)) in_L_refusesAny_L_ask_h (goodIn_app (goodIn_app (goodIn_app (goodIn_app (goodIn_app in_L_refusesAny_L_ask_wsL_ask_r1 (goodIn_app in_L_refusesAny_L_ask_wsL_ask_r2 (goodIn_app in_L_refusesAny_L_ask_wsL_ask_r3 (goodIn_app in_L_refusesAny_L_ask_wsL_ask_r4 (goodIn_app in_L_refusesAny_L_ask_wsL_ask_r5 (goodIn_app in_L_refusesAny_L_ask_wsL_ask_r6 in_L_refusesAny_L_ask_wsL_ask_r7)))))) in_L_refusesAny_L_ask_wsX40) in_L_refusesAny_L_ask_wsX20) in_L_refusesAny_L_ask_wsX00) in_L_refusesAny_L_ask_wsX10)) (goodIn_sub (fun _ h => List.mem_cons_of_mem _ (List.mem_append_left _ (List.mem_append_left _ (List.mem_append_right _ h)))) (by decide +kernel))) (goodIn_sub (fun _ h => List.mem_cons_of_mem _ (List.mem_append_left _ (List.mem_append_right _ h))) (by decide +kernel))
set_option maxRecDepth 20000 in
theorem gL_refusesAny_L_ask : GoodIn wsL_refusesAny (va_wsS RL 88 yL_ask wsL_ask) := goodIn_app (goodIn_of _ (by decide +kernel)) ggL_refusesAny_L_ask
