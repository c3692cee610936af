set_option maxRecDepth 20000 in
theorem ggL_law_X5_init : GoodIn wsL_law wsX5_init := goodIn_r _ [8, 9, 10, 11, 12, 13, 14, 15, 16, 17, 18, 19, 20, 21, 22, 23, 24, 25, 26, 27, 3, 28, 29, 30, 31, 32, 33, 34, 35, 36, 37, 38, 39, 40, 41, 42, 43, 44, 45, 46, 47, 48, 49, 50, 488, 489, 490, 491, 492, 493, 494, 495, 485, 486, 487, 496, 497, 498, 499] (by decide +kernel) (by decide +kernel)
set_option maxRecDepth 20000 in
theorem gL_law_X5_init : GoodIn wsL_law (wsX5_init) := ggL_law_X5_init

set_option maxRecDepth 20000 in
theorem gq_wsL_isGame_r1 : GoodIn wsL_law wsL_isGame_r1 := goodIn_r _ [55, 56, 53, 57, 58, 59, 60, 2, 61, 15, 62, 63, 64, 14, 65, 66, 67, 68, 69, 70, 71, 72, 73, 74] (by decide +kernel) (by decide +kernel)
set_option maxRecDepth 20000 in
theorem gq_wsL_isGame_r2 : GoodIn wsL_law wsL_isGame_r2 := goodIn_r _ [75, 76, 77, 78, 79, 80, 81, 82, 83, 84, 85, 86, 87, 88, 30, 89, 90, 91, 92, 93, 94, 95, 96, 97] (by decide +kernel) (by decide +kernel)
set_option maxRecDepth 20000 in
theorem gq_wsL_isGame_r3 : GoodIn wsL_law wsL_isGame_r3 := goodIn_r _ [98, 99, 100, 101, 102, 103, 104, 105, 106, 107, 108, 109, 110, 111, 112, 113, 114, 115, 116, 117, 118, 119, 120, 121] (by decide +kernel) (by decide +kernel)
set_option maxRecDepth 20000 in
theorem gq_wsL_isGame_r4 : GoodIn wsL_law wsL_isGame_r4 := goodIn_r _ [122, 123, 124, 125, 126, 127, 128, 29, 129, 130, 131, 132, 133, 134, 135, 136, 137, 138, 139, 140, 141, 142, 143, 144] (by decide +kernel) (by decide +kernel)
set_option maxRecDepth 20000 in
theorem gq_wsL_isGame_r5 : GoodIn wsL_law wsL_isGame_r5 := goodIn_r _ [145, 146, 147, 148, 149, 150, 151, 152, 153, 154, 155, 156, 157, 28, 158, 159, 160, 161, 162, 163, 164, 165, 166, 167] (by decide +kernel) (by decide +kernel)
set_option maxRecDepth 20000 in
theorem gq_wsL_isGame_r6 : GoodIn wsL_law wsL_isGame_r6 := goodIn_r _ [168, 169, 170, 171, 172, 173, 174, 175, 176, 177, 178, 179, 180, 181, 182, 183, 184, 185, 186, 187, 188, 189, 190, 191] (by decide +kernel) (by decide +kernel)
set_option maxRecDepth 20000 in
theorem gq_wsL_isGame_r7 : GoodIn wsL_law wsL_isGame_r7 := goodIn_r _ [192, 193, 194, 195, 196, 197, 198, 199, 200, 201, 202, 203, 204, 23, 205, 206, 207, 22, 208, 50, 209, 210, 211, 212] (by decide +kernel) (by decide +kernel)
set_option maxRecDepth 20000 in
theorem gq_wsL_isGame_r8 : GoodIn wsL_law wsL_isGame_r8 := goodIn_r _ [213, 214, 215, 216, 217, 218, 219, 220, 221, 222, 223, 224, 225, 226, 227, 228, 229, 3, 230, 231, 232, 233, 234, 235] (by decide +kernel) (by decide +kernel)
set_option maxRecDepth 20000 in
theorem gq_wsL_isGame_r9 : GoodIn wsL_law wsL_isGame_r9 := goodIn_r _ [236, 237, 238, 239, 240, 241, 242, 243, 244, 245, 246, 247, 248, 249, 250, 251, 252, 253, 254, 255, 256, 257, 258, 259] (by decide +kernel) (by decide +kernel)
set_option maxRecDepth 20000 in
theorem gq_wsL_isGame_r10 : GoodIn wsL_law wsL_isGame_r10 := goodIn_r _ [260, 261, 262, 263, 264, 265, 266, 267, 268, 269, 270, 271, 272, 273, 274, 275, 276, 277, 278, 279, 280, 281, 282, 283] (by decide +kernel) (by decide +kernel)
set_option maxRecDepth 20000 in
theorem gq_wsL_isGame_r11 : GoodIn wsL_law wsL_isGame_r11 := goodIn_r _ [284, 285, 286, 287, 288, 289, 290, 291, 292, 19, 293, 294, 295, 296, 297, 298, 299, 18, 300, 40, 301, 302, 303, 39] (by decide +kernel) (by decide +kernel)
set_option maxRecDepth 20000 in
theorem gq_wsL_isGame_r12 : GoodIn wsL_law wsL_isGame_r12 := goodIn_r _ [304, 45, 305, 306, 307, 308, 309, 310, 311, 312, 313, 314, 315, 316, 317, 318, 319, 320, 321, 322, 323, 324, 325, 326] (by decide +kernel) (by decide +kernel)
set_option maxRecDepth 20000 in
theorem gq_wsL_isGame_r13 : GoodIn wsL_law wsL_isGame_r13 := goodIn_r _ [327, 328, 329, 330, 331, 332, 31, 333, 334, 335, 336, 337, 338, 339, 340, 341, 342, 343, 344, 345, 346, 347, 348, 349] (by decide +kernel) (by decide +kernel)
set_option maxRecDepth 20000 in
theorem gq_wsL_isGame_r14 : GoodIn wsL_law wsL_isGame_r14 := goodIn_r _ [350, 351, 352, 353, 354, 355, 356, 36, 357, 358, 359, 360, 361, 362, 363, 364, 365, 366, 367, 368, 369, 370, 371, 372] (by decide +kernel) (by decide +kernel)
set_option maxRecDepth 20000 in
theorem gq_wsL_isGame_r15 : GoodIn wsL_law wsL_isGame_r15 := goodIn_r _ [373, 374, 375, 376, 377, 378, 379, 380, 381, 382, 383, 384, 385, 386, 387, 388, 389, 390, 391, 392, 393, 394, 395, 396] (by decide +kernel) (by decide +kernel)
set_option maxRecDepth 20000 in
theorem gq_wsL_isGame_r16 : GoodIn wsL_law wsL_isGame_r16 := goodIn_r _ [397, 398, 399, 400, 401, 402, 403, 404, 405, 406, 407, 408, 409, 410, 411, 412, 413, 414, 415, 416, 417, 418, 419, 420] (by decide +kernel) (by decide +kernel)
set_option maxRecDepth 20000 in
theorem gq_wsL_isGame_r17 : GoodIn wsL_law wsL_isGame_r17 := goodIn_r _ [421, 422, 423, 424, 425, 426, 427, 428, 429, 430, 431, 432, 433, 434, 435, 436, 437, 438, 439, 440, 441, 442, 443, 444] (by decide +kernel) (by decide +kernel)
set_option maxRecDepth 20000 in
theorem gq_wsL_isGame_r18 : GoodIn wsL_law wsL_isGame_r18 := goodIn_r _ [445, 446, 447, 448, 449, 450, 451, 452, 453, 454, 455, 456, 457, 458, 459, 460, 461, 462, 463, 464, 465, 466, 467] (by decide +kernel) (by decide +kernel)
set_option maxRecDepth 20000 in
theorem gq_L_isGame_h : GoodIn wsL_law [.code yL_isGame cL_isGame 14 (some .boolean)] := goodIn_r _ [54] (by decide +kernel) (by decide +kernel)
theorem ggL_law_L_isGame : GoodIn wsL_law wsL_isGame := gi_cons gq_L_isGame_h (goodIn_app (goodIn_app (goodIn_app (goodIn_app (goodIn_app (goodIn_app (goodIn_app (goodIn_app (goodIn_app gq_wsL_isGame_r1 (goodIn_app gq_wsL_isGame_r2 (goodIn_app gq_wsL_isGame_r3 (goodIn_app gq_wsL_isGame_r4 (goodIn_app gq_wsL_isGame_r5 (goodIn_app gq_wsL_isGame_r6 (goodIn_app gq_wsL_isGame_r7 (goodIn_app gq_wsL_isGame_r8 (goodIn_app gq_wsL_isGame_r9 (goodIn_app gq_wsL_isGame_r10 (goodIn_app gq_wsL_isGame_r11 (goodIn_app gq_wsL_isGame_r12 (goodIn_app gq_wsL_isGame_r13 (goodIn_app gq_wsL_isGame_r14 (goodIn_app gq_wsL_isGame_r15 (goodIn_app gq_wsL_isGame_r16 (goodIn_app gq_wsL_isGame_r17 (gq_wsL_isGame_r18)))))))))))))))))) (goodIn_sub inlX5 (by decide +kernel))) (goodIn_sub inlX1 (by decide +kernel))) (goodIn_sub inlX3 (by decide +kernel))) (goodIn_sub inlX4 (by decide +kernel))) (goodIn_sub inlX2 (by decide +kernel))) (goodIn_sub (fun _ h => List.mem_append_left _ (List.mem_append_left _ (List.mem_append_right _ h))) (by decide +kernel))) (goodIn_sub (fun _ h => List.mem_append_left _ (List.mem_append_right _ h)) (by decide +kernel))) (goodIn_sub (fun _ h => List.mem_append_right _ h) (by decide +kernel)))
set_option maxRecDepth 20000 in
theorem gL_law_L_isGame : GoodIn wsL_law (va_wsS RL 130 yL_isGame wsL_isGame) := goodIn_app (goodIn_of _ (by decide +kernel)) ggL_law_L_isGame

set_option maxRecDepth 20000 in
theorem gq_wsL_isSolved_r1 : GoodIn wsL_law wsL_isSolved_r1 := goodIn_r _ [265, 266, 53, 267, 268, 269, 270, 271, 2, 272, 273, 274, 15, 151, 152, 153, 102, 103, 249, 250, 251, 275, 276, 277] (by decide +kernel) (by decide +kernel)
set_option maxRecDepth 20000 in
theorem gq_wsL_isSolved_r2 : GoodIn wsL_law wsL_isSolved_r2 := goodIn_r _ [14, 278, 66, 279, 243, 193, 110, 194, 257, 155, 156, 157, 28, 280, 196, 183, 197, 198, 199, 200, 281, 282, 283, 284] (by decide +kernel) (by decide +kernel)
set_option maxRecDepth 20000 in
theorem gq_wsL_isSolved_r3 : GoodIn wsL_law wsL_isSolved_r3 := goodIn_r _ [285, 286, 287, 288, 289, 290, 291, 292, 19, 293, 294, 295, 296, 297, 298, 299, 18, 300, 40, 301, 302, 303, 39, 304] (by decide +kernel) (by decide +kernel)
set_option maxRecDepth 20000 in
theorem gq_wsL_isSolved_r4 : GoodIn wsL_law wsL_isSolved_r4 := goodIn_r _ [45, 305, 306, 307, 308, 79, 30, 309, 310, 311, 312, 313, 314, 315, 316, 252, 253, 254, 255, 256, 72, 73, 74, 75] (by decide +kernel) (by decide +kernel)
set_option maxRecDepth 20000 in
theorem gq_wsL_isSolved_r5 : GoodIn wsL_law wsL_isSolved_r5 := goodIn_r _ [76, 77, 78, 80, 81, 82, 83, 84, 85, 86, 87, 88, 89, 90, 91, 92, 258, 122, 123, 124, 125, 126, 127, 128] (by decide +kernel) (by decide +kernel)
set_option maxRecDepth 20000 in
theorem gq_wsL_isSolved_r6 : GoodIn wsL_law wsL_isSolved_r6 := goodIn_r _ [29, 259, 190, 191, 260, 219, 220, 261, 317, 318, 319, 320, 321, 322, 323, 324, 325, 326, 327, 328, 329, 330, 331, 332] (by decide +kernel) (by decide +kernel)
set_option maxRecDepth 20000 in
theorem gq_wsL_isSolved_r7 : GoodIn wsL_law wsL_isSolved_r7 := goodIn_r _ [31, 333, 334, 335, 336, 337, 338, 339, 340, 341, 342, 343, 344, 345, 346, 347, 348, 349, 350, 351, 352, 62, 63, 64] (by decide +kernel) (by decide +kernel)
set_option maxRecDepth 20000 in
theorem gq_wsL_isSolved_r8 : GoodIn wsL_law wsL_isSolved_r8 := goodIn_r _ [65, 353, 354, 355, 356, 36, 357, 358, 359, 360, 361, 362, 363, 364, 365, 366, 367, 368, 369, 370, 371, 372, 373, 374] (by decide +kernel) (by decide +kernel)
set_option maxRecDepth 20000 in
theorem gq_wsL_isSolved_r9 : GoodIn wsL_law wsL_isSolved_r9 := goodIn_r _ [375, 376, 377, 378, 379, 380, 167, 168, 169, 170, 381, 382, 383, 384, 385, 386, 387, 388, 389, 390, 391, 392, 393, 394] (by decide +kernel) (by decide +kernel)
set_option maxRecDepth 20000 in
theorem gq_wsL_isSolved_r10 : GoodIn wsL_law wsL_isSolved_r10 := goodIn_r _ [395, 396, 397, 398, 399, 400, 401, 402, 403, 109, 111, 404, 405, 163, 164, 165, 166, 171, 172, 173, 174, 406, 176, 177] (by decide +kernel) (by decide +kernel)
set_option maxRecDepth 20000 in
theorem gq_wsL_isSolved_r11 : GoodIn wsL_law wsL_isSolved_r11 := goodIn_r _ [178, 179, 180, 181, 182, 184, 185, 186, 187, 188, 189, 192, 407, 222, 223, 224, 225, 226, 408, 409, 410, 411, 412, 413] (by decide +kernel) (by decide +kernel)
set_option maxRecDepth 20000 in
theorem gq_wsL_isSolved_r12 : GoodIn wsL_law wsL_isSolved_r12 := goodIn_r _ [414, 415, 416, 417, 418, 419, 420, 421, 422, 423, 424, 425, 426, 427, 428, 429, 430, 431, 432, 433, 71, 434, 435, 436] (by decide +kernel) (by decide +kernel)
set_option maxRecDepth 20000 in
theorem gq_wsL_isSolved_r13 : GoodIn wsL_law wsL_isSolved_r13 := goodIn_r _ [437, 438, 439, 440, 441, 442, 23, 443, 444, 445, 446, 447, 240, 241, 242, 448, 449, 450, 22, 451, 50, 239, 209, 452] (by decide +kernel) (by decide +kernel)
set_option maxRecDepth 20000 in
theorem gq_wsL_isSolved_r14 : GoodIn wsL_law wsL_isSolved_r14 := goodIn_r _ [453, 454, 455, 456, 457, 458, 212, 213, 214, 215, 216, 217, 218, 221, 112, 113, 114, 55, 56, 57, 471, 472, 473, 3] (by decide +kernel) (by decide +kernel)
set_option maxRecDepth 20000 in
theorem gq_wsL_isSolved_r15 : GoodIn wsL_law wsL_isSolved_r15 := goodIn_r _ [474, 475, 476, 262, 263, 264, 129, 130, 131] (by decide +kernel) (by decide +kernel)
set_option maxRecDepth 20000 in
theorem gq_L_isSolved_h : GoodIn wsL_law [.code yL_isSolved cL_isSolved 13 (some .boolean)] := goodIn_r _ [470] (by decide +kernel) (by decide +kernel)
theorem ggL_law_L_isSolved : GoodIn wsL_law wsL_isSolved := gi_cons gq_L_isSolved_h (goodIn_app (goodIn_app (goodIn_app (goodIn_app (goodIn_app (goodIn_app (goodIn_app (goodIn_app gq_wsL_isSolved_r1 (goodIn_app gq_wsL_isSolved_r2 (goodIn_app gq_wsL_isSolved_r3 (goodIn_app gq_wsL_isSolved_r4 (goodIn_app gq_wsL_isSolved_r5 (goodIn_app gq_wsL_isSolved_r6 (goodIn_app gq_wsL_isSolved_r7 (goodIn_app gq_wsL_isSolved_r8 (goodIn_app gq_wsL_isSolved_r9 (goodIn_app gq_wsL_isSolved_r10 (goodIn_app gq_wsL_isSolved_r11 (goodIn_app gq_wsL_isSolved_r12 (goodIn_app gq_wsL_isSolved_r13 (goodIn_app gq_wsL_isSolved_r14 (gq_wsL_isSolved_r15))))))))))))))) (goodIn_sub inlX5 (by decide +kernel))) (goodIn_sub inlX1 (by decide +kernel))) (goodIn_sub inlX4 (by decide +kernel))) (goodIn_sub inlX2 (by decide +kernel))) (goodIn_sub inlX3 (by decide +kernel))) (goodIn_sub (fun _ h => List.mem_append_right _ h) (by decide +kernel))) (goodIn_sub (fun _ h => List.mem_append_left _ (List.mem_append_left _ (List.mem_append_right _ h))) (by decide +kernel)))
set_option maxRecDepth 20000 in
theorem gL_law_L_isSolved : GoodIn wsL_law (va_wsS RL 134 yL_isSolved wsL_isSolved) := goodIn_app (goodIn_of _ (by decide +kernel)) ggL_law_L_isSolved
set_option maxRecDepth 20000 in
theorem ggL_law_X5_begin : GoodIn wsL_law wsX5_begin := goodIn_ca (goodIn_r _ [480, 102, 103, 15, 481, 482, 483, 14, 484, 31, 28, 279, 66, 79, 80, 485, 486, 487, 488, 489, 490, 491, 492, 493, 494, 495] (by decide +kernel) (by decide +kernel)) (goodIn_sub (fun _ h => List.mem_append_left _ (List.mem_append_left _ (List.mem_append_right _ h))) (by decide +kernel))
set_option maxRecDepth 20000 in
theorem gL_law_X5_begin : GoodIn wsL_law (wsV RL 139 RX5 yX5_begin wsX5_begin) := goodIn_app (goodIn_of _ (by decide +kernel)) ggL_law_X5_begin
set_option maxRecDepth 20000 in
theorem ggL_law_L_size : GoodIn wsL_law wsL_size := goodIn_r _ [476] (by decide +kernel) (by decide +kernel)
set_option maxRecDepth 20000 in
theorem gL_law_L_size : GoodIn wsL_law (va_wsS RL 17 yL_size wsL_size) := goodIn_app (goodIn_of _ (by decide +kernel)) ggL_law_L_size
set_option maxRecDepth 20000 in
theorem ggL_law_L_has : GoodIn wsL_law wsL_has := goodIn_r _ [131] (by decide +kernel) (by decide +kernel)
set_option maxRecDepth 20000 in
theorem gL_law_L_has : GoodIn wsL_law (va_wsS RL 13 yL_has wsL_has) := goodIn_app (goodIn_of _ (by decide +kernel)) ggL_law_L_has
set_option maxRecDepth 20000 in
theorem ggL_law_L_does : GoodIn wsL_law wsL_does := goodIn_ca (goodIn_ca (goodIn_r _ [267, 268, 269, 270, 271, 2, 272, 273, 274, 15, 151, 152, 153, 102, 103, 249, 250, 251, 275, 276, 277, 14, 278, 66, 279, 243, 193, 110, 194, 257, 155, 156, 157, 28, 280, 196, 183, 197, 198, 199, 200, 281, 282, 283, 284, 285, 286, 287, 288, 289, 290, 291, 292, 19, 293, 294, 295, 296, 297, 298, 299, 18, 300, 40, 301, 302, 303, 39, 304, 45, 305, 306, 307, 308, 79, 30, 309, 310, 311, 312, 313, 314, 315, 316, 252, 253, 254, 255, 256, 72, 73, 74, 75, 76, 77, 78, 80, 81, 82, 83, 84, 85, 86, 87, 88, 89, 90, 91, 92, 258, 122, 123, 124, 125, 126, 127, 128, 29, 259, 190, 191, 260, 219, 220, 261, 317, 318, 319, 320, 321, 322, 323, 324, 325, 326, 327, 328, 329, 330, 331, 332, 31, 333, 334, 335, 336, 337, 338, 339, 340, 341, 342, 343, 344, 345, 346, 347, 348, 349, 350, 351, 352, 62, 63, 64, 65, 353, 354, 355, 356, 36, 357, 358, 359, 360, 361, 362, 363, 364, 365, 366, 367, 368, 369, 370, 371, 372, 373, 374, 375, 376, 377, 378, 379, 380, 167, 168, 169, 170, 381, 382, 383, 384, 385, 386, 387, 388, 389, 390, 391, 392, 393, 394, 395, 396, 397, 398, 399, 400, 401, 402, 403, 109, 111, 404, 405, 163, 164, 165, 166, 171, 172, 173, 174, 406, 176, 177, 178, 179, 180, 181, 182, 184, 185, 186, 187, 188, 189, 192, 407, 222, 223, 224, 225, 226, 408, 409, 410, 411, 412, 413, 414, 415, 416, 417, 418, 419, 420, 421, 422, 423, 424, 425, 426, 427, 428, 429, 430, 431, 432, 433, 71, 434, 435, 436, 437, 438, 439, 440, 441, 442, 23, 443, 444, 445, 446, 447, 240, 241, 242, 448, 449, 450, 22, 451, 50, 239, 209, 452, 453, 454, 455, 456, 457, 458, 212, 213, 214, 215, 216, 217, 218, 221, 485, 486, 487, 488, 489, 490, 491, 492, 493, 494, 495, 496, 497, 499, 498] (by decide +kernel) (by decide +kernel)) (goodIn_sub (fun _ h => List.mem_append_right _ h) (by decide +kernel))) (goodIn_sub (fun _ h => List.mem_append_left _ (List.mem_append_left _ (List.mem_append_right _ h))) (by decide +kernel))
set_option maxRecDepth 20000 in
theorem gL_law_L_does : GoodIn wsL_law (va_wsS RL 118 yL_does wsL_does) := goodIn_app (goodIn_of _ (by decide +kernel)) ggL_law_L_does
set_option maxRecDepth 20000 in
theorem ggL_law_L_leader : GoodIn wsL_law wsL_leader := goodIn_r _ [57] (by decide +kernel) (by decide +kernel)
set_option maxRecDepth 20000 in
theorem gL_law_L_leader : GoodIn wsL_law (va_wsS RL 7 yL_leader wsL_leader) := goodIn_app (goodIn_of _ (by decide +kernel)) ggL_law_L_leader
set_option maxRecDepth 20000 in
theorem ggL_law_L_can : GoodIn wsL_law wsL_can := goodIn_r _ [264, 55, 56, 53, 57, 129, 130, 131] (by decide +kernel) (by decide +kernel)
set_option maxRecDepth 20000 in
theorem gL_law_L_can : GoodIn wsL_law (va_wsS RL 21 yL_can wsL_can) := goodIn_app (goodIn_of _ (by decide +kernel)) ggL_law_L_can
abbrev vwCl : List vw_C := [(RX1, TX1, 8), (RX2, TX2, 1), (RX3, TX3, 1), (RX4, TX4, 2), (RX5, TX5, 3)]
