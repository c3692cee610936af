theorem dL_fork_66 : decode cL_fork 66 = .ok (.iconst 0, 1) := by decide +kernel
theorem dL_fork_67 : decode cL_fork 67 = .ok (.ireturn, 1) := by decide +kernel
theorem dL_fork_68 : decode cL_fork 68 = .ok (.aload 4, 2) := by decide +kernel
theorem dL_fork_70 : decode cL_fork 70 = .ok (.iload 5, 2) := by decide +kernel
theorem dL_fork_72 : decode cL_fork 72 = .ok (.aload_n 0, 1) := by decide +kernel
theorem dL_fork_73 : decode cL_fork 73 = .ok (.bipush 6, 2) := by decide +kernel
theorem dL_fork_75 : decode cL_fork 75 = .ok (.iload_n 2, 1) := by decide +kernel
theorem dL_fork_76 : decode cL_fork 76 = .ok (.imul, 1) := by decide +kernel
theorem dL_fork_77 : decode cL_fork 77 = .ok (.iload 6, 2) := by decide +kernel
theorem dL_fork_79 : decode cL_fork 79 = .ok (.iadd, 1) := by decide +kernel
theorem dL_fork_80 : decode cL_fork 80 = .ok (.invokestatic 29, 3) := by decide +kernel
theorem dL_fork_83 : decode cL_fork 83 = .ok (.iastore, 1) := by decide +kernel
theorem dL_fork_84 : decode cL_fork 84 = .ok (.iload_n 3, 1) := by decide +kernel
theorem dL_fork_85 : decode cL_fork 85 = .ok (.iconst 1, 1) := by decide +kernel
theorem dL_fork_86 : decode cL_fork 86 = .ok (.iload 6, 2) := by decide +kernel
theorem dL_fork_88 : decode cL_fork 88 = .ok (.ishl, 1) := by decide +kernel
theorem dL_fork_89 : decode cL_fork 89 = .ok (.iconst (-1), 1) := by decide +kernel
theorem dL_fork_90 : decode cL_fork 90 = .ok (.ixor, 1) := by decide +kernel
theorem dL_fork_91 : decode cL_fork 91 = .ok (.iand, 1) := by decide +kernel
theorem dL_fork_92 : decode cL_fork 92 = .ok (.istore_n 3, 1) := by decide +kernel
theorem dL_fork_93 : decode cL_fork 93 = .ok (.iinc 5 1, 3) := by decide +kernel
theorem dL_fork_96 : decode cL_fork 96 = .ok (.goto (-64), 3) := by decide +kernel
theorem dL_fork_99 : decode cL_fork 99 = .ok (.aload 4, 2) := by decide +kernel
theorem dL_fork_101 : decode cL_fork 101 = .ok (.iconst 0, 1) := by decide +kernel
theorem dL_fork_102 : decode cL_fork 102 = .ok (.iaload, 1) := by decide +kernel
theorem dL_fork_103 : decode cL_fork 103 = .ok (.iload_n 1, 1) := by decide +kernel
theorem dL_fork_104 : decode cL_fork 104 = .ok (.if_icmp .ne 22, 3) := by decide +kernel
theorem dL_fork_107 : decode cL_fork 107 = .ok (.aload 4, 2) := by decide +kernel
theorem dL_fork_109 : decode cL_fork 109 = .ok (.iconst 2, 1) := by decide +kernel
theorem dL_fork_110 : decode cL_fork 110 = .ok (.iaload, 1) := by decide +kernel
theorem dL_fork_111 : decode cL_fork 111 = .ok (.iload_n 1, 1) := by decide +kernel
theorem dL_fork_112 : decode cL_fork 112 = .ok (.if_icmp .ne 14, 3) := by decide +kernel
theorem dL_fork_115 : decode cL_fork 115 = .ok (.aload 4, 2) := by decide +kernel
theorem dL_fork_117 : decode cL_fork 117 = .ok (.iconst 1, 1) := by decide +kernel
theorem dL_fork_118 : decode cL_fork 118 = .ok (.iaload, 1) := by decide +kernel
theorem dL_fork_119 : decode cL_fork 119 = .ok (.iload_n 1, 1) := by decide +kernel
theorem dL_fork_120 : decode cL_fork 120 = .ok (.isub, 1) := by decide +kernel
theorem dL_fork_121 : decode cL_fork 121 = .ok (.iconst 1, 1) := by decide +kernel
theorem dL_fork_122 : decode cL_fork 122 = .ok (.iand, 1) := by decide +kernel
theorem dL_fork_123 : decode cL_fork 123 = .ok (.ifCond .ne 7, 3) := by decide +kernel
theorem dL_fork_126 : decode cL_fork 126 = .ok (.iconst 0, 1) := by decide +kernel
theorem dL_fork_127 : decode cL_fork 127 = .ok (.goto 20, 3) := by decide +kernel
theorem dL_fork_130 : decode cL_fork 130 = .ok (.aload 4, 2) := by decide +kernel
theorem dL_fork_132 : decode cL_fork 132 = .ok (.iconst 1, 1) := by decide +kernel
theorem dL_fork_133 : decode cL_fork 133 = .ok (.iaload, 1) := by decide +kernel
theorem dL_fork_134 : decode cL_fork 134 = .ok (.iload_n 1, 1) := by decide +kernel
theorem dL_fork_135 : decode cL_fork 135 = .ok (.iconst 3, 1) := by decide +kernel
theorem dL_fork_136 : decode cL_fork 136 = .ok (.iadd, 1) := by decide +kernel
theorem dL_fork_137 : decode cL_fork 137 = .ok (.iconst 4, 1) := by decide +kernel
theorem dL_fork_138 : decode cL_fork 138 = .ok (.irem, 1) := by decide +kernel
theorem dL_fork_139 : decode cL_fork 139 = .ok (.if_icmp .ne 7, 3) := by decide +kernel
theorem dL_fork_142 : decode cL_fork 142 = .ok (.iconst 2, 1) := by decide +kernel
theorem dL_fork_143 : decode cL_fork 143 = .ok (.goto 4, 3) := by decide +kernel
theorem dL_fork_146 : decode cL_fork 146 = .ok (.iconst 1, 1) := by decide +kernel
theorem dL_fork_147 : decode cL_fork 147 = .ok (.ireturn, 1) := by decide +kernel
set_option maxRecDepth 20000 in
theorem ggL_does_X5_give : GoodIn wsL_does wsX5_give := goodIn_ca (goodIn_ca (goodIn_r _ [6, 7, 8, 9, 10, 11, 5, 12, 13, 14, 15, 16, 17, 18, 19, 20, 21, 22, 23, 24, 25, 26, 27, 28, 29, 30, 31, 32, 33, 34, 35, 36, 37, 38, 39, 40, 41, 42, 43, 44, 45, 46, 47, 48, 323, 324, 325, 326, 327, 328, 329, 330, 331, 332, 333] (by decide +kernel) (by decide +kernel)) (goodIn_sub (fun _ h => List.mem_cons_of_mem _ (List.mem_append_left _ (List.mem_append_right _ h))) (by decide +kernel))) (goodIn_sub (fun _ h => List.mem_cons_of_mem _ (List.mem_append_right _ h)) (by decide +kernel))
set_option maxRecDepth 20000 in
theorem gL_does_X5_give : GoodIn wsL_does (wsV RL 40 RX5 yX5_give wsX5_give) := goodIn_app (goodIn_of _ (by decide +kernel)) ggL_does_X5_give
set_option maxRecDepth 20000 in
theorem ggL_does_X5_start : GoodIn wsL_does wsX5_start := goodIn_ca (goodIn_ca (goodIn_r _ [52, 7, 8, 9, 53, 10, 11, 5, 12, 13, 14, 54, 55, 56, 21, 57, 23, 29, 30, 31, 32, 33, 34, 35, 36, 37, 38, 39, 40, 58, 59, 60, 61, 62, 63, 64, 65, 66, 67, 68, 69, 70, 71, 72, 73, 74, 75, 323, 324, 325, 326, 327, 328, 329, 330, 331, 332, 333, 334, 335, 336] (by decide +kernel) (by decide +kernel)) (goodIn_sub (fun _ h => List.mem_cons_of_mem _ (List.mem_append_left _ (List.mem_append_right _ h))) (by decide +kernel))) (goodIn_sub (fun _ h => List.mem_cons_of_mem _ (List.mem_append_right _ h)) (by decide +kernel))
set_option maxRecDepth 20000 in
theorem gL_does_X5_start : GoodIn wsL_does (wsV RL 46 RX5 yX5_start wsX5_start) := goodIn_app (goodIn_of _ (by decide +kernel)) ggL_does_X5_start
set_option maxRecDepth 20000 in
theorem ggL_does_X5_play : GoodIn wsL_does wsX5_play := goodIn_ca (goodIn_ca (goodIn_r _ [79, 9, 15, 16, 5, 17, 13, 14, 80, 81, 82, 83, 7, 8, 84, 85, 86, 21, 87, 88, 89, 90, 91, 23, 92, 93, 94, 95, 74, 96, 97, 98, 99, 100, 101, 102, 103, 104, 75, 105, 106, 107, 108, 29, 30, 31, 32, 33, 109, 110, 111, 112, 113, 114, 115, 116, 117, 118, 119, 27, 120, 121, 122, 123, 124, 26, 28, 125, 126, 127, 128, 129, 130, 131, 132, 133, 134, 135, 136, 137, 138, 139, 140, 141, 323, 324, 325, 326, 327, 328, 329, 330, 331, 332, 333] (by decide +kernel) (by decide +kernel)) (goodIn_sub (fun _ h => List.mem_cons_of_mem _ (List.mem_append_right _ h)) (by decide +kernel))) (goodIn_sub (fun _ h => List.mem_cons_of_mem _ (List.mem_append_left _ (List.mem_append_right _ h))) (by decide +kernel))
set_option maxRecDepth 20000 in
theorem gL_does_X5_play : GoodIn wsL_does (wsV RL 49 RX5 yX5_play wsX5_play) := goodIn_app (goodIn_of _ (by decide +kernel)) ggL_does_X5_play
set_option maxRecDepth 20000 in
theorem ggL_does_X5_takeBack : GoodIn wsL_does wsX5_takeBack := goodIn_ca (goodIn_r _ [145, 7, 8, 9, 146, 147, 148, 21, 149, 96, 150, 151, 152, 153, 113, 114, 115, 116, 117, 88, 89, 90, 91, 23, 92, 93, 94, 95, 74, 97, 98, 99, 100, 101, 102, 103, 104, 75, 105, 106, 107, 108, 45, 46, 47, 48, 33, 323, 324, 325, 326, 327, 328, 329, 330, 331, 332, 333] (by decide +kernel) (by decide +kernel)) (goodIn_sub (fun _ h => List.mem_cons_of_mem _ (List.mem_append_left _ (List.mem_append_right _ h))) (by decide +kernel))
set_option maxRecDepth 20000 in
theorem gL_does_X5_takeBack : GoodIn wsL_does (wsV RL 52 RX5 yX5_takeBack wsX5_takeBack) := goodIn_app (goodIn_of _ (by decide +kernel)) ggL_does_X5_takeBack
set_option maxRecDepth 20000 in
theorem ggL_does_X5_solve : GoodIn wsL_does wsX5_solve := goodIn_ca (goodIn_r _ [157, 53, 158, 159, 160, 5, 161, 7, 8, 9, 162, 163, 164, 21, 165, 23, 166, 167, 168, 61, 169, 170, 171, 93, 94, 95, 74, 96, 172, 173, 174, 175, 97, 98, 99, 100, 176, 177, 178, 179, 63, 180, 181, 182, 183, 184, 185, 186, 187, 106, 107, 108, 188, 189, 190, 191, 192, 193, 194, 195, 196, 197, 198, 33, 101, 102, 103, 104, 75, 199, 200, 201, 67, 202, 203, 204, 205, 206, 69, 207, 208, 209, 210, 211, 212, 213, 214, 215, 216, 217, 218, 219, 220, 89, 90, 91, 92, 105, 221, 222, 27, 223, 224, 85, 86, 87, 88, 29, 30, 31, 32, 109, 110, 111, 112, 113, 114, 115, 116, 117, 118, 119, 120, 121, 122, 123, 225, 226, 227, 228, 229, 230, 231, 232, 233, 234, 235, 236, 237, 238, 239, 240, 241, 36, 242, 243, 244, 245, 246, 247, 248, 26, 28, 249, 250, 251, 252, 253, 254, 255, 126, 127, 128, 129, 130, 131, 132, 133, 134, 135, 136, 137, 138, 139, 140, 141, 256, 257, 258, 259, 151, 152, 153, 45, 46, 47, 48, 323, 324, 325, 326, 327, 328, 329, 330, 331, 332, 333, 334, 335, 336] (by decide +kernel) (by decide +kernel)) (goodIn_sub (fun _ h => List.mem_cons_of_mem _ (List.mem_append_left _ (List.mem_append_right _ h))) (by decide +kernel))
set_option maxRecDepth 20000 in
theorem gL_does_X5_solve : GoodIn wsL_does (wsV RL 56 RX5 yX5_solve wsX5_solve) := goodIn_app (goodIn_of _ (by decide +kernel)) ggL_does_X5_solve
set_option maxRecDepth 20000 in
theorem ggL_does_X5_solveByAll : GoodIn wsL_does wsX5_solveByAll := goodIn_ca (goodIn_r _ [263, 7, 8, 9, 158, 159, 160, 5, 161, 162, 163, 164, 21, 165, 23, 264, 93, 94, 95, 74, 96, 265, 61, 266, 180, 181, 182, 183, 184, 185, 186, 220, 89, 90, 91, 92, 97, 98, 99, 100, 101, 102, 103, 104, 75, 105, 106, 107, 108, 221, 222, 27, 223, 224, 85, 86, 87, 88, 29, 30, 31, 32, 33, 109, 110, 111, 112, 113, 114, 115, 116, 117, 118, 119, 120, 121, 122, 123, 267, 238, 239, 240, 241, 36, 242, 243, 255, 126, 127, 128, 129, 130, 131, 132, 133, 134, 135, 136, 137, 138, 139, 140, 141, 256, 257, 258, 268, 259, 151, 152, 153, 45, 46, 47, 48, 323, 324, 325, 326, 327, 328, 329, 330, 331, 332, 333] (by decide +kernel) (by decide +kernel)) (goodIn_sub (fun _ h => List.mem_cons_of_mem _ (List.mem_append_left _ (List.mem_append_right _ h))) (by decide +kernel))
set_option maxRecDepth 20000 in
theorem gL_does_X5_solveByAll : GoodIn wsL_does (wsV RL 59 RX5 yX5_solveByAll wsX5_solveByAll) := goodIn_app (goodIn_of _ (by decide +kernel)) ggL_does_X5_solveByAll
set_option maxRecDepth 20000 in
theorem ggL_does_X5_value : GoodIn wsL_does wsX5_value := goodIn_ca (goodIn_ca (goodIn_r _ [272, 53, 15, 16, 5, 17, 13, 14, 80, 81, 82, 83, 7, 8, 9, 84, 85, 86, 21, 87, 88, 89, 90, 91, 23, 92, 93, 94, 95, 74, 96, 97, 98, 99, 100, 101, 102, 103, 104, 75, 105, 106, 107, 108, 29, 30, 31, 32, 33, 109, 110, 111, 112, 113, 114, 115, 116, 117, 118, 119, 27, 120, 121, 122, 123, 124, 26, 28, 273, 274, 275, 61, 276, 170, 172, 173, 174, 175, 220, 221, 222, 223, 255, 126, 127, 128, 129, 130, 131, 132, 133, 134, 135, 136, 137, 138, 139, 140, 141, 256, 257, 258, 171, 176, 177, 178, 179, 63, 180, 181, 182, 183, 184, 185, 186, 187, 188, 189, 190, 191, 192, 193, 194, 195, 196, 197, 198, 199, 200, 201, 67, 202, 203, 204, 205, 206, 69, 207, 208, 209, 210, 211, 212, 213, 214, 215, 216, 217, 218, 219, 224, 225, 226, 227, 228, 229, 230, 231, 232, 233, 234, 235, 236, 237, 238, 239, 240, 241, 36, 242, 243, 244, 245, 246, 247, 248, 249, 250, 251, 252, 253, 254, 259, 151, 152, 153, 45, 46, 47, 48, 323, 324, 325, 326, 327, 328, 329, 330, 331, 332, 333, 334, 335, 336] (by decide +kernel) (by decide +kernel)) (goodIn_sub (fun _ h => List.mem_cons_of_mem _ (List.mem_append_right _ h)) (by decide +kernel))) (goodIn_sub (fun _ h => List.mem_cons_of_mem _ (List.mem_append_left _ (List.mem_append_right _ h))) (by decide +kernel))
set_option maxRecDepth 20000 in
theorem gL_does_X5_value : GoodIn wsL_does (wsV RL 62 RX5 yX5_value wsX5_value) := goodIn_app (goodIn_of _ (by decide +kernel)) ggL_does_X5_value
set_option maxRecDepth 20000 in
theorem ggL_does_X5_bestCard : GoodIn wsL_does wsX5_bestCard := goodIn_ca (goodIn_r _ [280, 7, 8, 9, 53, 281, 89, 90, 21, 91, 23, 92, 93, 94, 95, 74, 96, 97, 98, 99, 100, 101, 102, 103, 104, 75, 105, 106, 107, 108, 282, 283, 284, 61, 285, 170, 224, 85, 86, 87, 88, 29, 30, 31, 32, 33, 109, 110, 111, 112, 113, 114, 115, 116, 117, 118, 119, 27, 120, 121, 122, 123, 225, 226, 227, 228, 229, 195, 196, 197, 198, 230, 231, 232, 233, 234, 235, 236, 237, 238, 239, 240, 241, 36, 242, 243, 244, 245, 246, 247, 248, 26, 28, 267, 286, 274, 275, 276, 172, 173, 174, 175, 220, 221, 222, 223, 255, 126, 127, 128, 129, 130, 131, 132, 133, 134, 135, 136, 137, 138, 139, 140, 141, 256, 257, 258, 171, 176, 177, 178, 179, 63, 180, 181, 182, 183, 184, 185, 186, 187, 188, 189, 190, 191, 192, 193, 194, 199, 200, 201, 67, 202, 203, 204, 205, 206, 69, 207, 208, 209, 210, 211, 212, 213, 214, 215, 216, 217, 218, 219, 249, 250, 251, 252, 253, 254, 259, 151, 152, 153, 45, 46, 47, 48, 323, 324, 325, 326, 327, 328, 329, 330, 331, 332, 333, 334, 335, 336] (by decide +kernel) (by decide +kernel)) (goodIn_sub (fun _ h => List.mem_cons_of_mem _ (List.mem_append_left _ (List.mem_append_right _ h))) (by decide +kernel))
set_option maxRecDepth 20000 in
theorem gL_does_X5_bestCard : GoodIn wsL_does (wsV RL 65 RX5 yX5_bestCard wsX5_bestCard) := goodIn_app (goodIn_of _ (by decide +kernel)) ggL_does_X5_bestCard
set_option maxRecDepth 20000 in
theorem ggL_does_X5_lowestEqual : GoodIn wsL_does wsX5_lowestEqual := goodIn_ca (goodIn_ca (goodIn_r _ [290, 291, 15, 16, 5, 17, 13, 14, 292, 293, 294, 295, 7, 8, 9, 296, 297, 298, 21, 299, 33, 25, 26, 27, 28, 300, 301, 302, 303, 304, 305, 306, 307, 30, 31, 32, 308, 226, 227, 228, 229, 195, 196, 197, 198, 230, 231, 232, 233, 96, 105, 106, 107, 108, 113, 114, 115, 116, 117, 309, 245, 246, 247, 119, 120, 248, 323, 324, 325, 326, 327, 328, 329, 330, 331, 332, 333, 337] (by decide +kernel) (by decide +kernel)) (goodIn_sub (fun _ h => List.mem_cons_of_mem _ (List.mem_append_right _ h)) (by decide +kernel))) (goodIn_sub (fun _ h => List.mem_cons_of_mem _ (List.mem_append_left _ (List.mem_append_right _ h))) (by decide +kernel))
set_option maxRecDepth 20000 in
theorem gL_does_X5_lowestEqual : GoodIn wsL_does (wsV RL 68 RX5 yX5_lowestEqual wsX5_lowestEqual) := goodIn_app (goodIn_of _ (by decide +kernel)) ggL_does_X5_lowestEqual
set_option maxRecDepth 20000 in
theorem ggL_does_X5_isTop : GoodIn wsL_does wsX5_isTop := goodIn_ca (goodIn_ca (goodIn_r _ [313, 291, 9, 15, 16, 5, 17, 13, 14, 292, 293, 294, 295, 7, 8, 296, 297, 298, 21, 299, 33, 25, 26, 27, 28, 314, 315, 316, 303, 317, 305, 318, 196, 197, 198, 307, 30, 31, 32, 319, 231, 232, 233, 96, 105, 106, 107, 108, 113, 114, 115, 116, 117, 320, 119, 120, 321, 122, 123, 322, 250, 251, 252, 253, 36, 254, 243, 323, 324, 325, 326, 327, 328, 329, 330, 331, 332, 333, 337] (by decide +kernel) (by decide +kernel)) (goodIn_sub (fun _ h => List.mem_cons_of_mem _ (List.mem_append_right _ h)) (by decide +kernel))) (goodIn_sub (fun _ h => List.mem_cons_of_mem _ (List.mem_append_left _ (List.mem_append_right _ h))) (by decide +kernel))
set_option maxRecDepth 20000 in
theorem gL_does_X5_isTop : GoodIn wsL_does (wsV RL 71 RX5 yX5_isTop wsX5_isTop) := goodIn_app (goodIn_of _ (by decide +kernel)) ggL_does_X5_isTop
theorem dL_does_0 : decode cL_does 0 = .ok (.iload_n 1, 1) := by decide +kernel
theorem dL_does_1 : decode cL_does 1 = .ok (.ifCond .ne 12, 3) := by decide +kernel
theorem dL_does_4 : decode cL_does 4 = .ok (.aload_n 0, 1) := by decide +kernel
theorem dL_does_5 : decode cL_does 5 = .ok (.iload_n 2, 1) := by decide +kernel
theorem dL_does_6 : decode cL_does 6 = .ok (.iload_n 3, 1) := by decide +kernel
theorem dL_does_7 : decode cL_does 7 = .ok (.invokevirtual 40, 3) := by decide +kernel
theorem dL_does_10 : decode cL_does 10 = .ok (.goto 119, 3) := by decide +kernel
theorem dL_does_13 : decode cL_does 13 = .ok (.iload_n 1, 1) := by decide +kernel
theorem dL_does_14 : decode cL_does 14 = .ok (.iconst 1, 1) := by decide +kernel
theorem dL_does_15 : decode cL_does 15 = .ok (.if_icmp .ne 11, 3) := by decide +kernel
theorem dL_does_18 : decode cL_does 18 = .ok (.aload_n 0, 1) := by decide +kernel
theorem dL_does_19 : decode cL_does 19 = .ok (.iload_n 2, 1) := by decide +kernel
theorem dL_does_20 : decode cL_does 20 = .ok (.invokevirtual 46, 3) := by decide +kernel
theorem dL_does_23 : decode cL_does 23 = .ok (.goto 106, 3) := by decide +kernel
theorem dL_does_26 : decode cL_does 26 = .ok (.iload_n 1, 1) := by decide +kernel
theorem dL_does_27 : decode cL_does 27 = .ok (.iconst 2, 1) := by decide +kernel
theorem dL_does_28 : decode cL_does 28 = .ok (.if_icmp .ne 11, 3) := by decide +kernel
theorem dL_does_31 : decode cL_does 31 = .ok (.aload_n 0, 1) := by decide +kernel
theorem dL_does_32 : decode cL_does 32 = .ok (.iload_n 2, 1) := by decide +kernel
theorem dL_does_33 : decode cL_does 33 = .ok (.invokevirtual 49, 3) := by decide +kernel
theorem dL_does_36 : decode cL_does 36 = .ok (.goto 93, 3) := by decide +kernel
theorem dL_does_39 : decode cL_does 39 = .ok (.iload_n 1, 1) := by decide +kernel
theorem dL_does_40 : decode cL_does 40 = .ok (.iconst 3, 1) := by decide +kernel
theorem dL_does_41 : decode cL_does 41 = .ok (.if_icmp .ne 10, 3) := by decide +kernel
theorem dL_does_44 : decode cL_does 44 = .ok (.aload_n 0, 1) := by decide +kernel
theorem dL_does_45 : decode cL_does 45 = .ok (.invokevirtual 52, 3) := by decide +kernel
theorem dL_does_48 : decode cL_does 48 = .ok (.goto 81, 3) := by decide +kernel
theorem dL_does_51 : decode cL_does 51 = .ok (.iload_n 1, 1) := by decide +kernel
theorem dL_does_52 : decode cL_does 52 = .ok (.iconst 4, 1) := by decide +kernel
theorem dL_does_53 : decode cL_does 53 = .ok (.if_icmp .ne 10, 3) := by decide +kernel
theorem dL_does_56 : decode cL_does 56 = .ok (.aload_n 0, 1) := by decide +kernel
theorem dL_does_57 : decode cL_does 57 = .ok (.invokevirtual 56, 3) := by decide +kernel
theorem dL_does_60 : decode cL_does 60 = .ok (.goto 69, 3) := by decide +kernel
theorem dL_does_63 : decode cL_does 63 = .ok (.iload_n 1, 1) := by decide +kernel
theorem dL_does_64 : decode cL_does 64 = .ok (.iconst 5, 1) := by decide +kernel
theorem dL_does_65 : decode cL_does 65 = .ok (.if_icmp .ne 10, 3) := by decide +kernel
theorem dL_does_68 : decode cL_does 68 = .ok (.aload_n 0, 1) := by decide +kernel
theorem dL_does_69 : decode cL_does 69 = .ok (.invokevirtual 59, 3) := by decide +kernel
theorem dL_does_72 : decode cL_does 72 = .ok (.goto 57, 3) := by decide +kernel
theorem dL_does_75 : decode cL_does 75 = .ok (.iload_n 1, 1) := by decide +kernel
theorem dL_does_76 : decode cL_does 76 = .ok (.bipush 6, 2) := by decide +kernel
theorem dL_does_78 : decode cL_does 78 = .ok (.if_icmp .ne 11, 3) := by decide +kernel
theorem dL_does_81 : decode cL_does 81 = .ok (.aload_n 0, 1) := by decide +kernel
theorem dL_does_82 : decode cL_does 82 = .ok (.iload_n 2, 1) := by decide +kernel
theorem dL_does_83 : decode cL_does 83 = .ok (.invokevirtual 62, 3) := by decide +kernel
theorem dL_does_86 : decode cL_does 86 = .ok (.goto 43, 3) := by decide +kernel
theorem dL_does_89 : decode cL_does 89 = .ok (.iload_n 1, 1) := by decide +kernel
theorem dL_does_90 : decode cL_does 90 = .ok (.bipush 7, 2) := by decide +kernel
theorem dL_does_92 : decode cL_does 92 = .ok (.if_icmp .ne 10, 3) := by decide +kernel
theorem dL_does_95 : decode cL_does 95 = .ok (.aload_n 0, 1) := by decide +kernel
theorem dL_does_96 : decode cL_does 96 = .ok (.invokevirtual 65, 3) := by decide +kernel
theorem dL_does_99 : decode cL_does 99 = .ok (.goto 30, 3) := by decide +kernel
theorem dL_does_102 : decode cL_does 102 = .ok (.iload_n 1, 1) := by decide +kernel
theorem dL_does_103 : decode cL_does 103 = .ok (.bipush 8, 2) := by decide +kernel
theorem dL_does_105 : decode cL_does 105 = .ok (.if_icmp .ne 11, 3) := by decide +kernel
theorem dL_does_108 : decode cL_does 108 = .ok (.aload_n 0, 1) := by decide +kernel
theorem dL_does_109 : decode cL_does 109 = .ok (.iload_n 2, 1) := by decide +kernel
theorem dL_does_110 : decode cL_does 110 = .ok (.invokevirtual 68, 3) := by decide +kernel
theorem dL_does_113 : decode cL_does 113 = .ok (.goto 16, 3) := by decide +kernel
theorem dL_does_116 : decode cL_does 116 = .ok (.aload_n 0, 1) := by decide +kernel
theorem dL_does_117 : decode cL_does 117 = .ok (.iload_n 2, 1) := by decide +kernel
theorem dL_does_118 : decode cL_does 118 = .ok (.invokevirtual 71, 3) := by decide +kernel
theorem dL_does_121 : decode cL_does 121 = .ok (.ifCond .eq 7, 3) := by decide +kernel
theorem dL_does_124 : decode cL_does 124 = .ok (.iconst 1, 1) := by decide +kernel
theorem dL_does_125 : decode cL_does 125 = .ok (.goto 4, 3) := by decide +kernel
theorem dL_does_128 : decode cL_does 128 = .ok (.iconst 0, 1) := by decide +kernel
theorem dL_does_129 : decode cL_does 129 = .ok (.ireturn, 1) := by decide +kernel
theorem dL_does_130 : decode cL_does 130 = .ok (.astore 4, 2) := by decide +kernel
theorem dL_does_132 : decode cL_does 132 = .ok (.bipush (-13), 2) := by decide +kernel
theorem dL_does_134 : decode cL_does 134 = .ok (.ireturn, 1) := by decide +kernel
set_option maxRecDepth 20000 in
theorem ggL_isGame_L_leader : GoodIn wsL_isGame wsL_leader := goodIn_r _ [4] (by decide +kernel) (by decide +kernel)
set_option maxRecDepth 20000 in
theorem gL_isGame_L_leader : GoodIn wsL_isGame (va_wsS RL 7 yL_leader wsL_leader) := goodIn_app (goodIn_of _ (by decide +kernel)) ggL_isGame_L_leader
set_option maxRecDepth 20000 in
theorem ggL_isGame_X5_isStarted : GoodIn wsL_isGame wsX5_isStarted := goodIn_r _ [9, 10, 11, 12, 13, 14, 15, 16, 432, 433, 434, 435, 436, 437, 438, 439, 440, 441, 442] (by decide +kernel) (by decide +kernel)
set_option maxRecDepth 20000 in
theorem gL_isGame_X5_isStarted : GoodIn wsL_isGame (wsV RL 77 RX5 yX5_isStarted wsX5_isStarted) := goodIn_app (goodIn_of _ (by decide +kernel)) ggL_isGame_X5_isStarted
set_option maxRecDepth 20000 in
theorem ggL_isGame_X5_turn : GoodIn wsL_isGame wsX5_turn := goodIn_r _ [20, 10, 21, 22, 23, 14, 24, 16, 25, 26, 27, 28, 29, 30, 31, 32, 33, 34, 35, 36, 37, 38, 39, 40, 41, 42, 43, 432, 433, 434, 435, 436, 437, 438, 439, 440, 441, 442] (by decide +kernel) (by decide +kernel)
set_option maxRecDepth 20000 in
theorem gL_isGame_X5_turn : GoodIn wsL_isGame (wsV RL 81 RX5 yX5_turn wsX5_turn) := goodIn_app (goodIn_of _ (by decide +kernel)) ggL_isGame_X5_turn
set_option maxRecDepth 20000 in
theorem ggL_isGame_X5_inTrick : GoodIn wsL_isGame wsX5_inTrick := goodIn_r _ [47, 10, 48, 41, 42, 14, 43, 30, 432, 433, 434, 435, 436, 437, 438, 439, 440, 441, 442] (by decide +kernel) (by decide +kernel)
set_option maxRecDepth 20000 in
theorem gL_isGame_X5_inTrick : GoodIn wsL_isGame (wsV RL 84 RX5 yX5_inTrick wsX5_inTrick) := goodIn_app (goodIn_of _ (by decide +kernel)) ggL_isGame_X5_inTrick
set_option maxRecDepth 20000 in
theorem ggL_isGame_X5_won : GoodIn wsL_isGame wsX5_won := goodIn_ca (goodIn_r _ [52, 53, 54, 10, 55, 56, 57, 14, 58, 31, 32, 33, 34, 30, 35, 36, 37, 38, 39, 59, 60, 61, 62, 432, 433, 434, 435, 436, 437, 438, 439, 440, 441, 442] (by decide +kernel) (by decide +kernel)) (goodIn_sub (fun _ h => List.mem_cons_of_mem _ (List.mem_append_left _ (List.mem_append_left _ (List.mem_append_right _ h)))) (by decide +kernel))
set_option maxRecDepth 20000 in
theorem gL_isGame_X5_won : GoodIn wsL_isGame (wsV RL 87 RX5 yX5_won wsX5_won) := goodIn_app (goodIn_of _ (by decide +kernel)) ggL_isGame_X5_won
set_option maxRecDepth 20000 in
theorem ggL_isGame_L_tricks : GoodIn wsL_isGame wsL_tricks := goodIn_r _ [65, 1, 2, 3, 4] (by decide +kernel) (by decide +kernel)
set_option maxRecDepth 20000 in
theorem gL_isGame_L_tricks : GoodIn wsL_isGame (va_wsS RL 25 yL_tricks wsL_tricks) := goodIn_app (goodIn_of _ (by decide +kernel)) ggL_isGame_L_tricks
set_option maxRecDepth 20000 in
theorem ggL_isGame_X5_cardIn : GoodIn wsL_isGame wsX5_cardIn := goodIn_ca (goodIn_r _ [69, 70, 71, 10, 48, 41, 42, 14, 43, 30, 72, 73, 74, 75, 40, 76, 77, 78, 79, 80, 432, 433, 434, 435, 436, 437, 438, 439, 440, 441, 442] (by decide +kernel) (by decide +kernel)) (goodIn_sub (fun _ h => List.mem_cons_of_mem _ (List.mem_append_left _ (List.mem_append_right _ h))) (by decide +kernel))
set_option maxRecDepth 20000 in
theorem gL_isGame_X5_cardIn : GoodIn wsL_isGame (wsV RL 90 RX5 yX5_cardIn wsX5_cardIn) := goodIn_app (goodIn_of _ (by decide +kernel)) ggL_isGame_X5_cardIn
set_option maxRecDepth 20000 in
theorem ggL_isGame_L_has : GoodIn wsL_isGame wsL_has := goodIn_r _ [83] (by decide +kernel) (by decide +kernel)
set_option maxRecDepth 20000 in
theorem gL_isGame_L_has : GoodIn wsL_isGame (va_wsS RL 13 yL_has wsL_has) := goodIn_app (goodIn_of _ (by decide +kernel)) ggL_isGame_L_has
set_option maxRecDepth 20000 in
theorem ggL_isGame_L_lowest : GoodIn wsL_isGame wsL_lowest := goodIn_r _ [86, 87, 88, 3, 89, 81, 82, 83, 90, 91, 92, 93, 94, 95] (by decide +kernel) (by decide +kernel)
set_option maxRecDepth 20000 in
theorem gL_isGame_L_lowest : GoodIn wsL_isGame (va_wsS RL 93 yL_lowest wsL_lowest) := goodIn_app (goodIn_of _ (by decide +kernel)) ggL_isGame_L_lowest
set_option maxRecDepth 20000 in
theorem ggL_isGame_L_isTop : GoodIn wsL_isGame wsL_isTop := goodIn_r _ [98, 93, 94, 3, 95, 87, 88, 89, 81, 82, 83] (by decide +kernel) (by decide +kernel)
set_option maxRecDepth 20000 in
theorem gL_isGame_L_isTop : GoodIn wsL_isGame (va_wsS RL 97 yL_isTop wsL_isTop) := goodIn_app (goodIn_of _ (by decide +kernel)) ggL_isGame_L_isTop
set_option maxRecDepth 20000 in
theorem ggL_isGame_X5_hand : GoodIn wsL_isGame wsX5_hand := goodIn_ca (goodIn_r _ [102, 10, 103, 104, 8, 105, 53, 54, 106, 107, 108, 14, 109, 110, 432, 433, 434, 435, 436, 437, 438, 439, 440, 441, 442] (by decide +kernel) (by decide +kernel)) (goodIn_sub (fun _ h => List.mem_cons_of_mem _ (List.mem_append_left _ (List.mem_append_left _ (List.mem_append_right _ h)))) (by decide +kernel))
set_option maxRecDepth 20000 in
theorem gL_isGame_X5_hand : GoodIn wsL_isGame (wsV RL 100 RX5 yX5_hand wsX5_hand) := goodIn_app (goodIn_of _ (by decide +kernel)) ggL_isGame_X5_hand
set_option maxRecDepth 20000 in
theorem ggL_isGame_X5_unlike : GoodIn wsL_isGame wsX5_unlike := goodIn_ca (goodIn_r _ [114, 10, 103, 104, 8, 105, 53, 54, 106, 107, 108, 14, 109, 110, 115, 116, 117, 118, 119, 120, 121, 122, 123, 124, 125, 126, 127, 30, 40, 41, 42, 43, 76, 77, 78, 79, 80, 128, 129, 61, 130, 131, 132, 133, 134, 135, 136, 137, 138, 139, 140, 141, 142, 143, 144, 145, 146, 147, 148, 149, 150, 151, 152, 153, 432, 433, 434, 435, 436, 437, 438, 439, 440, 441, 442] (by decide +kernel) (by decide +kernel)) (goodIn_sub (fun _ h => List.mem_cons_of_mem _ (List.mem_append_left _ (List.mem_append_left _ (List.mem_append_right _ h)))) (by decide +kernel))
set_option maxRecDepth 20000 in
theorem gL_isGame_X5_unlike : GoodIn wsL_isGame (wsV RL 103 RX5 yX5_unlike wsX5_unlike) := goodIn_app (goodIn_of _ (by decide +kernel)) ggL_isGame_X5_unlike
set_option maxRecDepth 20000 in
theorem ggL_isGame_X5_quick : GoodIn wsL_isGame wsX5_quick := goodIn_ca (goodIn_r _ [157, 158, 103, 104, 8, 105, 53, 54, 159, 160, 161, 162, 163, 164, 165, 107, 108, 14, 109, 110, 166, 146, 61, 147, 167, 168, 169, 170, 171, 121, 122, 123, 172, 125, 126, 127, 30, 40, 41, 42, 43, 76, 77, 78, 79, 80, 173, 143, 144, 174, 175, 176, 177, 178, 179, 180, 181, 136, 182, 138, 432, 433, 434, 443, 435, 436, 437, 438, 439, 440, 441, 442] (by decide +kernel) (by decide +kernel)) (goodIn_sub (fun _ h => List.mem_cons_of_mem _ (List.mem_append_left _ (List.mem_append_left _ (List.mem_append_right _ h)))) (by decide +kernel))
set_option maxRecDepth 20000 in
theorem gL_isGame_X5_quick : GoodIn wsL_isGame (wsV RL 106 RX5 yX5_quick wsX5_quick) := goodIn_app (goodIn_of _ (by decide +kernel)) ggL_isGame_X5_quick
set_option maxRecDepth 20000 in
theorem ggL_isGame_L_fork : GoodIn wsL_isGame wsL_fork := goodIn_r _ [185, 186, 81, 82, 3, 83, 87, 88, 89] (by decide +kernel) (by decide +kernel)
set_option maxRecDepth 20000 in
theorem gL_isGame_L_fork : GoodIn wsL_isGame (va_wsS RL 109 yL_fork wsL_fork) := goodIn_app (goodIn_of _ (by decide +kernel)) ggL_isGame_L_fork
set_option maxRecDepth 20000 in
theorem ggL_isGame_X5_fork : GoodIn wsL_isGame wsX5_fork := goodIn_ca (goodIn_r _ [190, 53, 54, 158, 103, 104, 8, 105, 191, 192, 193, 162, 194, 164, 171, 121, 122, 14, 123, 110, 174, 175, 61, 176, 195, 149, 136, 150, 151, 152, 153, 177, 178, 179, 180, 181, 182, 138, 196, 197, 198, 199, 200, 146, 147, 201, 60, 62, 432, 433, 434, 443, 435, 436, 437, 438, 439, 440, 441, 442] (by decide +kernel) (by decide +kernel)) (goodIn_sub (fun _ h => List.mem_cons_of_mem _ (List.mem_append_left _ (List.mem_append_left _ (List.mem_append_right _ h)))) (by decide +kernel))
set_option maxRecDepth 20000 in
theorem gL_isGame_X5_fork : GoodIn wsL_isGame (wsV RL 113 RX5 yX5_fork wsX5_fork) := goodIn_app (goodIn_of _ (by decide +kernel)) ggL_isGame_X5_fork
set_option maxRecDepth 20000 in
theorem ggL_isGame_X5_canPlay : GoodIn wsL_isGame wsX5_canPlay := goodIn_ca (goodIn_r _ [205, 10, 206, 207, 8, 208, 53, 54, 209, 210, 211, 14, 212, 213, 22, 23, 24, 16, 25, 26, 27, 28, 29, 30, 31, 32, 33, 34, 35, 36, 37, 38, 39, 40, 41, 42, 43, 214, 107, 108, 109, 110, 215, 73, 74, 75, 76, 77, 78, 79, 80, 216, 143, 61, 144, 217, 175, 176, 218, 146, 147, 432, 433, 434, 435, 436, 437, 438, 439, 440, 441, 442] (by decide +kernel) (by decide +kernel)) (goodIn_sub (fun _ h => List.mem_cons_of_mem _ (List.mem_append_left _ (List.mem_append_left _ (List.mem_append_right _ h)))) (by decide +kernel))
set_option maxRecDepth 20000 in
theorem gL_isGame_X5_canPlay : GoodIn wsL_isGame (wsV RL 115 RX5 yX5_canPlay wsX5_canPlay) := goodIn_app (goodIn_of _ (by decide +kernel)) ggL_isGame_X5_canPlay
set_option maxRecDepth 20000 in
theorem ggL_isGame_L_can : GoodIn wsL_isGame wsL_can := goodIn_r _ [221, 1, 2, 3, 4, 81, 82, 83] (by decide +kernel) (by decide +kernel)
set_option maxRecDepth 20000 in
theorem gL_isGame_L_can : GoodIn wsL_isGame (va_wsS RL 21 yL_can wsL_can) := goodIn_app (goodIn_of _ (by decide +kernel)) ggL_isGame_L_can
set_option maxRecDepth 20000 in
theorem ggL_isGame_L_does : GoodIn wsL_isGame wsL_does := goodIn_ca (goodIn_ca (goodIn_r _ [224, 225, 226, 227, 228, 8, 229, 230, 231, 10, 103, 104, 105, 53, 54, 206, 207, 208, 232, 233, 234, 14, 235, 16, 236, 200, 146, 61, 147, 214, 107, 108, 109, 110, 237, 149, 136, 150, 151, 152, 153, 238, 239, 240, 241, 242, 243, 244, 245, 246, 247, 248, 249, 250, 251, 252, 253, 254, 255, 256, 257, 258, 259, 260, 261, 262, 263, 264, 265, 266, 267, 268, 269, 270, 29, 39, 271, 272, 273, 274, 275, 276, 277, 278, 209, 210, 211, 212, 213, 22, 23, 24, 25, 26, 27, 28, 30, 31, 32, 33, 34, 35, 36, 37, 38, 40, 41, 42, 43, 215, 73, 74, 75, 76, 77, 78, 79, 80, 216, 143, 144, 217, 175, 176, 218, 279, 280, 281, 282, 283, 284, 285, 286, 287, 288, 289, 290, 291, 292, 293, 294, 295, 296, 297, 298, 299, 300, 301, 302, 303, 304, 305, 306, 307, 308, 309, 310, 311, 312, 313, 314, 315, 11, 12, 13, 15, 316, 317, 318, 319, 320, 321, 322, 323, 324, 325, 326, 327, 328, 329, 330, 331, 332, 333, 334, 335, 336, 337, 338, 339, 340, 341, 342, 343, 344, 120, 121, 122, 123, 345, 346, 347, 348, 349, 350, 351, 352, 353, 354, 355, 356, 357, 358, 359, 360, 361, 362, 363, 364, 365, 366, 367, 60, 62, 368, 369, 116, 117, 118, 119, 124, 125, 126, 127, 370, 129, 130, 131, 132, 133, 134, 135, 137, 138, 139, 140, 141, 142, 145, 371, 178, 179, 180, 181, 182, 372, 373, 374, 375, 376, 377, 378, 379, 380, 381, 382, 383, 384, 385, 386, 387, 388, 389, 390, 391, 392, 393, 394, 395, 396, 397, 21, 398, 399, 400, 401, 402, 403, 404, 405, 406, 158, 407, 408, 409, 410, 411, 197, 198, 199, 412, 413, 414, 162, 415, 164, 196, 165, 416, 417, 418, 419, 420, 421, 422, 168, 169, 170, 171, 172, 173, 174, 177, 432, 433, 434, 435, 436, 437, 438, 439, 440, 441, 442, 444, 445, 446, 443] (by decide +kernel) (by decide +kernel)) (goodIn_sub (fun _ h => List.mem_cons_of_mem _ (List.mem_append_right _ h)) (by decide +kernel))) (goodIn_sub (fun _ h => List.mem_cons_of_mem _ (List.mem_append_left _ (List.mem_append_left _ (List.mem_append_right _ h)))) (by decide +kernel))
set_option maxRecDepth 20000 in
theorem gL_isGame_L_does : GoodIn wsL_isGame (va_wsS RL 118 yL_does wsL_does) := goodIn_app (goodIn_of _ (by decide +kernel)) ggL_isGame_L_does
set_option maxRecDepth 20000 in
theorem ggL_isGame_X5_goodForks : GoodIn wsL_isGame wsX5_goodForks := goodIn_r _ [426, 158, 427, 428, 429, 162, 430, 431, 192, 193, 194, 164, 171, 121, 122, 14, 123, 110, 174, 175, 61, 176, 195, 149, 136, 150, 151, 152, 153, 177, 178, 179, 180, 181, 182, 138, 196, 197, 198, 199, 200, 146, 147, 201, 60, 62, 432, 433, 434, 443, 435, 436, 437, 438, 439, 440, 441, 442] (by decide +kernel) (by decide +kernel)
set_option maxRecDepth 20000 in
theorem gL_isGame_X5_goodForks : GoodIn wsL_isGame (wsV RL 122 RX5 yX5_goodForks wsX5_goodForks) := goodIn_app (goodIn_of _ (by decide +kernel)) ggL_isGame_X5_goodForks
theorem dL_isGame_0 : decode cL_isGame 0 = .ok (.aload_n 1, 1) := by decide +kernel
theorem dL_isGame_1 : decode cL_isGame 1 = .ok (.iconst 0, 1) := by decide +kernel
theorem dL_isGame_2 : decode cL_isGame 2 = .ok (.iaload, 1) := by decide +kernel
theorem dL_isGame_3 : decode cL_isGame 3 = .ok (.aload_n 1, 1) := by decide +kernel
theorem dL_isGame_4 : decode cL_isGame 4 = .ok (.iconst 1, 1) := by decide +kernel
theorem dL_isGame_5 : decode cL_isGame 5 = .ok (.iaload, 1) := by decide +kernel
theorem dL_isGame_6 : decode cL_isGame 6 = .ok (.ior, 1) := by decide +kernel
theorem dL_isGame_7 : decode cL_isGame 7 = .ok (.aload_n 1, 1) := by decide +kernel
theorem dL_isGame_8 : decode cL_isGame 8 = .ok (.iconst 2, 1) := by decide +kernel
theorem dL_isGame_9 : decode cL_isGame 9 = .ok (.iaload, 1) := by decide +kernel
theorem dL_isGame_10 : decode cL_isGame 10 = .ok (.ior, 1) := by decide +kernel
theorem dL_isGame_11 : decode cL_isGame 11 = .ok (.aload_n 1, 1) := by decide +kernel
theorem dL_isGame_12 : decode cL_isGame 12 = .ok (.iconst 3, 1) := by decide +kernel
theorem dL_isGame_13 : decode cL_isGame 13 = .ok (.iaload, 1) := by decide +kernel
theorem dL_isGame_14 : decode cL_isGame 14 = .ok (.ior, 1) := by decide +kernel
theorem dL_isGame_15 : decode cL_isGame 15 = .ok (.istore 4, 2) := by decide +kernel
theorem dL_isGame_17 : decode cL_isGame 17 = .ok (.aload_n 3, 1) := by decide +kernel
theorem dL_isGame_18 : decode cL_isGame 18 = .ok (.iconst 0, 1) := by decide +kernel
theorem dL_isGame_19 : decode cL_isGame 19 = .ok (.iaload, 1) := by decide +kernel
theorem dL_isGame_20 : decode cL_isGame 20 = .ok (.iconst 4, 1) := by decide +kernel
theorem dL_isGame_21 : decode cL_isGame 21 = .ok (.irem, 1) := by decide +kernel
theorem dL_isGame_22 : decode cL_isGame 22 = .ok (.istore 5, 2) := by decide +kernel
theorem dL_isGame_24 : decode cL_isGame 24 = .ok (.aload_n 3, 1) := by decide +kernel
theorem dL_isGame_25 : decode cL_isGame 25 = .ok (.iconst 3, 1) := by decide +kernel
theorem dL_isGame_26 : decode cL_isGame 26 = .ok (.iaload, 1) := by decide +kernel
theorem dL_isGame_27 : decode cL_isGame 27 = .ok (.ifCond .eq 8, 3) := by decide +kernel
theorem dL_isGame_30 : decode cL_isGame 30 = .ok (.iload 4, 2) := by decide +kernel
theorem dL_isGame_32 : decode cL_isGame 32 = .ok (.ifCond .ne 7, 3) := by decide +kernel
theorem dL_isGame_35 : decode cL_isGame 35 = .ok (.iconst (-1), 1) := by decide +kernel
theorem dL_isGame_36 : decode cL_isGame 36 = .ok (.goto 16, 3) := by decide +kernel
theorem dL_isGame_39 : decode cL_isGame 39 = .ok (.aload_n 2, 1) := by decide +kernel
theorem dL_isGame_40 : decode cL_isGame 40 = .ok (.aload_n 3, 1) := by decide +kernel
theorem dL_isGame_41 : decode cL_isGame 41 = .ok (.aload_n 3, 1) := by decide +kernel
theorem dL_isGame_42 : decode cL_isGame 42 = .ok (.iconst 0, 1) := by decide +kernel
theorem dL_isGame_43 : decode cL_isGame 43 = .ok (.iaload, 1) := by decide +kernel
theorem dL_isGame_44 : decode cL_isGame 44 = .ok (.invokestatic 7, 3) := by decide +kernel
theorem dL_isGame_47 : decode cL_isGame 47 = .ok (.iload 5, 2) := by decide +kernel
theorem dL_isGame_49 : decode cL_isGame 49 = .ok (.iadd, 1) := by decide +kernel
theorem dL_isGame_50 : decode cL_isGame 50 = .ok (.iconst 4, 1) := by decide +kernel
theorem dL_isGame_51 : decode cL_isGame 51 = .ok (.irem, 1) := by decide +kernel
theorem dL_isGame_52 : decode cL_isGame 52 = .ok (.istore 6, 2) := by decide +kernel
theorem dL_isGame_54 : decode cL_isGame 54 = .ok (.aload_n 0, 1) := by decide +kernel
theorem dL_isGame_55 : decode cL_isGame 55 = .ok (.invokevirtual 77, 3) := by decide +kernel
theorem dL_isGame_58 : decode cL_isGame 58 = .ok (.aload_n 3, 1) := by decide +kernel
theorem dL_isGame_59 : decode cL_isGame 59 = .ok (.iconst 3, 1) := by decide +kernel
theorem dL_isGame_60 : decode cL_isGame 60 = .ok (.iaload, 1) := by decide +kernel
theorem dL_isGame_61 : decode cL_isGame 61 = .ok (.iconst 1, 1) := by decide +kernel
theorem dL_isGame_62 : decode cL_isGame 62 = .ok (.if_icmp .ne 7, 3) := by decide +kernel
theorem dL_isGame_65 : decode cL_isGame 65 = .ok (.iconst 1, 1) := by decide +kernel
theorem dL_isGame_66 : decode cL_isGame 66 = .ok (.goto 4, 3) := by decide +kernel
theorem dL_isGame_69 : decode cL_isGame 69 = .ok (.iconst 0, 1) := by decide +kernel
theorem dL_isGame_70 : decode cL_isGame 70 = .ok (.if_icmp .ne 59, 3) := by decide +kernel
theorem dL_isGame_73 : decode cL_isGame 73 = .ok (.aload_n 0, 1) := by decide +kernel
theorem dL_isGame_74 : decode cL_isGame 74 = .ok (.invokevirtual 81, 3) := by decide +kernel
theorem dL_isGame_77 : decode cL_isGame 77 = .ok (.iload 6, 2) := by decide +kernel
theorem dL_isGame_79 : decode cL_isGame 79 = .ok (.if_icmp .ne 50, 3) := by decide +kernel
theorem dL_isGame_82 : decode cL_isGame 82 = .ok (.aload_n 0, 1) := by decide +kernel
theorem dL_isGame_83 : decode cL_isGame 83 = .ok (.invokevirtual 84, 3) := by decide +kernel
theorem dL_isGame_86 : decode cL_isGame 86 = .ok (.iload 5, 2) := by decide +kernel
theorem dL_isGame_88 : decode cL_isGame 88 = .ok (.if_icmp .ne 41, 3) := by decide +kernel
theorem dL_isGame_91 : decode cL_isGame 91 = .ok (.aload_n 0, 1) := by decide +kernel
theorem dL_isGame_92 : decode cL_isGame 92 = .ok (.iconst 0, 1) := by decide +kernel
theorem dL_isGame_93 : decode cL_isGame 93 = .ok (.invokevirtual 87, 3) := by decide +kernel
theorem dL_isGame_96 : decode cL_isGame 96 = .ok (.aload_n 2, 1) := by decide +kernel
theorem dL_isGame_97 : decode cL_isGame 97 = .ok (.aload_n 3, 1) := by decide +kernel
theorem dL_isGame_98 : decode cL_isGame 98 = .ok (.aload_n 3, 1) := by decide +kernel
theorem dL_isGame_99 : decode cL_isGame 99 = .ok (.iconst 0, 1) := by decide +kernel
theorem dL_isGame_100 : decode cL_isGame 100 = .ok (.iaload, 1) := by decide +kernel
theorem dL_isGame_101 : decode cL_isGame 101 = .ok (.iconst 0, 1) := by decide +kernel
theorem dL_isGame_102 : decode cL_isGame 102 = .ok (.invokestatic 25, 3) := by decide +kernel
theorem dL_isGame_105 : decode cL_isGame 105 = .ok (.if_icmp .ne 24, 3) := by decide +kernel
theorem dL_isGame_108 : decode cL_isGame 108 = .ok (.aload_n 0, 1) := by decide +kernel
theorem dL_isGame_109 : decode cL_isGame 109 = .ok (.iconst 1, 1) := by decide +kernel
theorem dL_isGame_110 : decode cL_isGame 110 = .ok (.invokevirtual 87, 3) := by decide +kernel
theorem dL_isGame_113 : decode cL_isGame 113 = .ok (.aload_n 2, 1) := by decide +kernel
theorem dL_isGame_114 : decode cL_isGame 114 = .ok (.aload_n 3, 1) := by decide +kernel
theorem dL_isGame_115 : decode cL_isGame 115 = .ok (.aload_n 3, 1) := by decide +kernel
theorem dL_isGame_116 : decode cL_isGame 116 = .ok (.iconst 0, 1) := by decide +kernel
theorem dL_isGame_117 : decode cL_isGame 117 = .ok (.iaload, 1) := by decide +kernel
theorem dL_isGame_118 : decode cL_isGame 118 = .ok (.iconst 1, 1) := by decide +kernel
theorem dL_isGame_119 : decode cL_isGame 119 = .ok (.invokestatic 25, 3) := by decide +kernel
theorem dL_isGame_122 : decode cL_isGame 122 = .ok (.if_icmp .ne 7, 3) := by decide +kernel
theorem dL_isGame_125 : decode cL_isGame 125 = .ok (.iconst 1, 1) := by decide +kernel
theorem dL_isGame_126 : decode cL_isGame 126 = .ok (.goto 4, 3) := by decide +kernel
theorem dL_isGame_129 : decode cL_isGame 129 = .ok (.iconst 0, 1) := by decide +kernel
theorem dL_isGame_130 : decode cL_isGame 130 = .ok (.istore 7, 2) := by decide +kernel
theorem dL_isGame_132 : decode cL_isGame 132 = .ok (.iconst 0, 1) := by decide +kernel
theorem dL_isGame_133 : decode cL_isGame 133 = .ok (.istore 8, 2) := by decide +kernel
theorem dL_isGame_135 : decode cL_isGame 135 = .ok (.iload 8, 2) := by decide +kernel
theorem dL_isGame_137 : decode cL_isGame 137 = .ok (.iload 5, 2) := by decide +kernel
theorem dL_isGame_139 : decode cL_isGame 139 = .ok (.if_icmp .ge 41, 3) := by decide +kernel
theorem dL_isGame_142 : decode cL_isGame 142 = .ok (.iload 7, 2) := by decide +kernel
theorem dL_isGame_144 : decode cL_isGame 144 = .ok (.ifCond .eq 36, 3) := by decide +kernel
theorem dL_isGame_147 : decode cL_isGame 147 = .ok (.aload_n 0, 1) := by decide +kernel
theorem dL_isGame_148 : decode cL_isGame 148 = .ok (.iload 8, 2) := by decide +kernel
theorem dL_isGame_150 : decode cL_isGame 150 = .ok (.invokevirtual 90, 3) := by decide +kernel
theorem dL_isGame_153 : decode cL_isGame 153 = .ok (.aload_n 2, 1) := by decide +kernel
theorem dL_isGame_154 : decode cL_isGame 154 = .ok (.aload_n 3, 1) := by decide +kernel
theorem dL_isGame_155 : decode cL_isGame 155 = .ok (.iconst 0, 1) := by decide +kernel
theorem dL_isGame_156 : decode cL_isGame 156 = .ok (.iaload, 1) := by decide +kernel
theorem dL_isGame_157 : decode cL_isGame 157 = .ok (.iload 5, 2) := by decide +kernel
theorem dL_isGame_159 : decode cL_isGame 159 = .ok (.isub, 1) := by decide +kernel
theorem dL_isGame_160 : decode cL_isGame 160 = .ok (.iload 8, 2) := by decide +kernel
theorem dL_isGame_162 : decode cL_isGame 162 = .ok (.iadd, 1) := by decide +kernel
theorem dL_isGame_163 : decode cL_isGame 163 = .ok (.iaload, 1) := by decide +kernel
theorem dL_isGame_164 : decode cL_isGame 164 = .ok (.if_icmp .ne 7, 3) := by decide +kernel
theorem dL_isGame_167 : decode cL_isGame 167 = .ok (.iconst 1, 1) := by decide +kernel
theorem dL_isGame_168 : decode cL_isGame 168 = .ok (.goto 4, 3) := by decide +kernel
theorem dL_isGame_171 : decode cL_isGame 171 = .ok (.iconst 0, 1) := by decide +kernel
theorem dL_isGame_172 : decode cL_isGame 172 = .ok (.istore 7, 2) := by decide +kernel
theorem dL_isGame_174 : decode cL_isGame 174 = .ok (.iinc 8 1, 3) := by decide +kernel
theorem dL_isGame_177 : decode cL_isGame 177 = .ok (.goto (-42), 3) := by decide +kernel
theorem dL_isGame_180 : decode cL_isGame 180 = .ok (.iconst 0, 1) := by decide +kernel
theorem dL_isGame_181 : decode cL_isGame 181 = .ok (.istore 8, 2) := by decide +kernel
theorem dL_isGame_183 : decode cL_isGame 183 = .ok (.iconst 0, 1) := by decide +kernel
theorem dL_isGame_184 : decode cL_isGame 184 = .ok (.istore 9, 2) := by decide +kernel
theorem dL_isGame_186 : decode cL_isGame 186 = .ok (.iload 9, 2) := by decide +kernel
theorem dL_isGame_188 : decode cL_isGame 188 = .ok (.iconst 4, 1) := by decide +kernel
theorem dL_isGame_189 : decode cL_isGame 189 = .ok (.if_icmp .ge 219, 3) := by decide +kernel
theorem dL_isGame_192 : decode cL_isGame 192 = .ok (.iload 7, 2) := by decide +kernel
theorem dL_isGame_194 : decode cL_isGame 194 = .ok (.ifCond .eq 214, 3) := by decide +kernel
theorem dL_isGame_197 : decode cL_isGame 197 = .ok (.iconst 0, 1) := by decide +kernel
theorem dL_isGame_198 : decode cL_isGame 198 = .ok (.istore 10, 2) := by decide +kernel
theorem dL_isGame_200 : decode cL_isGame 200 = .ok (.iconst 0, 1) := by decide +kernel
theorem dL_isGame_201 : decode cL_isGame 201 = .ok (.istore 11, 2) := by decide +kernel
theorem dL_isGame_203 : decode cL_isGame 203 = .ok (.iconst 0, 1) := by decide +kernel
theorem dL_isGame_204 : decode cL_isGame 204 = .ok (.istore 12, 2) := by decide +kernel
theorem dL_isGame_206 : decode cL_isGame 206 = .ok (.iload 12, 2) := by decide +kernel
theorem dL_isGame_208 : decode cL_isGame 208 = .ok (.bipush 24, 2) := by decide +kernel
theorem dL_isGame_210 : decode cL_isGame 210 = .ok (.if_icmp .ge 77, 3) := by decide +kernel
theorem dL_isGame_213 : decode cL_isGame 213 = .ok (.iload 10, 2) := by decide +kernel
theorem dL_isGame_215 : decode cL_isGame 215 = .ok (.aload_n 1, 1) := by decide +kernel
theorem dL_isGame_216 : decode cL_isGame 216 = .ok (.iload 9, 2) := by decide +kernel
theorem dL_isGame_218 : decode cL_isGame 218 = .ok (.iaload, 1) := by decide +kernel
theorem dL_isGame_219 : decode cL_isGame 219 = .ok (.iload 12, 2) := by decide +kernel
theorem dL_isGame_221 : decode cL_isGame 221 = .ok (.invokestatic 13, 3) := by decide +kernel
theorem dL_isGame_224 : decode cL_isGame 224 = .ok (.ifCond .eq 20, 3) := by decide +kernel
theorem dL_isGame_227 : decode cL_isGame 227 = .ok (.aload_n 1, 1) := by decide +kernel
theorem dL_isGame_228 : decode cL_isGame 228 = .ok (.aload_n 2, 1) := by decide +kernel
theorem dL_isGame_229 : decode cL_isGame 229 = .ok (.aload_n 3, 1) := by decide +kernel
theorem dL_isGame_230 : decode cL_isGame 230 = .ok (.iload 12, 2) := by decide +kernel
theorem dL_isGame_232 : decode cL_isGame 232 = .ok (.invokestatic 93, 3) := by decide +kernel
theorem dL_isGame_235 : decode cL_isGame 235 = .ok (.iload 12, 2) := by decide +kernel
theorem dL_isGame_237 : decode cL_isGame 237 = .ok (.if_icmp .ne 7, 3) := by decide +kernel
theorem dL_isGame_240 : decode cL_isGame 240 = .ok (.iconst 1, 1) := by decide +kernel
theorem dL_isGame_241 : decode cL_isGame 241 = .ok (.goto 4, 3) := by decide +kernel
theorem dL_isGame_244 : decode cL_isGame 244 = .ok (.iconst 0, 1) := by decide +kernel
theorem dL_isGame_245 : decode cL_isGame 245 = .ok (.iadd, 1) := by decide +kernel
theorem dL_isGame_246 : decode cL_isGame 246 = .ok (.istore 10, 2) := by decide +kernel
theorem dL_isGame_248 : decode cL_isGame 248 = .ok (.iload 11, 2) := by decide +kernel
theorem dL_isGame_250 : decode cL_isGame 250 = .ok (.aload_n 1, 1) := by decide +kernel
theorem dL_isGame_251 : decode cL_isGame 251 = .ok (.iload 9, 2) := by decide +kernel
theorem dL_isGame_253 : decode cL_isGame 253 = .ok (.iaload, 1) := by decide +kernel
theorem dL_isGame_254 : decode cL_isGame 254 = .ok (.iload 12, 2) := by decide +kernel
theorem dL_isGame_256 : decode cL_isGame 256 = .ok (.invokestatic 13, 3) := by decide +kernel
theorem dL_isGame_259 : decode cL_isGame 259 = .ok (.ifCond .eq 18, 3) := by decide +kernel
theorem dL_isGame_262 : decode cL_isGame 262 = .ok (.aload_n 1, 1) := by decide +kernel
theorem dL_isGame_263 : decode cL_isGame 263 = .ok (.aload_n 2, 1) := by decide +kernel
theorem dL_isGame_264 : decode cL_isGame 264 = .ok (.aload_n 3, 1) := by decide +kernel
theorem dL_isGame_265 : decode cL_isGame 265 = .ok (.iload 12, 2) := by decide +kernel
theorem dL_isGame_267 : decode cL_isGame 267 = .ok (.invokestatic 97, 3) := by decide +kernel
theorem dL_isGame_270 : decode cL_isGame 270 = .ok (.ifCond .eq 7, 3) := by decide +kernel
theorem dL_isGame_273 : decode cL_isGame 273 = .ok (.iconst 1, 1) := by decide +kernel
theorem dL_isGame_274 : decode cL_isGame 274 = .ok (.goto 4, 3) := by decide +kernel
theorem dL_isGame_277 : decode cL_isGame 277 = .ok (.iconst 0, 1) := by decide +kernel
theorem dL_isGame_278 : decode cL_isGame 278 = .ok (.iadd, 1) := by decide +kernel
theorem dL_isGame_279 : decode cL_isGame 279 = .ok (.istore 11, 2) := by decide +kernel
theorem dL_isGame_281 : decode cL_isGame 281 = .ok (.iinc 12 1, 3) := by decide +kernel
theorem dL_isGame_284 : decode cL_isGame 284 = .ok (.goto (-78), 3) := by decide +kernel
theorem dL_isGame_287 : decode cL_isGame 287 = .ok (.aload_n 0, 1) := by decide +kernel
theorem dL_isGame_288 : decode cL_isGame 288 = .ok (.iload 9, 2) := by decide +kernel
theorem dL_isGame_290 : decode cL_isGame 290 = .ok (.invokevirtual 100, 3) := by decide +kernel
theorem dL_isGame_293 : decode cL_isGame 293 = .ok (.aload_n 1, 1) := by decide +kernel
theorem dL_isGame_294 : decode cL_isGame 294 = .ok (.iload 9, 2) := by decide +kernel
theorem dL_isGame_296 : decode cL_isGame 296 = .ok (.iaload, 1) := by decide +kernel
theorem dL_isGame_297 : decode cL_isGame 297 = .ok (.if_icmp .ne 29, 3) := by decide +kernel
theorem dL_isGame_300 : decode cL_isGame 300 = .ok (.aload_n 0, 1) := by decide +kernel
theorem dL_isGame_301 : decode cL_isGame 301 = .ok (.iload 9, 2) := by decide +kernel
theorem dL_isGame_303 : decode cL_isGame 303 = .ok (.invokevirtual 103, 3) := by decide +kernel
theorem dL_isGame_306 : decode cL_isGame 306 = .ok (.iload 10, 2) := by decide +kernel
theorem dL_isGame_308 : decode cL_isGame 308 = .ok (.if_icmp .ne 18, 3) := by decide +kernel
theorem dL_isGame_311 : decode cL_isGame 311 = .ok (.aload_n 0, 1) := by decide +kernel
theorem dL_isGame_312 : decode cL_isGame 312 = .ok (.iload 9, 2) := by decide +kernel
theorem dL_isGame_314 : decode cL_isGame 314 = .ok (.invokevirtual 106, 3) := by decide +kernel
theorem dL_isGame_317 : decode cL_isGame 317 = .ok (.iload 11, 2) := by decide +kernel
theorem dL_isGame_319 : decode cL_isGame 319 = .ok (.if_icmp .ne 7, 3) := by decide +kernel
theorem dL_isGame_322 : decode cL_isGame 322 = .ok (.iconst 1, 1) := by decide +kernel
theorem dL_isGame_323 : decode cL_isGame 323 = .ok (.goto 4, 3) := by decide +kernel
theorem dL_isGame_326 : decode cL_isGame 326 = .ok (.iconst 0, 1) := by decide +kernel
theorem dL_isGame_327 : decode cL_isGame 327 = .ok (.istore 7, 2) := by decide +kernel
theorem dL_isGame_329 : decode cL_isGame 329 = .ok (.iconst 0, 1) := by decide +kernel
theorem dL_isGame_330 : decode cL_isGame 330 = .ok (.istore 12, 2) := by decide +kernel
theorem dL_isGame_332 : decode cL_isGame 332 = .ok (.iload 12, 2) := by decide +kernel
theorem dL_isGame_334 : decode cL_isGame 334 = .ok (.iconst 4, 1) := by decide +kernel
theorem dL_isGame_335 : decode cL_isGame 335 = .ok (.if_icmp .ge 67, 3) := by decide +kernel
theorem dL_isGame_338 : decode cL_isGame 338 = .ok (.iload 7, 2) := by decide +kernel
theorem dL_isGame_340 : decode cL_isGame 340 = .ok (.ifCond .eq 62, 3) := by decide +kernel
theorem dL_isGame_343 : decode cL_isGame 343 = .ok (.aload_n 1, 1) := by decide +kernel
theorem dL_isGame_344 : decode cL_isGame 344 = .ok (.iload 9, 2) := by decide +kernel
theorem dL_isGame_346 : decode cL_isGame 346 = .ok (.iload 12, 2) := by decide +kernel
theorem dL_isGame_348 : decode cL_isGame 348 = .ok (.invokestatic 109, 3) := by decide +kernel
theorem dL_isGame_351 : decode cL_isGame 351 = .ok (.istore 13, 2) := by decide +kernel
theorem dL_isGame_353 : decode cL_isGame 353 = .ok (.iload 8, 2) := by decide +kernel
theorem dL_isGame_355 : decode cL_isGame 355 = .ok (.iload 13, 2) := by decide +kernel
theorem dL_isGame_357 : decode cL_isGame 357 = .ok (.iconst 2, 1) := by decide +kernel
theorem dL_isGame_358 : decode cL_isGame 358 = .ok (.if_icmp .ne 14, 3) := by decide +kernel
theorem dL_isGame_361 : decode cL_isGame 361 = .ok (.iconst 1, 1) := by decide +kernel
theorem dL_isGame_362 : decode cL_isGame 362 = .ok (.iload 9, 2) := by decide +kernel
theorem dL_isGame_364 : decode cL_isGame 364 = .ok (.iconst 2, 1) := by decide +kernel
