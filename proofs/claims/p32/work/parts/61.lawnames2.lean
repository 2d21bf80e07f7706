theorem dL_does_68 : decode cL_does 68 = .ok (.iconst 3, 1) := by decide +kernel
theorem dL_does_69 : decode cL_does 69 = .ok (.if_icmp .ne 11, 3) := by decide +kernel
theorem dL_does_72 : decode cL_does 72 = .ok (.aload_n 0, 1) := by decide +kernel
theorem dL_does_73 : decode cL_does 73 = .ok (.iload_n 2, 1) := by decide +kernel
theorem dL_does_74 : decode cL_does 74 = .ok (.invokevirtual 51, 3) := by decide +kernel
theorem dL_does_77 : decode cL_does 77 = .ok (.goto 76, 3) := by decide +kernel
theorem dL_does_80 : decode cL_does 80 = .ok (.iload_n 1, 1) := by decide +kernel
theorem dL_does_81 : decode cL_does 81 = .ok (.iconst 4, 1) := by decide +kernel
theorem dL_does_82 : decode cL_does 82 = .ok (.if_icmp .ne 12, 3) := by decide +kernel
theorem dL_does_85 : decode cL_does 85 = .ok (.aload_n 0, 1) := by decide +kernel
theorem dL_does_86 : decode cL_does 86 = .ok (.iload_n 2, 1) := by decide +kernel
theorem dL_does_87 : decode cL_does 87 = .ok (.iload_n 3, 1) := by decide +kernel
theorem dL_does_88 : decode cL_does 88 = .ok (.invokevirtual 54, 3) := by decide +kernel
theorem dL_does_91 : decode cL_does 91 = .ok (.goto 62, 3) := by decide +kernel
theorem dL_does_94 : decode cL_does 94 = .ok (.iload_n 1, 1) := by decide +kernel
theorem dL_does_95 : decode cL_does 95 = .ok (.iconst 5, 1) := by decide +kernel
theorem dL_does_96 : decode cL_does 96 = .ok (.if_icmp .ne 12, 3) := by decide +kernel
theorem dL_does_99 : decode cL_does 99 = .ok (.aload_n 0, 1) := by decide +kernel
theorem dL_does_100 : decode cL_does 100 = .ok (.iload_n 2, 1) := by decide +kernel
theorem dL_does_101 : decode cL_does 101 = .ok (.iload_n 3, 1) := by decide +kernel
theorem dL_does_102 : decode cL_does 102 = .ok (.invokevirtual 58, 3) := by decide +kernel
theorem dL_does_105 : decode cL_does 105 = .ok (.goto 48, 3) := by decide +kernel
theorem dL_does_108 : decode cL_does 108 = .ok (.iload_n 1, 1) := by decide +kernel
theorem dL_does_109 : decode cL_does 109 = .ok (.bipush 6, 2) := by decide +kernel
theorem dL_does_111 : decode cL_does 111 = .ok (.if_icmp .ne 11, 3) := by decide +kernel
theorem dL_does_114 : decode cL_does 114 = .ok (.aload_n 0, 1) := by decide +kernel
theorem dL_does_115 : decode cL_does 115 = .ok (.iload_n 2, 1) := by decide +kernel
theorem dL_does_116 : decode cL_does 116 = .ok (.invokevirtual 61, 3) := by decide +kernel
theorem dL_does_119 : decode cL_does 119 = .ok (.goto 34, 3) := by decide +kernel
theorem dL_does_122 : decode cL_does 122 = .ok (.iload_n 1, 1) := by decide +kernel
theorem dL_does_123 : decode cL_does 123 = .ok (.bipush 7, 2) := by decide +kernel
theorem dL_does_125 : decode cL_does 125 = .ok (.if_icmp .ne 20, 3) := by decide +kernel
theorem dL_does_128 : decode cL_does 128 = .ok (.aload_n 0, 1) := by decide +kernel
theorem dL_does_129 : decode cL_does 129 = .ok (.iload_n 2, 1) := by decide +kernel
theorem dL_does_130 : decode cL_does 130 = .ok (.iload_n 3, 1) := by decide +kernel
theorem dL_does_131 : decode cL_does 131 = .ok (.invokevirtual 64, 3) := by decide +kernel
theorem dL_does_134 : decode cL_does 134 = .ok (.ifCond .eq 7, 3) := by decide +kernel
theorem dL_does_137 : decode cL_does 137 = .ok (.iconst 1, 1) := by decide +kernel
theorem dL_does_138 : decode cL_does 138 = .ok (.goto 15, 3) := by decide +kernel
theorem dL_does_141 : decode cL_does 141 = .ok (.iconst 0, 1) := by decide +kernel
theorem dL_does_142 : decode cL_does 142 = .ok (.goto 11, 3) := by decide +kernel
theorem dL_does_145 : decode cL_does 145 = .ok (.aload_n 0, 1) := by decide +kernel
theorem dL_does_146 : decode cL_does 146 = .ok (.iload_n 2, 1) := by decide +kernel
theorem dL_does_147 : decode cL_does 147 = .ok (.iload_n 3, 1) := by decide +kernel
theorem dL_does_148 : decode cL_does 148 = .ok (.iload 4, 2) := by decide +kernel
theorem dL_does_150 : decode cL_does 150 = .ok (.invokevirtual 68, 3) := by decide +kernel
theorem dL_does_153 : decode cL_does 153 = .ok (.ireturn, 1) := by decide +kernel
theorem dL_does_154 : decode cL_does 154 = .ok (.astore 5, 2) := by decide +kernel
theorem dL_does_156 : decode cL_does 156 = .ok (.bipush (-14), 2) := by decide +kernel
theorem dL_does_158 : decode cL_does 158 = .ok (.ireturn, 1) := by decide +kernel
theorem dL_does_159 : decode cL_does 159 = .ok (.astore 5, 2) := by decide +kernel
theorem dL_does_161 : decode cL_does 161 = .ok (.bipush (-11), 2) := by decide +kernel
theorem dL_does_163 : decode cL_does 163 = .ok (.ireturn, 1) := by decide +kernel
theorem dL_does_164 : decode cL_does 164 = .ok (.astore 5, 2) := by decide +kernel
theorem dL_does_166 : decode cL_does 166 = .ok (.bipush (-12), 2) := by decide +kernel
theorem dL_does_168 : decode cL_does 168 = .ok (.ireturn, 1) := by decide +kernel
theorem dL_does_169 : decode cL_does 169 = .ok (.astore 5, 2) := by decide +kernel
theorem dL_does_171 : decode cL_does 171 = .ok (.bipush (-13), 2) := by decide +kernel
theorem dL_does_173 : decode cL_does 173 = .ok (.ireturn, 1) := by decide +kernel
set_option maxRecDepth 20000 in
theorem ggL_isWalk_X8_now : GoodIn wsL_isWalk wsX8_now := goodIn_r _ [7, 8, 598, 599, 600, 601, 602, 603, 604, 605, 606, 607] (by decide +kernel) (by decide +kernel)
set_option maxRecDepth 20000 in
theorem gL_isWalk_X8_now : GoodIn wsL_isWalk (wsV RL 80 RX8 yX8_now wsX8_now) := goodIn_app (goodIn_of _ (by decide +kernel)) ggL_isWalk_X8_now
set_option maxRecDepth 20000 in
theorem ggL_isWalk_L_all : GoodIn wsL_isWalk wsL_all := goodIn_r _ [12, 13, 14, 15, 11, 16, 17, 18, 19] (by decide +kernel) (by decide +kernel)
set_option maxRecDepth 20000 in
theorem gL_isWalk_L_all : GoodIn wsL_isWalk (va_wsS RL 83 yL_all wsL_all) := goodIn_app (goodIn_of _ (by decide +kernel)) ggL_isWalk_L_all
set_option maxRecDepth 20000 in
theorem ggL_isWalk_X8_fits : GoodIn wsL_isWalk wsX8_fits := goodIn_ca (goodIn_r _ [23, 24, 25, 26, 6, 27, 28, 29, 30, 31, 32, 33, 34, 35, 36, 37, 38, 39, 40, 41, 42, 43, 44, 45, 46, 47, 48, 49, 50, 51, 52, 53, 54, 55, 56, 57, 58, 59, 60, 61, 62, 63, 64, 65, 66, 67, 68, 69, 70, 71, 72, 73, 74, 75, 76, 77, 78, 79, 80, 81, 82, 83, 84, 85, 86, 87, 598, 599, 600, 601, 602, 603, 604, 605, 606, 607, 608, 609, 610, 611, 612, 613, 614, 615, 616, 617, 618, 619, 620] (by decide +kernel) (by decide +kernel)) (goodIn_sub (fun _ h => List.mem_cons_of_mem _ (List.mem_append_left _ (List.mem_append_left _ (List.mem_append_left _ (List.mem_append_right _ h))))) (by decide +kernel))
set_option maxRecDepth 20000 in
theorem gL_isWalk_X8_fits : GoodIn wsL_isWalk (wsV RL 87 RX8 yX8_fits wsX8_fits) := goodIn_app (goodIn_of _ (by decide +kernel)) ggL_isWalk_X8_fits
set_option maxRecDepth 20000 in
theorem ggL_isWalk_L_many : GoodIn wsL_isWalk wsL_many := goodIn_r _ [90] (by decide +kernel) (by decide +kernel)
set_option maxRecDepth 20000 in
theorem gL_isWalk_L_many : GoodIn wsL_isWalk (va_wsS RL 90 yL_many wsL_many) := goodIn_app (goodIn_of _ (by decide +kernel)) ggL_isWalk_L_many
set_option maxRecDepth 20000 in
theorem ggL_isWalk_L_only : GoodIn wsL_isWalk wsL_only := goodIn_r _ [93] (by decide +kernel) (by decide +kernel)
set_option maxRecDepth 20000 in
theorem gL_isWalk_L_only : GoodIn wsL_isWalk (va_wsS RL 94 yL_only wsL_only) := goodIn_app (goodIn_of _ (by decide +kernel)) ggL_isWalk_L_only
set_option maxRecDepth 20000 in
theorem ggL_isWalk_X8_placeOf : GoodIn wsL_isWalk wsX8_placeOf := goodIn_ca (goodIn_r _ [97, 24, 25, 26, 6, 27, 28, 29, 30, 31, 32, 33, 34, 35, 36, 37, 38, 39, 40, 41, 42, 43, 44, 45, 46, 47, 48, 49, 50, 51, 52, 53, 54, 98, 99, 100, 58, 101, 102, 598, 599, 600, 601, 602, 603, 604, 605, 606, 607, 608, 609, 610, 611, 612, 613, 614] (by decide +kernel) (by decide +kernel)) (goodIn_sub (fun _ h => List.mem_cons_of_mem _ (List.mem_append_left _ (List.mem_append_left _ (List.mem_append_left _ (List.mem_append_right _ h))))) (by decide +kernel))
set_option maxRecDepth 20000 in
theorem gL_isWalk_X8_placeOf : GoodIn wsL_isWalk (wsV RL 97 RX8 yX8_placeOf wsX8_placeOf) := goodIn_app (goodIn_of _ (by decide +kernel)) ggL_isWalk_X8_placeOf
set_option maxRecDepth 20000 in
theorem ggL_isWalk_X8_placeByAll : GoodIn wsL_isWalk wsX8_placeByAll := goodIn_ca (goodIn_r _ [106, 107, 24, 25, 26, 6, 27, 28, 29, 30, 31, 32, 33, 34, 35, 36, 37, 38, 39, 40, 41, 42, 43, 44, 45, 46, 47, 48, 49, 50, 51, 52, 53, 54, 55, 56, 57, 58, 59, 60, 108, 109, 110, 64, 111, 112, 113, 114, 115, 116, 117, 118, 119, 120, 121, 71, 72, 73, 74, 122, 123, 124, 78, 125, 126, 127, 128, 129, 130, 131, 132, 133, 134, 135, 136, 137, 138, 139, 140, 141, 142, 143, 144, 598, 599, 600, 601, 602, 603, 604, 605, 606, 607, 608, 609, 610, 611, 612, 613, 614, 621, 622, 615, 616, 617, 618, 619, 620] (by decide +kernel) (by decide +kernel)) (goodIn_sub (fun _ h => List.mem_cons_of_mem _ (List.mem_append_left _ (List.mem_append_left _ (List.mem_append_left _ (List.mem_append_right _ h))))) (by decide +kernel))
set_option maxRecDepth 20000 in
theorem gL_isWalk_X8_placeByAll : GoodIn wsL_isWalk (wsV RL 100 RX8 yX8_placeByAll wsX8_placeByAll) := goodIn_app (goodIn_of _ (by decide +kernel)) ggL_isWalk_X8_placeByAll
set_option maxRecDepth 20000 in
theorem ggL_isWalk_X8_moves : GoodIn wsL_isWalk wsX8_moves := goodIn_ca (goodIn_r _ [148, 24, 25, 26, 6, 27, 28, 29, 30, 31, 32, 33, 34, 35, 36, 37, 38, 39, 40, 41, 42, 43, 44, 45, 46, 47, 48, 49, 50, 51, 52, 53, 54, 149, 150, 151, 58, 152, 153, 598, 599, 600, 601, 602, 603, 604, 605, 606, 607, 608, 609, 610, 611, 612, 613, 614] (by decide +kernel) (by decide +kernel)) (goodIn_sub (fun _ h => List.mem_cons_of_mem _ (List.mem_append_left _ (List.mem_append_left _ (List.mem_append_left _ (List.mem_append_right _ h))))) (by decide +kernel))
set_option maxRecDepth 20000 in
theorem gL_isWalk_X8_moves : GoodIn wsL_isWalk (wsV RL 103 RX8 yX8_moves wsX8_moves) := goodIn_app (goodIn_of _ (by decide +kernel)) ggL_isWalk_X8_moves
set_option maxRecDepth 20000 in
theorem ggL_isWalk_L_ciphers : GoodIn wsL_isWalk wsL_ciphers := goodIn_r _ [156, 1, 157, 158, 159, 160, 11, 161] (by decide +kernel) (by decide +kernel)
set_option maxRecDepth 20000 in
theorem gL_isWalk_L_ciphers : GoodIn wsL_isWalk (va_wsS RL 106 yL_ciphers wsL_ciphers) := goodIn_app (goodIn_of _ (by decide +kernel)) ggL_isWalk_L_ciphers
set_option maxRecDepth 20000 in
theorem ggL_isWalk_L_does : GoodIn wsL_isWalk wsL_does := goodIn_ca (goodIn_ca (goodIn_ca (goodIn_ca (goodIn_r _ [164, 165, 166, 167, 168, 169, 170, 171, 6, 172, 173, 174, 175, 176, 177, 178, 179, 78, 107, 180, 181, 182, 28, 29, 183, 184, 115, 185, 186, 187, 188, 64, 189, 71, 73, 33, 34, 35, 36, 37, 190, 191, 192, 193, 194, 195, 80, 126, 127, 128, 129, 196, 197, 198, 199, 112, 113, 114, 116, 117, 200, 201, 202, 203, 204, 205, 123, 124, 125, 130, 131, 132, 133, 134, 135, 136, 137, 138, 139, 140, 141, 142, 143, 144, 206, 207, 208, 209, 210, 211, 54, 212, 213, 214, 215, 216, 217, 218, 219, 220, 221, 222, 223, 224, 225, 226, 227, 228, 229, 230, 231, 232, 233, 234, 235, 236, 237, 238, 239, 240, 241, 242, 243, 244, 245, 246, 247, 248, 249, 250, 251, 252, 253, 254, 255, 256, 257, 61, 62, 63, 65, 66, 67, 68, 69, 70, 72, 74, 39, 40, 41, 42, 43, 44, 45, 46, 47, 48, 49, 50, 51, 52, 53, 75, 76, 77, 79, 81, 82, 83, 84, 85, 86, 87, 258, 259, 260, 261, 262, 30, 263, 264, 58, 265, 266, 267, 268, 269, 270, 271, 272, 273, 274, 275, 276, 277, 278, 279, 280, 281, 282, 283, 32, 284, 285, 286, 287, 288, 289, 290, 291, 292, 293, 1, 294, 295, 296, 297, 298, 299, 300, 301, 302, 303, 304, 305, 306, 153, 60, 307, 102, 308, 309, 310, 311, 312, 313, 314, 315, 316, 317, 318, 319, 320, 321, 322, 323, 324, 325, 326, 327, 328, 329, 330, 331, 332, 333, 334, 335, 336, 337, 338, 339, 340, 341, 342, 343, 344, 24, 25, 26, 27, 31, 38, 98, 99, 100, 101, 345, 346, 347, 348, 349, 350, 351, 352, 353, 354, 355, 356, 357, 358, 359, 360, 361, 362, 363, 364, 365, 366, 367, 368, 369, 370, 371, 372, 373, 374, 375, 376, 377, 378, 379, 380, 381, 382, 383, 384, 385, 386, 387, 388, 389, 390, 391, 392, 393, 394, 395, 396, 397, 398, 399, 400, 401, 402, 403, 404, 405, 406, 407, 408, 409, 410, 411, 412, 413, 414, 415, 416, 417, 418, 419, 420, 421, 422, 423, 424, 425, 426, 427, 428, 429, 430, 431, 432, 433, 434, 435, 436, 437, 438, 439, 440, 441, 442, 443, 444, 445, 446, 447, 448, 449, 450, 451, 452, 453, 454, 455, 456, 457, 458, 459, 460, 461, 462, 463, 464, 465, 466, 467, 468, 469, 470, 471, 472, 473, 474, 475, 598, 599, 600, 601, 602, 603, 604, 605, 606, 607, 616, 617, 618, 619, 620, 615, 608, 609, 610, 621, 622, 611, 612, 613, 614, 623, 624, 625, 626, 627, 628, 629, 630, 631, 632, 633, 634, 635] (by decide +kernel) (by decide +kernel)) (goodIn_sub (fun _ h => List.mem_cons_of_mem _ (List.mem_append_left _ (List.mem_append_left _ (List.mem_append_right _ h)))) (by decide +kernel))) (goodIn_sub (fun _ h => List.mem_cons_of_mem _ (List.mem_append_left _ (List.mem_append_right _ h))) (by decide +kernel))) (goodIn_sub (fun _ h => List.mem_cons_of_mem _ (List.mem_append_left _ (List.mem_append_left _ (List.mem_append_left _ (List.mem_append_right _ h))))) (by decide +kernel))) (goodIn_sub (fun _ h => List.mem_cons_of_mem _ (List.mem_append_right _ h)) (by decide +kernel))
set_option maxRecDepth 20000 in
theorem gL_isWalk_L_does : GoodIn wsL_isWalk (va_wsS RL 110 yL_does wsL_does) := goodIn_app (goodIn_of _ (by decide +kernel)) ggL_isWalk_L_does
set_option maxRecDepth 20000 in
theorem ggL_isWalk_X8_cipherAt : GoodIn wsL_isWalk wsX8_cipherAt := goodIn_ca (goodIn_ca (goodIn_r _ [364, 343, 344, 24, 25, 26, 6, 27, 28, 29, 30, 31, 32, 33, 34, 35, 36, 37, 38, 39, 40, 41, 42, 43, 44, 45, 46, 47, 48, 49, 50, 51, 52, 53, 54, 98, 99, 100, 58, 101, 102, 345, 346, 347, 348, 307, 349, 279, 280, 281, 282, 283, 350, 351, 352, 353, 354, 355, 356, 357, 358, 359, 296, 297, 298, 294, 360, 337, 338, 365, 366, 367, 368, 369, 598, 599, 600, 601, 602, 603, 604, 605, 606, 607, 608, 609, 610, 611, 612, 613, 614, 623, 624] (by decide +kernel) (by decide +kernel)) (goodIn_sub (fun _ h => List.mem_cons_of_mem _ (List.mem_append_right _ h)) (by decide +kernel))) (goodIn_sub (fun _ h => List.mem_cons_of_mem _ (List.mem_append_left _ (List.mem_append_left _ (List.mem_append_left _ (List.mem_append_right _ h))))) (by decide +kernel))
set_option maxRecDepth 20000 in
theorem gL_isWalk_X8_cipherAt : GoodIn wsL_isWalk (wsV RL 54 RX8 yX8_cipherAt wsX8_cipherAt) := goodIn_app (goodIn_of _ (by decide +kernel)) ggL_isWalk_X8_cipherAt
set_option maxRecDepth 20000 in
theorem ggL_isWalk_L_score : GoodIn wsL_isWalk wsL_score := goodIn_r _ [478, 479, 480, 11, 481] (by decide +kernel) (by decide +kernel)
set_option maxRecDepth 20000 in
theorem gL_isWalk_L_score : GoodIn wsL_isWalk (va_wsS RL 114 yL_score wsL_score) := goodIn_app (goodIn_of _ (by decide +kernel)) ggL_isWalk_L_score
set_option maxRecDepth 20000 in
theorem ggL_isWalk_X8_at : GoodIn wsL_isWalk wsX8_at := goodIn_ca (goodIn_r _ [485, 403, 404, 405, 6, 406, 28, 29, 374, 407, 32, 33, 34, 35, 36, 37, 38, 39, 40, 41, 42, 43, 44, 45, 46, 47, 48, 49, 50, 51, 52, 53, 54, 416, 417, 418, 377, 419, 390, 598, 599, 600, 601, 602, 603, 604, 605, 606, 607, 608, 609, 610, 625, 626, 627, 628, 629, 630, 631, 632, 633] (by decide +kernel) (by decide +kernel)) (goodIn_sub (fun _ h => List.mem_cons_of_mem _ (List.mem_append_left _ (List.mem_append_left _ (List.mem_append_left _ (List.mem_append_right _ h))))) (by decide +kernel))
set_option maxRecDepth 20000 in
theorem gL_isWalk_X8_at : GoodIn wsL_isWalk (wsV RL 118 RX8 yX8_at wsX8_at) := goodIn_app (goodIn_of _ (by decide +kernel)) ggL_isWalk_X8_at
set_option maxRecDepth 20000 in
theorem ggL_isWalk_X8_rests : GoodIn wsL_isWalk wsX8_rests := goodIn_ca (goodIn_r _ [489, 403, 404, 405, 6, 406, 28, 29, 374, 407, 32, 33, 34, 35, 36, 37, 38, 39, 40, 41, 42, 43, 44, 45, 46, 47, 48, 49, 50, 51, 52, 53, 54, 408, 409, 410, 377, 411, 385, 412, 413, 414, 415, 386, 598, 599, 600, 601, 602, 603, 604, 605, 606, 607, 608, 609, 610, 625, 626, 627, 628, 629, 630, 631, 632, 633] (by decide +kernel) (by decide +kernel)) (goodIn_sub (fun _ h => List.mem_cons_of_mem _ (List.mem_append_left _ (List.mem_append_left _ (List.mem_append_left _ (List.mem_append_right _ h))))) (by decide +kernel))
set_option maxRecDepth 20000 in
theorem gL_isWalk_X8_rests : GoodIn wsL_isWalk (wsV RL 121 RX8 yX8_rests wsX8_rests) := goodIn_app (goodIn_of _ (by decide +kernel)) ggL_isWalk_X8_rests
set_option maxRecDepth 20000 in
theorem ggL_isWalk_X8_solved : GoodIn wsL_isWalk wsX8_solved := goodIn_ca (goodIn_r _ [493, 403, 404, 405, 6, 406, 28, 29, 374, 407, 32, 33, 34, 35, 36, 37, 38, 39, 40, 41, 42, 43, 44, 45, 46, 47, 48, 49, 50, 51, 52, 53, 54, 420, 421, 422, 377, 423, 388, 598, 599, 600, 601, 602, 603, 604, 605, 606, 607, 608, 609, 610, 625, 626, 627, 628, 629, 630, 631, 632, 633] (by decide +kernel) (by decide +kernel)) (goodIn_sub (fun _ h => List.mem_cons_of_mem _ (List.mem_append_left _ (List.mem_append_left _ (List.mem_append_left _ (List.mem_append_right _ h))))) (by decide +kernel))
set_option maxRecDepth 20000 in
theorem gL_isWalk_X8_solved : GoodIn wsL_isWalk (wsV RL 125 RX8 yX8_solved wsX8_solved) := goodIn_app (goodIn_of _ (by decide +kernel)) ggL_isWalk_X8_solved
set_option maxRecDepth 20000 in
theorem ggL_isWalk_X8_score : GoodIn wsL_isWalk wsX8_score := goodIn_ca (goodIn_r _ [497, 403, 404, 405, 6, 406, 28, 29, 374, 407, 32, 33, 34, 35, 36, 37, 38, 39, 40, 41, 42, 43, 44, 45, 46, 47, 48, 49, 50, 51, 52, 53, 54, 498, 499, 500, 377, 501, 389, 598, 599, 600, 601, 602, 603, 604, 605, 606, 607, 608, 609, 610, 625, 626, 627, 628, 629, 630, 631, 632, 633] (by decide +kernel) (by decide +kernel)) (goodIn_sub (fun _ h => List.mem_cons_of_mem _ (List.mem_append_left _ (List.mem_append_left _ (List.mem_append_left _ (List.mem_append_right _ h))))) (by decide +kernel))
set_option maxRecDepth 20000 in
theorem gL_isWalk_X8_score : GoodIn wsL_isWalk (wsV RL 128 RX8 yX8_score wsX8_score) := goodIn_app (goodIn_of _ (by decide +kernel)) ggL_isWalk_X8_score
set_option maxRecDepth 20000 in
theorem ggL_isWalk_X8_scoreAnew : GoodIn wsL_isWalk wsX8_scoreAnew := goodIn_ca (goodIn_r _ [505, 402, 403, 404, 405, 6, 406, 28, 29, 374, 407, 32, 33, 34, 35, 36, 37, 38, 39, 40, 41, 42, 43, 44, 45, 46, 47, 48, 49, 50, 51, 52, 53, 54, 506, 507, 508, 454, 509, 510, 511, 512, 513, 456, 457, 458, 459, 460, 444, 445, 446, 226, 141, 227, 598, 599, 600, 601, 602, 603, 604, 605, 606, 607, 608, 609, 610, 634, 635] (by decide +kernel) (by decide +kernel)) (goodIn_sub (fun _ h => List.mem_cons_of_mem _ (List.mem_append_left _ (List.mem_append_left _ (List.mem_append_left _ (List.mem_append_right _ h))))) (by decide +kernel))
set_option maxRecDepth 20000 in
theorem gL_isWalk_X8_scoreAnew : GoodIn wsL_isWalk (wsV RL 130 RX8 yX8_scoreAnew wsX8_scoreAnew) := goodIn_app (goodIn_of _ (by decide +kernel)) ggL_isWalk_X8_scoreAnew
set_option maxRecDepth 20000 in
theorem ggL_isWalk_X8_walkerAt : GoodIn wsL_isWalk wsX8_walkerAt := goodIn_r _ [517, 374, 407, 32, 33, 34, 35, 36, 37, 38, 39, 40, 41, 42, 43, 44, 45, 46, 47, 48, 49, 50, 51, 52, 53, 54, 498, 499, 500, 377, 501, 389, 518, 519, 520, 6, 521, 598, 599, 600, 601, 602, 603, 604, 605, 606, 607, 608, 609, 610, 625, 626, 627, 628, 629, 630, 631, 632, 633] (by decide +kernel) (by decide +kernel)
set_option maxRecDepth 20000 in
theorem gL_isWalk_X8_walkerAt : GoodIn wsL_isWalk (wsV RL 133 RX8 yX8_walkerAt wsX8_walkerAt) := goodIn_app (goodIn_of _ (by decide +kernel)) ggL_isWalk_X8_walkerAt
set_option maxRecDepth 20000 in
theorem ggL_isWalk_L_far : GoodIn wsL_isWalk wsL_far := goodIn_r _ [19] (by decide +kernel) (by decide +kernel)
set_option maxRecDepth 20000 in
theorem gL_isWalk_L_far : GoodIn wsL_isWalk (va_wsS RL 7 yL_far wsL_far) := goodIn_app (goodIn_of _ (by decide +kernel)) ggL_isWalk_L_far
set_option maxRecDepth 20000 in
theorem ggL_isWalk_X8_sees : GoodIn wsL_isWalk wsX8_sees := goodIn_ca (goodIn_r _ [525, 28, 29, 396, 397, 374, 407, 32, 33, 34, 35, 36, 37, 38, 39, 40, 41, 42, 43, 44, 45, 46, 47, 48, 49, 50, 51, 52, 53, 54, 416, 417, 418, 377, 419, 390, 469, 137, 115, 138, 139, 140, 141, 142, 143, 131, 132, 144, 134, 135, 598, 599, 600, 601, 602, 603, 604, 605, 606, 607, 608, 609, 610, 625, 626, 627, 628, 629, 630, 631, 632, 633] (by decide +kernel) (by decide +kernel)) (goodIn_sub (fun _ h => List.mem_cons_of_mem _ (List.mem_append_left _ (List.mem_append_left _ (List.mem_append_left _ (List.mem_append_right _ h))))) (by decide +kernel))
set_option maxRecDepth 20000 in
theorem gL_isWalk_X8_sees : GoodIn wsL_isWalk (wsV RL 136 RX8 yX8_sees wsX8_sees) := goodIn_app (goodIn_of _ (by decide +kernel)) ggL_isWalk_X8_sees
set_option maxRecDepth 20000 in
theorem ggL_isWalk_L_lays : GoodIn wsL_isWalk wsL_lays := goodIn_r _ [528, 1, 2, 17, 18, 11, 19] (by decide +kernel) (by decide +kernel)
set_option maxRecDepth 20000 in
theorem gL_isWalk_L_lays : GoodIn wsL_isWalk (va_wsS RL 20 yL_lays wsL_lays) := goodIn_app (goodIn_of _ (by decide +kernel)) ggL_isWalk_L_lays
set_option maxRecDepth 20000 in
theorem ggL_isWalk_X8_way : GoodIn wsL_isWalk wsX8_way := goodIn_ca (goodIn_r _ [532, 533, 107, 180, 181, 6, 182, 28, 29, 183, 184, 115, 185, 534, 535, 536, 537, 538, 539, 540, 541, 542, 543, 544, 545, 546, 547, 548, 549, 550, 551, 552, 553, 554, 555, 556, 557, 558, 559, 560, 561, 252, 141, 253, 562, 563, 564, 143, 131, 132, 144, 134, 135, 565, 566, 567, 568, 569, 570, 571, 572, 139, 140, 142, 573, 113, 114, 116, 117, 574, 575, 576, 577, 578, 579, 580, 581, 598, 599, 600, 601, 602, 603, 604, 605, 606, 607, 636, 637, 621, 622] (by decide +kernel) (by decide +kernel)) (goodIn_sub (fun _ h => List.mem_cons_of_mem _ (List.mem_append_left _ (List.mem_append_left _ (List.mem_append_left _ (List.mem_append_right _ h))))) (by decide +kernel))
set_option maxRecDepth 20000 in
theorem gL_isWalk_X8_way : GoodIn wsL_isWalk (wsV RL 139 RX8 yX8_way wsX8_way) := goodIn_app (goodIn_of _ (by decide +kernel)) ggL_isWalk_X8_way
set_option maxRecDepth 20000 in
theorem ggL_isWalk_X8_wayByRounds : GoodIn wsL_isWalk wsX8_wayByRounds := goodIn_ca (goodIn_r _ [585, 533, 107, 180, 181, 6, 182, 28, 29, 183, 184, 115, 185, 586, 587, 588, 537, 589, 540, 541, 542, 543, 544, 545, 539, 590, 591, 592, 593, 594, 595, 596, 597, 562, 563, 564, 143, 131, 132, 144, 134, 135, 565, 566, 567, 568, 561, 252, 141, 253, 551, 552, 553, 554, 555, 556, 569, 570, 571, 572, 139, 140, 142, 573, 113, 114, 116, 117, 574, 575, 576, 577, 550, 578, 579, 580, 581, 598, 599, 600, 601, 602, 603, 604, 605, 606, 607, 636, 637, 621, 622] (by decide +kernel) (by decide +kernel)) (goodIn_sub (fun _ h => List.mem_cons_of_mem _ (List.mem_append_left _ (List.mem_append_left _ (List.mem_append_left _ (List.mem_append_right _ h))))) (by decide +kernel))
set_option maxRecDepth 20000 in
theorem gL_isWalk_X8_wayByRounds : GoodIn wsL_isWalk (wsV RL 142 RX8 yX8_wayByRounds wsX8_wayByRounds) := goodIn_app (goodIn_of _ (by decide +kernel)) ggL_isWalk_X8_wayByRounds
theorem dL_isWalk_0 : decode cL_isWalk 0 = .ok (.bipush 64, 2) := by decide +kernel
theorem dL_isWalk_2 : decode cL_isWalk 2 = .ok (.newarray .int, 2) := by decide +kernel
theorem dL_isWalk_4 : decode cL_isWalk 4 = .ok (.astore 14, 2) := by decide +kernel
theorem dL_isWalk_6 : decode cL_isWalk 6 = .ok (.aload_n 0, 1) := by decide +kernel
theorem dL_isWalk_7 : decode cL_isWalk 7 = .ok (.invokevirtual 80, 3) := by decide +kernel
theorem dL_isWalk_10 : decode cL_isWalk 10 = .ok (.aload_n 1, 1) := by decide +kernel
theorem dL_isWalk_11 : decode cL_isWalk 11 = .ok (.iconst 3, 1) := by decide +kernel
theorem dL_isWalk_12 : decode cL_isWalk 12 = .ok (.iaload, 1) := by decide +kernel
theorem dL_isWalk_13 : decode cL_isWalk 13 = .ok (.if_icmp .ne 7, 3) := by decide +kernel
theorem dL_isWalk_16 : decode cL_isWalk 16 = .ok (.iconst 1, 1) := by decide +kernel
theorem dL_isWalk_17 : decode cL_isWalk 17 = .ok (.goto 4, 3) := by decide +kernel
theorem dL_isWalk_20 : decode cL_isWalk 20 = .ok (.iconst 0, 1) := by decide +kernel
theorem dL_isWalk_21 : decode cL_isWalk 21 = .ok (.istore 15, 2) := by decide +kernel
theorem dL_isWalk_23 : decode cL_isWalk 23 = .ok (.iconst 0, 1) := by decide +kernel
theorem dL_isWalk_24 : decode cL_isWalk 24 = .ok (.istore 16, 2) := by decide +kernel
theorem dL_isWalk_26 : decode cL_isWalk 26 = .ok (.iload 16, 2) := by decide +kernel
theorem dL_isWalk_28 : decode cL_isWalk 28 = .ok (.aload_n 1, 1) := by decide +kernel
theorem dL_isWalk_29 : decode cL_isWalk 29 = .ok (.iconst 0, 1) := by decide +kernel
theorem dL_isWalk_30 : decode cL_isWalk 30 = .ok (.iaload, 1) := by decide +kernel
theorem dL_isWalk_31 : decode cL_isWalk 31 = .ok (.if_icmp .ge 230, 3) := by decide +kernel
theorem dL_isWalk_34 : decode cL_isWalk 34 = .ok (.iload 15, 2) := by decide +kernel
theorem dL_isWalk_36 : decode cL_isWalk 36 = .ok (.ifCond .eq 225, 3) := by decide +kernel
theorem dL_isWalk_39 : decode cL_isWalk 39 = .ok (.aload_n 2, 1) := by decide +kernel
theorem dL_isWalk_40 : decode cL_isWalk 40 = .ok (.aload 4, 2) := by decide +kernel
theorem dL_isWalk_42 : decode cL_isWalk 42 = .ok (.aload 5, 2) := by decide +kernel
theorem dL_isWalk_44 : decode cL_isWalk 44 = .ok (.iload 16, 2) := by decide +kernel
theorem dL_isWalk_46 : decode cL_isWalk 46 = .ok (.iconst 1, 1) := by decide +kernel
theorem dL_isWalk_47 : decode cL_isWalk 47 = .ok (.iadd, 1) := by decide +kernel
theorem dL_isWalk_48 : decode cL_isWalk 48 = .ok (.iconst (-1), 1) := by decide +kernel
theorem dL_isWalk_49 : decode cL_isWalk 49 = .ok (.invokestatic 83, 3) := by decide +kernel
theorem dL_isWalk_52 : decode cL_isWalk 52 = .ok (.lstore 17, 2) := by decide +kernel
theorem dL_isWalk_54 : decode cL_isWalk 54 = .ok (.aload 6, 2) := by decide +kernel
theorem dL_isWalk_56 : decode cL_isWalk 56 = .ok (.iconst 2, 1) := by decide +kernel
theorem dL_isWalk_57 : decode cL_isWalk 57 = .ok (.iload 16, 2) := by decide +kernel
theorem dL_isWalk_59 : decode cL_isWalk 59 = .ok (.imul, 1) := by decide +kernel
theorem dL_isWalk_60 : decode cL_isWalk 60 = .ok (.iaload, 1) := by decide +kernel
theorem dL_isWalk_61 : decode cL_isWalk 61 = .ok (.istore 19, 2) := by decide +kernel
theorem dL_isWalk_63 : decode cL_isWalk 63 = .ok (.aload_n 0, 1) := by decide +kernel
theorem dL_isWalk_64 : decode cL_isWalk 64 = .ok (.iload 16, 2) := by decide +kernel
theorem dL_isWalk_66 : decode cL_isWalk 66 = .ok (.invokevirtual 87, 3) := by decide +kernel
theorem dL_isWalk_69 : decode cL_isWalk 69 = .ok (.lload 17, 2) := by decide +kernel
theorem dL_isWalk_71 : decode cL_isWalk 71 = .ok (.invokestatic 90, 3) := by decide +kernel
theorem dL_isWalk_74 : decode cL_isWalk 74 = .ok (.if_icmp .ne 57, 3) := by decide +kernel
theorem dL_isWalk_77 : decode cL_isWalk 77 = .ok (.lload 17, 2) := by decide +kernel
theorem dL_isWalk_79 : decode cL_isWalk 79 = .ok (.invokestatic 94, 3) := by decide +kernel
theorem dL_isWalk_82 : decode cL_isWalk 82 = .ok (.iload 19, 2) := by decide +kernel
theorem dL_isWalk_84 : decode cL_isWalk 84 = .ok (.if_icmp .ne 47, 3) := by decide +kernel
theorem dL_isWalk_87 : decode cL_isWalk 87 = .ok (.aload_n 0, 1) := by decide +kernel
theorem dL_isWalk_88 : decode cL_isWalk 88 = .ok (.iload 16, 2) := by decide +kernel
theorem dL_isWalk_90 : decode cL_isWalk 90 = .ok (.invokevirtual 97, 3) := by decide +kernel
theorem dL_isWalk_93 : decode cL_isWalk 93 = .ok (.iload 19, 2) := by decide +kernel
theorem dL_isWalk_95 : decode cL_isWalk 95 = .ok (.if_icmp .ne 36, 3) := by decide +kernel
theorem dL_isWalk_98 : decode cL_isWalk 98 = .ok (.aload_n 0, 1) := by decide +kernel
theorem dL_isWalk_99 : decode cL_isWalk 99 = .ok (.iload 16, 2) := by decide +kernel
theorem dL_isWalk_101 : decode cL_isWalk 101 = .ok (.invokevirtual 100, 3) := by decide +kernel
theorem dL_isWalk_104 : decode cL_isWalk 104 = .ok (.iload 19, 2) := by decide +kernel
theorem dL_isWalk_106 : decode cL_isWalk 106 = .ok (.if_icmp .ne 25, 3) := by decide +kernel
theorem dL_isWalk_109 : decode cL_isWalk 109 = .ok (.aload_n 0, 1) := by decide +kernel
theorem dL_isWalk_110 : decode cL_isWalk 110 = .ok (.iload 16, 2) := by decide +kernel
theorem dL_isWalk_112 : decode cL_isWalk 112 = .ok (.invokevirtual 103, 3) := by decide +kernel
theorem dL_isWalk_115 : decode cL_isWalk 115 = .ok (.aload 6, 2) := by decide +kernel
theorem dL_isWalk_117 : decode cL_isWalk 117 = .ok (.iconst 2, 1) := by decide +kernel
theorem dL_isWalk_118 : decode cL_isWalk 118 = .ok (.iload 16, 2) := by decide +kernel
theorem dL_isWalk_120 : decode cL_isWalk 120 = .ok (.imul, 1) := by decide +kernel
theorem dL_isWalk_121 : decode cL_isWalk 121 = .ok (.iconst 1, 1) := by decide +kernel
theorem dL_isWalk_122 : decode cL_isWalk 122 = .ok (.iadd, 1) := by decide +kernel
theorem dL_isWalk_123 : decode cL_isWalk 123 = .ok (.iaload, 1) := by decide +kernel
theorem dL_isWalk_124 : decode cL_isWalk 124 = .ok (.if_icmp .ne 7, 3) := by decide +kernel
theorem dL_isWalk_127 : decode cL_isWalk 127 = .ok (.iconst 1, 1) := by decide +kernel
theorem dL_isWalk_128 : decode cL_isWalk 128 = .ok (.goto 4, 3) := by decide +kernel
theorem dL_isWalk_131 : decode cL_isWalk 131 = .ok (.iconst 0, 1) := by decide +kernel
theorem dL_isWalk_132 : decode cL_isWalk 132 = .ok (.istore 15, 2) := by decide +kernel
theorem dL_isWalk_134 : decode cL_isWalk 134 = .ok (.iload 19, 2) := by decide +kernel
theorem dL_isWalk_136 : decode cL_isWalk 136 = .ok (.ifCond .ge 7, 3) := by decide +kernel
theorem dL_isWalk_139 : decode cL_isWalk 139 = .ok (.iconst 0, 1) := by decide +kernel
theorem dL_isWalk_140 : decode cL_isWalk 140 = .ok (.goto 17, 3) := by decide +kernel
theorem dL_isWalk_143 : decode cL_isWalk 143 = .ok (.aload 7, 2) := by decide +kernel
theorem dL_isWalk_145 : decode cL_isWalk 145 = .ok (.iload 16, 2) := by decide +kernel
theorem dL_isWalk_147 : decode cL_isWalk 147 = .ok (.iconst 1, 1) := by decide +kernel
theorem dL_isWalk_148 : decode cL_isWalk 148 = .ok (.iadd, 1) := by decide +kernel
theorem dL_isWalk_149 : decode cL_isWalk 149 = .ok (.iaload, 1) := by decide +kernel
theorem dL_isWalk_150 : decode cL_isWalk 150 = .ok (.iload 19, 2) := by decide +kernel
theorem dL_isWalk_152 : decode cL_isWalk 152 = .ok (.aload 14, 2) := by decide +kernel
theorem dL_isWalk_154 : decode cL_isWalk 154 = .ok (.invokestatic 106, 3) := by decide +kernel
theorem dL_isWalk_157 : decode cL_isWalk 157 = .ok (.istore 20, 2) := by decide +kernel
theorem dL_isWalk_159 : decode cL_isWalk 159 = .ok (.iload 15, 2) := by decide +kernel
theorem dL_isWalk_161 : decode cL_isWalk 161 = .ok (.ifCond .eq 46, 3) := by decide +kernel
theorem dL_isWalk_164 : decode cL_isWalk 164 = .ok (.aload_n 0, 1) := by decide +kernel
theorem dL_isWalk_165 : decode cL_isWalk 165 = .ok (.iconst 3, 1) := by decide +kernel
theorem dL_isWalk_166 : decode cL_isWalk 166 = .ok (.iload 16, 2) := by decide +kernel
theorem dL_isWalk_168 : decode cL_isWalk 168 = .ok (.iconst 0, 1) := by decide +kernel
theorem dL_isWalk_169 : decode cL_isWalk 169 = .ok (.iconst 0, 1) := by decide +kernel
theorem dL_isWalk_170 : decode cL_isWalk 170 = .ok (.invokestatic 110, 3) := by decide +kernel
theorem dL_isWalk_173 : decode cL_isWalk 173 = .ok (.iload 19, 2) := by decide +kernel
theorem dL_isWalk_175 : decode cL_isWalk 175 = .ok (.ifCond .ge 8, 3) := by decide +kernel
theorem dL_isWalk_178 : decode cL_isWalk 178 = .ok (.bipush (-14), 2) := by decide +kernel
theorem dL_isWalk_180 : decode cL_isWalk 180 = .ok (.goto 5, 3) := by decide +kernel
theorem dL_isWalk_183 : decode cL_isWalk 183 = .ok (.iload 20, 2) := by decide +kernel
theorem dL_isWalk_185 : decode cL_isWalk 185 = .ok (.if_icmp .ne 22, 3) := by decide +kernel
theorem dL_isWalk_188 : decode cL_isWalk 188 = .ok (.aload_n 0, 1) := by decide +kernel
theorem dL_isWalk_189 : decode cL_isWalk 189 = .ok (.iconst 4, 1) := by decide +kernel
theorem dL_isWalk_190 : decode cL_isWalk 190 = .ok (.iload 16, 2) := by decide +kernel
theorem dL_isWalk_192 : decode cL_isWalk 192 = .ok (.iload 20, 2) := by decide +kernel
theorem dL_isWalk_194 : decode cL_isWalk 194 = .ok (.iconst 0, 1) := by decide +kernel
theorem dL_isWalk_195 : decode cL_isWalk 195 = .ok (.invokestatic 110, 3) := by decide +kernel
theorem dL_isWalk_198 : decode cL_isWalk 198 = .ok (.bipush (-14), 2) := by decide +kernel
theorem dL_isWalk_200 : decode cL_isWalk 200 = .ok (.if_icmp .ne 7, 3) := by decide +kernel
theorem dL_isWalk_203 : decode cL_isWalk 203 = .ok (.iconst 1, 1) := by decide +kernel
theorem dL_isWalk_204 : decode cL_isWalk 204 = .ok (.goto 4, 3) := by decide +kernel
theorem dL_isWalk_207 : decode cL_isWalk 207 = .ok (.iconst 0, 1) := by decide +kernel
theorem dL_isWalk_208 : decode cL_isWalk 208 = .ok (.istore 15, 2) := by decide +kernel
theorem dL_isWalk_210 : decode cL_isWalk 210 = .ok (.iconst 0, 1) := by decide +kernel
theorem dL_isWalk_211 : decode cL_isWalk 211 = .ok (.istore 21, 2) := by decide +kernel
theorem dL_isWalk_213 : decode cL_isWalk 213 = .ok (.iload 21, 2) := by decide +kernel
theorem dL_isWalk_215 : decode cL_isWalk 215 = .ok (.iload 20, 2) := by decide +kernel
theorem dL_isWalk_217 : decode cL_isWalk 217 = .ok (.if_icmp .ge 38, 3) := by decide +kernel
theorem dL_isWalk_220 : decode cL_isWalk 220 = .ok (.iload 15, 2) := by decide +kernel
theorem dL_isWalk_222 : decode cL_isWalk 222 = .ok (.ifCond .eq 33, 3) := by decide +kernel
theorem dL_isWalk_225 : decode cL_isWalk 225 = .ok (.aload_n 0, 1) := by decide +kernel
theorem dL_isWalk_226 : decode cL_isWalk 226 = .ok (.iload 16, 2) := by decide +kernel
theorem dL_isWalk_228 : decode cL_isWalk 228 = .ok (.iload 21, 2) := by decide +kernel
theorem dL_isWalk_230 : decode cL_isWalk 230 = .ok (.invokevirtual 54, 3) := by decide +kernel
theorem dL_isWalk_233 : decode cL_isWalk 233 = .ok (.aload 14, 2) := by decide +kernel
theorem dL_isWalk_235 : decode cL_isWalk 235 = .ok (.iload 21, 2) := by decide +kernel
theorem dL_isWalk_237 : decode cL_isWalk 237 = .ok (.iaload, 1) := by decide +kernel
theorem dL_isWalk_238 : decode cL_isWalk 238 = .ok (.i2c, 1) := by decide +kernel
theorem dL_isWalk_239 : decode cL_isWalk 239 = .ok (.if_icmp .ne 7, 3) := by decide +kernel
theorem dL_isWalk_242 : decode cL_isWalk 242 = .ok (.iconst 1, 1) := by decide +kernel
theorem dL_isWalk_243 : decode cL_isWalk 243 = .ok (.goto 4, 3) := by decide +kernel
theorem dL_isWalk_246 : decode cL_isWalk 246 = .ok (.iconst 0, 1) := by decide +kernel
theorem dL_isWalk_247 : decode cL_isWalk 247 = .ok (.istore 15, 2) := by decide +kernel
theorem dL_isWalk_249 : decode cL_isWalk 249 = .ok (.iinc 21 1, 3) := by decide +kernel
theorem dL_isWalk_252 : decode cL_isWalk 252 = .ok (.goto (-39), 3) := by decide +kernel
theorem dL_isWalk_255 : decode cL_isWalk 255 = .ok (.iinc 16 1, 3) := by decide +kernel
theorem dL_isWalk_258 : decode cL_isWalk 258 = .ok (.goto (-232), 3) := by decide +kernel
theorem dL_isWalk_261 : decode cL_isWalk 261 = .ok (.iconst 0, 1) := by decide +kernel
theorem dL_isWalk_262 : decode cL_isWalk 262 = .ok (.istore 16, 2) := by decide +kernel
theorem dL_isWalk_264 : decode cL_isWalk 264 = .ok (.iload 16, 2) := by decide +kernel
theorem dL_isWalk_266 : decode cL_isWalk 266 = .ok (.aload_n 1, 1) := by decide +kernel
theorem dL_isWalk_267 : decode cL_isWalk 267 = .ok (.iconst 1, 1) := by decide +kernel
theorem dL_isWalk_268 : decode cL_isWalk 268 = .ok (.iaload, 1) := by decide +kernel
theorem dL_isWalk_269 : decode cL_isWalk 269 = .ok (.if_icmp .ge 218, 3) := by decide +kernel
theorem dL_isWalk_272 : decode cL_isWalk 272 = .ok (.iload 15, 2) := by decide +kernel
theorem dL_isWalk_274 : decode cL_isWalk 274 = .ok (.ifCond .eq 213, 3) := by decide +kernel
theorem dL_isWalk_277 : decode cL_isWalk 277 = .ok (.iconst 0, 1) := by decide +kernel
theorem dL_isWalk_278 : decode cL_isWalk 278 = .ok (.istore 17, 2) := by decide +kernel
theorem dL_isWalk_280 : decode cL_isWalk 280 = .ok (.iconst 0, 1) := by decide +kernel
theorem dL_isWalk_281 : decode cL_isWalk 281 = .ok (.istore 18, 2) := by decide +kernel
theorem dL_isWalk_283 : decode cL_isWalk 283 = .ok (.iload 18, 2) := by decide +kernel
theorem dL_isWalk_285 : decode cL_isWalk 285 = .ok (.aload_n 1, 1) := by decide +kernel
theorem dL_isWalk_286 : decode cL_isWalk 286 = .ok (.iconst 1, 1) := by decide +kernel
theorem dL_isWalk_287 : decode cL_isWalk 287 = .ok (.iaload, 1) := by decide +kernel
theorem dL_isWalk_288 : decode cL_isWalk 288 = .ok (.if_icmp .ge 61, 3) := by decide +kernel
theorem dL_isWalk_291 : decode cL_isWalk 291 = .ok (.aload 9, 2) := by decide +kernel
theorem dL_isWalk_293 : decode cL_isWalk 293 = .ok (.aload 10, 2) := by decide +kernel
theorem dL_isWalk_295 : decode cL_isWalk 295 = .ok (.aload 11, 2) := by decide +kernel
theorem dL_isWalk_297 : decode cL_isWalk 297 = .ok (.iload 18, 2) := by decide +kernel
theorem dL_isWalk_299 : decode cL_isWalk 299 = .ok (.invokestatic 114, 3) := by decide +kernel
theorem dL_isWalk_302 : decode cL_isWalk 302 = .ok (.aload 9, 2) := by decide +kernel
theorem dL_isWalk_304 : decode cL_isWalk 304 = .ok (.aload 10, 2) := by decide +kernel
theorem dL_isWalk_306 : decode cL_isWalk 306 = .ok (.aload 11, 2) := by decide +kernel
theorem dL_isWalk_308 : decode cL_isWalk 308 = .ok (.iload 16, 2) := by decide +kernel
theorem dL_isWalk_310 : decode cL_isWalk 310 = .ok (.invokestatic 114, 3) := by decide +kernel
theorem dL_isWalk_313 : decode cL_isWalk 313 = .ok (.isub, 1) := by decide +kernel
theorem dL_isWalk_314 : decode cL_isWalk 314 = .ok (.istore 19, 2) := by decide +kernel
theorem dL_isWalk_316 : decode cL_isWalk 316 = .ok (.iload 17, 2) := by decide +kernel
theorem dL_isWalk_318 : decode cL_isWalk 318 = .ok (.iload 19, 2) := by decide +kernel
theorem dL_isWalk_320 : decode cL_isWalk 320 = .ok (.ifCond .gt 15, 3) := by decide +kernel
theorem dL_isWalk_323 : decode cL_isWalk 323 = .ok (.iload 19, 2) := by decide +kernel
theorem dL_isWalk_325 : decode cL_isWalk 325 = .ok (.ifCond .ne 14, 3) := by decide +kernel
theorem dL_isWalk_328 : decode cL_isWalk 328 = .ok (.iload 18, 2) := by decide +kernel
theorem dL_isWalk_330 : decode cL_isWalk 330 = .ok (.iload 16, 2) := by decide +kernel
theorem dL_isWalk_332 : decode cL_isWalk 332 = .ok (.if_icmp .ge 7, 3) := by decide +kernel
theorem dL_isWalk_335 : decode cL_isWalk 335 = .ok (.iconst 1, 1) := by decide +kernel
theorem dL_isWalk_336 : decode cL_isWalk 336 = .ok (.goto 4, 3) := by decide +kernel
theorem dL_isWalk_339 : decode cL_isWalk 339 = .ok (.iconst 0, 1) := by decide +kernel
theorem dL_isWalk_340 : decode cL_isWalk 340 = .ok (.iadd, 1) := by decide +kernel
theorem dL_isWalk_341 : decode cL_isWalk 341 = .ok (.istore 17, 2) := by decide +kernel
theorem dL_isWalk_343 : decode cL_isWalk 343 = .ok (.iinc 18 1, 3) := by decide +kernel
theorem dL_isWalk_346 : decode cL_isWalk 346 = .ok (.goto (-63), 3) := by decide +kernel
theorem dL_isWalk_349 : decode cL_isWalk 349 = .ok (.aload_n 0, 1) := by decide +kernel
theorem dL_isWalk_350 : decode cL_isWalk 350 = .ok (.iload 16, 2) := by decide +kernel
theorem dL_isWalk_352 : decode cL_isWalk 352 = .ok (.invokevirtual 118, 3) := by decide +kernel
theorem dL_isWalk_355 : decode cL_isWalk 355 = .ok (.aload 8, 2) := by decide +kernel
theorem dL_isWalk_357 : decode cL_isWalk 357 = .ok (.iconst 5, 1) := by decide +kernel
theorem dL_isWalk_358 : decode cL_isWalk 358 = .ok (.iload 16, 2) := by decide +kernel
theorem dL_isWalk_360 : decode cL_isWalk 360 = .ok (.imul, 1) := by decide +kernel
theorem dL_isWalk_361 : decode cL_isWalk 361 = .ok (.iconst 1, 1) := by decide +kernel
theorem dL_isWalk_362 : decode cL_isWalk 362 = .ok (.iadd, 1) := by decide +kernel
theorem dL_isWalk_363 : decode cL_isWalk 363 = .ok (.iaload, 1) := by decide +kernel
theorem dL_isWalk_364 : decode cL_isWalk 364 = .ok (.if_icmp .ne 114, 3) := by decide +kernel
theorem dL_isWalk_367 : decode cL_isWalk 367 = .ok (.aload_n 0, 1) := by decide +kernel
theorem dL_isWalk_368 : decode cL_isWalk 368 = .ok (.iload 16, 2) := by decide +kernel
theorem dL_isWalk_370 : decode cL_isWalk 370 = .ok (.invokevirtual 121, 3) := by decide +kernel
theorem dL_isWalk_373 : decode cL_isWalk 373 = .ok (.aload 8, 2) := by decide +kernel
theorem dL_isWalk_375 : decode cL_isWalk 375 = .ok (.iconst 5, 1) := by decide +kernel
theorem dL_isWalk_376 : decode cL_isWalk 376 = .ok (.iload 16, 2) := by decide +kernel
theorem dL_isWalk_378 : decode cL_isWalk 378 = .ok (.imul, 1) := by decide +kernel
theorem dL_isWalk_379 : decode cL_isWalk 379 = .ok (.iconst 2, 1) := by decide +kernel
theorem dL_isWalk_380 : decode cL_isWalk 380 = .ok (.iadd, 1) := by decide +kernel
theorem dL_isWalk_381 : decode cL_isWalk 381 = .ok (.iaload, 1) := by decide +kernel
theorem dL_isWalk_382 : decode cL_isWalk 382 = .ok (.ifCond .ge 19, 3) := by decide +kernel
theorem dL_isWalk_385 : decode cL_isWalk 385 = .ok (.aload 8, 2) := by decide +kernel
theorem dL_isWalk_387 : decode cL_isWalk 387 = .ok (.iconst 5, 1) := by decide +kernel
theorem dL_isWalk_388 : decode cL_isWalk 388 = .ok (.iload 16, 2) := by decide +kernel
theorem dL_isWalk_390 : decode cL_isWalk 390 = .ok (.imul, 1) := by decide +kernel
theorem dL_isWalk_391 : decode cL_isWalk 391 = .ok (.iconst 3, 1) := by decide +kernel
theorem dL_isWalk_392 : decode cL_isWalk 392 = .ok (.iadd, 1) := by decide +kernel
theorem dL_isWalk_393 : decode cL_isWalk 393 = .ok (.iaload, 1) := by decide +kernel
theorem dL_isWalk_394 : decode cL_isWalk 394 = .ok (.ifCond .ge 7, 3) := by decide +kernel
theorem dL_isWalk_397 : decode cL_isWalk 397 = .ok (.iconst 1, 1) := by decide +kernel
theorem dL_isWalk_398 : decode cL_isWalk 398 = .ok (.goto 4, 3) := by decide +kernel
theorem dL_isWalk_401 : decode cL_isWalk 401 = .ok (.iconst 0, 1) := by decide +kernel
theorem dL_isWalk_402 : decode cL_isWalk 402 = .ok (.if_icmp .ne 76, 3) := by decide +kernel
theorem dL_isWalk_405 : decode cL_isWalk 405 = .ok (.aload_n 0, 1) := by decide +kernel
theorem dL_isWalk_406 : decode cL_isWalk 406 = .ok (.iload 16, 2) := by decide +kernel
theorem dL_isWalk_408 : decode cL_isWalk 408 = .ok (.invokevirtual 125, 3) := by decide +kernel
theorem dL_isWalk_411 : decode cL_isWalk 411 = .ok (.aload 9, 2) := by decide +kernel
theorem dL_isWalk_413 : decode cL_isWalk 413 = .ok (.iload 16, 2) := by decide +kernel
theorem dL_isWalk_415 : decode cL_isWalk 415 = .ok (.iaload, 1) := by decide +kernel
theorem dL_isWalk_416 : decode cL_isWalk 416 = .ok (.i2l, 1) := by decide +kernel
theorem dL_isWalk_417 : decode cL_isWalk 417 = .ok (.invokestatic 90, 3) := by decide +kernel
theorem dL_isWalk_420 : decode cL_isWalk 420 = .ok (.if_icmp .ne 58, 3) := by decide +kernel
theorem dL_isWalk_423 : decode cL_isWalk 423 = .ok (.aload_n 0, 1) := by decide +kernel
theorem dL_isWalk_424 : decode cL_isWalk 424 = .ok (.iload 16, 2) := by decide +kernel
theorem dL_isWalk_426 : decode cL_isWalk 426 = .ok (.invokevirtual 128, 3) := by decide +kernel
theorem dL_isWalk_429 : decode cL_isWalk 429 = .ok (.aload 9, 2) := by decide +kernel
theorem dL_isWalk_431 : decode cL_isWalk 431 = .ok (.aload 10, 2) := by decide +kernel
theorem dL_isWalk_433 : decode cL_isWalk 433 = .ok (.aload 11, 2) := by decide +kernel
theorem dL_isWalk_435 : decode cL_isWalk 435 = .ok (.iload 16, 2) := by decide +kernel
theorem dL_isWalk_437 : decode cL_isWalk 437 = .ok (.invokestatic 114, 3) := by decide +kernel
theorem dL_isWalk_440 : decode cL_isWalk 440 = .ok (.if_icmp .ne 38, 3) := by decide +kernel
theorem dL_isWalk_443 : decode cL_isWalk 443 = .ok (.aload_n 0, 1) := by decide +kernel
theorem dL_isWalk_444 : decode cL_isWalk 444 = .ok (.iload 16, 2) := by decide +kernel
theorem dL_isWalk_446 : decode cL_isWalk 446 = .ok (.invokevirtual 130, 3) := by decide +kernel
theorem dL_isWalk_449 : decode cL_isWalk 449 = .ok (.aload 9, 2) := by decide +kernel
theorem dL_isWalk_451 : decode cL_isWalk 451 = .ok (.aload 10, 2) := by decide +kernel
theorem dL_isWalk_453 : decode cL_isWalk 453 = .ok (.aload 11, 2) := by decide +kernel
theorem dL_isWalk_455 : decode cL_isWalk 455 = .ok (.iload 16, 2) := by decide +kernel
theorem dL_isWalk_457 : decode cL_isWalk 457 = .ok (.invokestatic 114, 3) := by decide +kernel
theorem dL_isWalk_460 : decode cL_isWalk 460 = .ok (.if_icmp .ne 18, 3) := by decide +kernel
theorem dL_isWalk_463 : decode cL_isWalk 463 = .ok (.aload_n 0, 1) := by decide +kernel
theorem dL_isWalk_464 : decode cL_isWalk 464 = .ok (.iload 17, 2) := by decide +kernel
theorem dL_isWalk_466 : decode cL_isWalk 466 = .ok (.invokevirtual 133, 3) := by decide +kernel
theorem dL_isWalk_469 : decode cL_isWalk 469 = .ok (.iload 16, 2) := by decide +kernel
theorem dL_isWalk_471 : decode cL_isWalk 471 = .ok (.if_icmp .ne 7, 3) := by decide +kernel
theorem dL_isWalk_474 : decode cL_isWalk 474 = .ok (.iconst 1, 1) := by decide +kernel
theorem dL_isWalk_475 : decode cL_isWalk 475 = .ok (.goto 4, 3) := by decide +kernel
theorem dL_isWalk_478 : decode cL_isWalk 478 = .ok (.iconst 0, 1) := by decide +kernel
theorem dL_isWalk_479 : decode cL_isWalk 479 = .ok (.istore 15, 2) := by decide +kernel
theorem dL_isWalk_481 : decode cL_isWalk 481 = .ok (.iinc 16 1, 3) := by decide +kernel
theorem dL_isWalk_484 : decode cL_isWalk 484 = .ok (.goto (-220), 3) := by decide +kernel
theorem dL_isWalk_487 : decode cL_isWalk 487 = .ok (.iconst 0, 1) := by decide +kernel
theorem dL_isWalk_488 : decode cL_isWalk 488 = .ok (.istore 16, 2) := by decide +kernel
theorem dL_isWalk_490 : decode cL_isWalk 490 = .ok (.iload 16, 2) := by decide +kernel
theorem dL_isWalk_492 : decode cL_isWalk 492 = .ok (.aload_n 1, 1) := by decide +kernel
theorem dL_isWalk_493 : decode cL_isWalk 493 = .ok (.iconst 2, 1) := by decide +kernel
theorem dL_isWalk_494 : decode cL_isWalk 494 = .ok (.iaload, 1) := by decide +kernel
theorem dL_isWalk_495 : decode cL_isWalk 495 = .ok (.if_icmp .ge 86, 3) := by decide +kernel
theorem dL_isWalk_498 : decode cL_isWalk 498 = .ok (.iload 15, 2) := by decide +kernel
theorem dL_isWalk_500 : decode cL_isWalk 500 = .ok (.ifCond .eq 81, 3) := by decide +kernel
theorem dL_isWalk_503 : decode cL_isWalk 503 = .ok (.iconst 0, 1) := by decide +kernel
theorem dL_isWalk_504 : decode cL_isWalk 504 = .ok (.istore 17, 2) := by decide +kernel
theorem dL_isWalk_506 : decode cL_isWalk 506 = .ok (.iconst 0, 1) := by decide +kernel
theorem dL_isWalk_507 : decode cL_isWalk 507 = .ok (.istore 18, 2) := by decide +kernel
theorem dL_isWalk_509 : decode cL_isWalk 509 = .ok (.iload 18, 2) := by decide +kernel
theorem dL_isWalk_511 : decode cL_isWalk 511 = .ok (.aload_n 1, 1) := by decide +kernel
theorem dL_isWalk_512 : decode cL_isWalk 512 = .ok (.iconst 1, 1) := by decide +kernel
theorem dL_isWalk_513 : decode cL_isWalk 513 = .ok (.iaload, 1) := by decide +kernel
theorem dL_isWalk_514 : decode cL_isWalk 514 = .ok (.if_icmp .ge 43, 3) := by decide +kernel
theorem dL_isWalk_517 : decode cL_isWalk 517 = .ok (.iload 17, 2) := by decide +kernel
theorem dL_isWalk_519 : decode cL_isWalk 519 = .ok (.aload 8, 2) := by decide +kernel
theorem dL_isWalk_521 : decode cL_isWalk 521 = .ok (.iconst 5, 1) := by decide +kernel
theorem dL_isWalk_522 : decode cL_isWalk 522 = .ok (.iload 18, 2) := by decide +kernel
theorem dL_isWalk_524 : decode cL_isWalk 524 = .ok (.imul, 1) := by decide +kernel
theorem dL_isWalk_525 : decode cL_isWalk 525 = .ok (.iconst 1, 1) := by decide +kernel
theorem dL_isWalk_526 : decode cL_isWalk 526 = .ok (.iadd, 1) := by decide +kernel
theorem dL_isWalk_527 : decode cL_isWalk 527 = .ok (.iaload, 1) := by decide +kernel
theorem dL_isWalk_528 : decode cL_isWalk 528 = .ok (.aload 12, 2) := by decide +kernel
theorem dL_isWalk_530 : decode cL_isWalk 530 = .ok (.iload 16, 2) := by decide +kernel
theorem dL_isWalk_532 : decode cL_isWalk 532 = .ok (.iaload, 1) := by decide +kernel
theorem dL_isWalk_533 : decode cL_isWalk 533 = .ok (.invokestatic 7, 3) := by decide +kernel
theorem dL_isWalk_536 : decode cL_isWalk 536 = .ok (.iconst 4, 1) := by decide +kernel
theorem dL_isWalk_537 : decode cL_isWalk 537 = .ok (.if_icmp .ge 10, 3) := by decide +kernel
theorem dL_isWalk_540 : decode cL_isWalk 540 = .ok (.iconst 1, 1) := by decide +kernel
theorem dL_isWalk_541 : decode cL_isWalk 541 = .ok (.iload 18, 2) := by decide +kernel
theorem dL_isWalk_543 : decode cL_isWalk 543 = .ok (.ishl, 1) := by decide +kernel
theorem dL_isWalk_544 : decode cL_isWalk 544 = .ok (.goto 4, 3) := by decide +kernel
theorem dL_isWalk_547 : decode cL_isWalk 547 = .ok (.iconst 0, 1) := by decide +kernel
theorem dL_isWalk_548 : decode cL_isWalk 548 = .ok (.ior, 1) := by decide +kernel
theorem dL_isWalk_549 : decode cL_isWalk 549 = .ok (.istore 17, 2) := by decide +kernel
theorem dL_isWalk_551 : decode cL_isWalk 551 = .ok (.iinc 18 1, 3) := by decide +kernel
theorem dL_isWalk_554 : decode cL_isWalk 554 = .ok (.goto (-45), 3) := by decide +kernel
theorem dL_isWalk_557 : decode cL_isWalk 557 = .ok (.aload_n 0, 1) := by decide +kernel
theorem dL_isWalk_558 : decode cL_isWalk 558 = .ok (.iload 16, 2) := by decide +kernel
theorem dL_isWalk_560 : decode cL_isWalk 560 = .ok (.invokevirtual 136, 3) := by decide +kernel
theorem dL_isWalk_563 : decode cL_isWalk 563 = .ok (.iload 17, 2) := by decide +kernel
theorem dL_isWalk_565 : decode cL_isWalk 565 = .ok (.if_icmp .ne 7, 3) := by decide +kernel
theorem dL_isWalk_568 : decode cL_isWalk 568 = .ok (.iconst 1, 1) := by decide +kernel
theorem dL_isWalk_569 : decode cL_isWalk 569 = .ok (.goto 4, 3) := by decide +kernel
theorem dL_isWalk_572 : decode cL_isWalk 572 = .ok (.iconst 0, 1) := by decide +kernel
theorem dL_isWalk_573 : decode cL_isWalk 573 = .ok (.istore 15, 2) := by decide +kernel
theorem dL_isWalk_575 : decode cL_isWalk 575 = .ok (.iinc 16 1, 3) := by decide +kernel
theorem dL_isWalk_578 : decode cL_isWalk 578 = .ok (.goto (-88), 3) := by decide +kernel
theorem dL_isWalk_581 : decode cL_isWalk 581 = .ok (.iload 13, 2) := by decide +kernel
theorem dL_isWalk_583 : decode cL_isWalk 583 = .ok (.bipush 64, 2) := by decide +kernel
theorem dL_isWalk_585 : decode cL_isWalk 585 = .ok (.irem, 1) := by decide +kernel
theorem dL_isWalk_586 : decode cL_isWalk 586 = .ok (.istore 16, 2) := by decide +kernel
theorem dL_isWalk_588 : decode cL_isWalk 588 = .ok (.iload 13, 2) := by decide +kernel
theorem dL_isWalk_590 : decode cL_isWalk 590 = .ok (.bipush 64, 2) := by decide +kernel
theorem dL_isWalk_592 : decode cL_isWalk 592 = .ok (.idiv, 1) := by decide +kernel
theorem dL_isWalk_593 : decode cL_isWalk 593 = .ok (.bipush 64, 2) := by decide +kernel
theorem dL_isWalk_595 : decode cL_isWalk 595 = .ok (.irem, 1) := by decide +kernel
theorem dL_isWalk_596 : decode cL_isWalk 596 = .ok (.istore 17, 2) := by decide +kernel
theorem dL_isWalk_598 : decode cL_isWalk 598 = .ok (.aload_n 2, 1) := by decide +kernel
theorem dL_isWalk_599 : decode cL_isWalk 599 = .ok (.aload_n 3, 1) := by decide +kernel
theorem dL_isWalk_600 : decode cL_isWalk 600 = .ok (.iload 16, 2) := by decide +kernel
theorem dL_isWalk_602 : decode cL_isWalk 602 = .ok (.aload 14, 2) := by decide +kernel
theorem dL_isWalk_604 : decode cL_isWalk 604 = .ok (.invokestatic 20, 3) := by decide +kernel
theorem dL_isWalk_607 : decode cL_isWalk 607 = .ok (.aload 14, 2) := by decide +kernel
theorem dL_isWalk_609 : decode cL_isWalk 609 = .ok (.iload 17, 2) := by decide +kernel
theorem dL_isWalk_611 : decode cL_isWalk 611 = .ok (.iaload, 1) := by decide +kernel
theorem dL_isWalk_612 : decode cL_isWalk 612 = .ok (.ldc 19, 2) := by decide +kernel
theorem dL_isWalk_614 : decode cL_isWalk 614 = .ok (.if_icmp .ne 7, 3) := by decide +kernel
theorem dL_isWalk_617 : decode cL_isWalk 617 = .ok (.iconst (-1), 1) := by decide +kernel
theorem dL_isWalk_618 : decode cL_isWalk 618 = .ok (.goto 8, 3) := by decide +kernel
theorem dL_isWalk_621 : decode cL_isWalk 621 = .ok (.aload 14, 2) := by decide +kernel
theorem dL_isWalk_623 : decode cL_isWalk 623 = .ok (.iload 17, 2) := by decide +kernel
theorem dL_isWalk_625 : decode cL_isWalk 625 = .ok (.iaload, 1) := by decide +kernel
theorem dL_isWalk_626 : decode cL_isWalk 626 = .ok (.istore 18, 2) := by decide +kernel
theorem dL_isWalk_628 : decode cL_isWalk 628 = .ok (.iload 15, 2) := by decide +kernel
theorem dL_isWalk_630 : decode cL_isWalk 630 = .ok (.ifCond .eq 44, 3) := by decide +kernel
theorem dL_isWalk_633 : decode cL_isWalk 633 = .ok (.aload_n 0, 1) := by decide +kernel
theorem dL_isWalk_634 : decode cL_isWalk 634 = .ok (.iload 17, 2) := by decide +kernel
theorem dL_isWalk_636 : decode cL_isWalk 636 = .ok (.iload 16, 2) := by decide +kernel
theorem dL_isWalk_638 : decode cL_isWalk 638 = .ok (.invokevirtual 139, 3) := by decide +kernel
theorem dL_isWalk_641 : decode cL_isWalk 641 = .ok (.iload 18, 2) := by decide +kernel
theorem dL_isWalk_643 : decode cL_isWalk 643 = .ok (.if_icmp .ne 31, 3) := by decide +kernel
theorem dL_isWalk_646 : decode cL_isWalk 646 = .ok (.aload_n 0, 1) := by decide +kernel
theorem dL_isWalk_647 : decode cL_isWalk 647 = .ok (.iload 17, 2) := by decide +kernel
theorem dL_isWalk_649 : decode cL_isWalk 649 = .ok (.iload 16, 2) := by decide +kernel
theorem dL_isWalk_651 : decode cL_isWalk 651 = .ok (.invokevirtual 142, 3) := by decide +kernel
theorem dL_isWalk_654 : decode cL_isWalk 654 = .ok (.iload 18, 2) := by decide +kernel
theorem dL_isWalk_656 : decode cL_isWalk 656 = .ok (.if_icmp .ne 18, 3) := by decide +kernel
theorem dL_isWalk_659 : decode cL_isWalk 659 = .ok (.aload_n 0, 1) := by decide +kernel
theorem dL_isWalk_660 : decode cL_isWalk 660 = .ok (.aload_n 1, 1) := by decide +kernel
theorem dL_isWalk_661 : decode cL_isWalk 661 = .ok (.iconst 1, 1) := by decide +kernel
theorem dL_isWalk_662 : decode cL_isWalk 662 = .ok (.iaload, 1) := by decide +kernel
theorem dL_isWalk_663 : decode cL_isWalk 663 = .ok (.invokevirtual 133, 3) := by decide +kernel
theorem dL_isWalk_666 : decode cL_isWalk 666 = .ok (.iconst (-1), 1) := by decide +kernel
theorem dL_isWalk_667 : decode cL_isWalk 667 = .ok (.if_icmp .ne 7, 3) := by decide +kernel
theorem dL_isWalk_670 : decode cL_isWalk 670 = .ok (.iconst 1, 1) := by decide +kernel
theorem dL_isWalk_671 : decode cL_isWalk 671 = .ok (.goto 4, 3) := by decide +kernel
theorem dL_isWalk_674 : decode cL_isWalk 674 = .ok (.iconst 0, 1) := by decide +kernel
theorem dL_isWalk_675 : decode cL_isWalk 675 = .ok (.ireturn, 1) := by decide +kernel
set_option maxRecDepth 20000 in
theorem ggL_law_X8_init : GoodIn wsL_law wsX8_init := goodIn_r _ [11, 12, 13, 14, 15, 16, 17, 18, 19, 20, 21, 22, 23, 24, 25, 26, 27, 28, 29, 30, 31, 3, 32, 33, 34, 35, 36, 37, 38, 39, 40, 41, 42, 43, 44, 45, 46, 47, 48, 49, 50, 51, 52, 53, 54, 55, 56, 57, 58, 59, 60, 61, 62, 63, 64, 65, 66, 67, 68, 69, 70, 71, 72, 73, 74, 75, 76, 77, 78, 79, 80, 81, 82, 83, 84, 728, 729, 718, 719, 720, 721, 722, 723, 724, 725, 726, 727, 730, 731, 732, 733, 734, 735, 736, 737, 738, 739] (by decide +kernel) (by decide +kernel)
set_option maxRecDepth 20000 in
theorem gL_law_X8_init : GoodIn wsL_law (wsX8_init) := ggL_law_X8_init
set_option maxRecDepth 20000 in
theorem ggL_law_L_all : GoodIn wsL_law wsL_all := goodIn_r _ [95, 96, 97, 98, 87, 99, 100, 101, 102] (by decide +kernel) (by decide +kernel)
set_option maxRecDepth 20000 in
theorem gL_law_L_all : GoodIn wsL_law (va_wsS RL 83 yL_all wsL_all) := goodIn_app (goodIn_of _ (by decide +kernel)) ggL_law_L_all
set_option maxRecDepth 20000 in
theorem ggL_law_L_only : GoodIn wsL_law wsL_only := goodIn_r _ [171] (by decide +kernel) (by decide +kernel)
set_option maxRecDepth 20000 in
theorem gL_law_L_only : GoodIn wsL_law (va_wsS RL 94 yL_only wsL_only) := goodIn_app (goodIn_of _ (by decide +kernel)) ggL_law_L_only
set_option maxRecDepth 20000 in
theorem ggL_law_X8_setHeight : GoodIn wsL_law wsX8_setHeight := goodIn_ca (goodIn_ca (goodIn_r _ [631, 248, 249, 18, 40, 30, 113, 254, 255, 2, 256, 111, 112, 257, 258, 17, 259, 632, 633, 634, 635, 46, 586, 636, 637, 638, 39, 639, 83, 150, 151, 115, 116, 29, 117, 118, 152, 120, 121, 122, 123, 124, 125, 126, 127, 128, 129, 130, 131, 132, 133, 134, 63, 272, 273, 274, 156, 275, 158, 276, 277, 198, 199, 200, 201, 202, 203, 204, 205, 206, 207, 208, 209, 210, 211, 212, 213, 214, 215, 216, 217, 218, 219, 114, 119, 640, 641, 642, 138, 643, 140, 180, 228, 644, 369, 336, 337, 338, 339, 142, 143, 144, 145, 146, 147, 148, 149, 153, 154, 155, 157, 340, 341, 718, 719, 720, 721, 722, 723, 724, 725, 726, 727, 728, 729, 739, 734, 735, 736, 744, 745, 746, 747, 748, 740, 741, 742, 743] (by decide +kernel) (by decide +kernel)) (goodIn_sub (fun _ h => List.mem_append_left _ (List.mem_append_left _ (List.mem_append_right _ h))) (by decide +kernel))) (goodIn_sub (fun _ h => List.mem_append_left _ (List.mem_append_left _ (List.mem_append_left _ (List.mem_append_right _ h)))) (by decide +kernel))
set_option maxRecDepth 20000 in
theorem gL_law_X8_setHeight : GoodIn wsL_law (wsV RL 152 RX8 yX8_setHeight wsX8_setHeight) := goodIn_app (goodIn_of _ (by decide +kernel)) ggL_law_X8_setHeight
set_option maxRecDepth 20000 in
theorem ggL_law_X8_close : GoodIn wsL_law wsX8_close := goodIn_ca (goodIn_r _ [648, 18, 254, 255, 2, 256, 111, 112, 257, 258, 17, 259, 649, 650, 651, 652, 48, 586, 718, 719, 720, 721, 722, 723, 724, 725, 726, 727, 728, 729] (by decide +kernel) (by decide +kernel)) (goodIn_sub (fun _ h => List.mem_append_left _ (List.mem_append_left _ (List.mem_append_left _ (List.mem_append_right _ h)))) (by decide +kernel))
set_option maxRecDepth 20000 in
theorem gL_law_X8_close : GoodIn wsL_law (wsV RL 155 RX8 yX8_close wsX8_close) := goodIn_app (goodIn_of _ (by decide +kernel)) ggL_law_X8_close
set_option maxRecDepth 20000 in
theorem ggL_law_L_many : GoodIn wsL_law wsL_many := goodIn_r _ [168] (by decide +kernel) (by decide +kernel)
set_option maxRecDepth 20000 in
theorem gL_law_L_many : GoodIn wsL_law (va_wsS RL 90 yL_many wsL_many) := goodIn_app (goodIn_of _ (by decide +kernel)) ggL_law_L_many
set_option maxRecDepth 20000 in
theorem ggL_law_L_does : GoodIn wsL_law wsL_does := goodIn_ca (goodIn_ca (goodIn_ca (goodIn_ca (goodIn_r _ [239, 240, 241, 242, 243, 244, 245, 246, 2, 247, 248, 249, 250, 251, 40, 252, 253, 156, 18, 254, 255, 256, 111, 112, 257, 258, 17, 259, 260, 261, 262, 39, 263, 83, 151, 115, 116, 29, 117, 118, 264, 265, 266, 267, 13, 14, 158, 201, 202, 203, 204, 268, 269, 270, 271, 189, 190, 191, 192, 46, 272, 273, 274, 275, 276, 277, 198, 199, 200, 205, 206, 207, 208, 209, 210, 211, 212, 213, 214, 215, 216, 217, 218, 219, 278, 279, 280, 281, 282, 283, 63, 284, 285, 286, 287, 288, 289, 290, 291, 292, 293, 294, 295, 62, 296, 297, 298, 299, 300, 301, 302, 303, 304, 305, 306, 307, 308, 309, 310, 311, 312, 313, 314, 315, 316, 317, 318, 319, 320, 321, 322, 323, 324, 325, 326, 327, 328, 141, 142, 143, 144, 145, 146, 147, 148, 149, 150, 152, 120, 121, 122, 123, 124, 125, 126, 127, 128, 129, 130, 131, 132, 133, 134, 153, 154, 155, 157, 159, 160, 161, 162, 163, 164, 165, 329, 330, 331, 332, 26, 30, 333, 334, 138, 37, 38, 335, 336, 337, 338, 339, 340, 341, 342, 343, 344, 345, 346, 347, 348, 25, 349, 58, 114, 350, 351, 352, 353, 354, 24, 355, 54, 55, 56, 3, 57, 356, 357, 358, 359, 360, 361, 362, 363, 364, 365, 366, 367, 228, 140, 368, 180, 369, 370, 79, 80, 81, 82, 28, 84, 60, 61, 64, 65, 66, 67, 68, 69, 70, 71, 72, 73, 371, 372, 373, 374, 375, 376, 377, 378, 379, 380, 381, 382, 383, 384, 385, 386, 387, 107, 108, 109, 110, 113, 119, 176, 177, 178, 179, 388, 389, 390, 391, 392, 393, 394, 395, 396, 397, 398, 399, 400, 401, 402, 403, 404, 405, 406, 407, 408, 409, 410, 411, 412, 413, 414, 415, 416, 31, 417, 418, 419, 420, 421, 422, 423, 424, 47, 425, 426, 427, 428, 429, 430, 431, 432, 433, 434, 435, 436, 41, 32, 437, 438, 439, 440, 36, 441, 442, 443, 444, 445, 446, 447, 448, 449, 450, 451, 452, 453, 454, 455, 456, 457, 458, 459, 460, 461, 462, 463, 464, 465, 466, 467, 468, 469, 470, 471, 472, 473, 474, 475, 476, 477, 478, 479, 480, 481, 482, 483, 484, 485, 486, 487, 488, 489, 490, 491, 35, 492, 78, 77, 493, 494, 495, 496, 497, 498, 499, 500, 501, 502, 503, 504, 505, 506, 507, 508, 509, 510, 718, 719, 720, 721, 722, 723, 724, 725, 726, 727, 744, 745, 746, 747, 748, 739, 734, 735, 736, 728, 729, 740, 741, 742, 743, 732, 733, 749, 750, 751, 752, 753, 754, 755, 756, 757, 737, 738] (by decide +kernel) (by decide +kernel)) (goodIn_sub (fun _ h => List.mem_append_left _ (List.mem_append_left _ (List.mem_append_right _ h))) (by decide +kernel))) (goodIn_sub (fun _ h => List.mem_append_left _ (List.mem_append_right _ h)) (by decide +kernel))) (goodIn_sub (fun _ h => List.mem_append_left _ (List.mem_append_left _ (List.mem_append_left _ (List.mem_append_right _ h)))) (by decide +kernel))) (goodIn_sub (fun _ h => List.mem_append_right _ h) (by decide +kernel))
set_option maxRecDepth 20000 in
theorem gL_law_L_does : GoodIn wsL_law (va_wsS RL 110 yL_does wsL_does) := goodIn_app (goodIn_of _ (by decide +kernel)) ggL_law_L_does
set_option maxRecDepth 20000 in
theorem ggL_law_X8_clearDraft : GoodIn wsL_law wsX8_clearDraft := goodIn_r _ [656, 40, 260, 261, 262, 39, 263, 83, 151, 115, 116, 29, 117, 118, 657, 658, 659, 660, 661, 662, 663, 664, 282, 283, 63, 718, 719, 720, 721, 722, 723, 724, 725, 726, 727, 739, 734, 735, 736] (by decide +kernel) (by decide +kernel)
set_option maxRecDepth 20000 in
theorem gL_law_X8_clearDraft : GoodIn wsL_law (wsV RL 158 RX8 yX8_clearDraft wsX8_clearDraft) := goodIn_app (goodIn_of _ (by decide +kernel)) ggL_law_X8_clearDraft
set_option maxRecDepth 20000 in
theorem ggL_law_L_letter : GoodIn wsL_law wsL_letter := goodIn_r _ [236] (by decide +kernel) (by decide +kernel)
set_option maxRecDepth 20000 in
theorem gL_law_L_letter : GoodIn wsL_law (va_wsS RL 28 yL_letter wsL_letter) := goodIn_app (goodIn_of _ (by decide +kernel)) ggL_law_L_letter
set_option maxRecDepth 20000 in
theorem ggL_law_L_lays : GoodIn wsL_law wsL_lays := goodIn_r _ [563, 3, 8, 100, 101, 87, 102] (by decide +kernel) (by decide +kernel)
set_option maxRecDepth 20000 in
theorem gL_law_L_lays : GoodIn wsL_law (va_wsS RL 20 yL_lays wsL_lays) := goodIn_app (goodIn_of _ (by decide +kernel)) ggL_law_L_lays
set_option maxRecDepth 20000 in
theorem ggL_law_X8_send : GoodIn wsL_law wsX8_send := goodIn_ca (goodIn_r _ [668, 22, 18, 441, 442, 443, 2, 444, 111, 112, 31, 445, 114, 115, 116, 29, 117, 118, 119, 120, 121, 122, 123, 124, 125, 126, 127, 128, 129, 130, 131, 132, 133, 134, 63, 254, 255, 256, 257, 258, 17, 259, 669, 670, 671, 419, 672, 431, 426, 450, 451, 452, 453, 427, 568, 569, 570, 21, 571, 53, 572, 573, 574, 575, 52, 576, 577, 578, 579, 580, 581, 582, 583, 584, 585, 48, 586, 587, 588, 589, 590, 591, 323, 216, 324, 592, 593, 594, 218, 206, 207, 219, 209, 210, 595, 596, 597, 598, 599, 600, 601, 602, 214, 215, 217, 603, 190, 191, 192, 46, 604, 605, 606, 607, 454, 455, 456, 457, 608, 609, 610, 611, 718, 719, 720, 721, 722, 723, 724, 725, 726, 727, 734, 735, 736, 749, 750, 751, 752, 753, 754, 755, 756, 757, 730, 731, 728, 729] (by decide +kernel) (by decide +kernel)) (goodIn_sub (fun _ h => List.mem_append_left _ (List.mem_append_left _ (List.mem_append_left _ (List.mem_append_right _ h)))) (by decide +kernel))
set_option maxRecDepth 20000 in
theorem gL_law_X8_send : GoodIn wsL_law (wsV RL 162 RX8 yX8_send wsX8_send) := goodIn_app (goodIn_of _ (by decide +kernel)) ggL_law_X8_send
set_option maxRecDepth 20000 in
theorem ggL_law_X8_clearSpelled : GoodIn wsL_law wsX8_clearSpelled := goodIn_r _ [676, 26, 346, 347, 348, 25, 349, 58, 677, 678, 679, 680, 718, 719, 720, 721, 722, 723, 724, 725, 726, 727, 732, 733] (by decide +kernel) (by decide +kernel)
set_option maxRecDepth 20000 in
theorem gL_law_X8_clearSpelled : GoodIn wsL_law (wsV RL 165 RX8 yX8_clearSpelled wsX8_clearSpelled) := goodIn_app (goodIn_of _ (by decide +kernel)) ggL_law_X8_clearSpelled
set_option maxRecDepth 20000 in
theorem ggL_law_X8_spell : GoodIn wsL_law wsX8_spell := goodIn_ca (goodIn_ca (goodIn_r _ [374, 111, 112, 250, 251, 26, 346, 347, 348, 25, 349, 58, 375, 361, 362, 363, 57, 376, 377, 378, 379, 356, 357, 358, 359, 380, 2, 381, 718, 719, 720, 721, 722, 723, 724, 725, 726, 727, 732, 733] (by decide +kernel) (by decide +kernel)) (goodIn_sub (fun _ h => List.mem_append_left _ (List.mem_append_left _ (List.mem_append_left _ (List.mem_append_right _ h)))) (by decide +kernel))) (goodIn_sub (fun _ h => List.mem_append_left _ (List.mem_append_right _ h)) (by decide +kernel))
set_option maxRecDepth 20000 in
theorem gL_law_X8_spell : GoodIn wsL_law (wsV RL 47 RX8 yX8_spell wsX8_spell) := goodIn_app (goodIn_of _ (by decide +kernel)) ggL_law_X8_spell
set_option maxRecDepth 20000 in
theorem ggL_law_L_far : GoodIn wsL_law wsL_far := goodIn_r _ [102] (by decide +kernel) (by decide +kernel)
set_option maxRecDepth 20000 in
theorem gL_law_L_far : GoodIn wsL_law (va_wsS RL 7 yL_far wsL_far) := goodIn_app (goodIn_of _ (by decide +kernel)) ggL_law_L_far
set_option maxRecDepth 20000 in
theorem ggL_law_L_points : GoodIn wsL_law wsL_points := goodIn_r _ [516] (by decide +kernel) (by decide +kernel)
set_option maxRecDepth 20000 in
theorem gL_law_L_points : GoodIn wsL_law (va_wsS RL 33 yL_points wsL_points) := goodIn_app (goodIn_of _ (by decide +kernel)) ggL_law_L_points
set_option maxRecDepth 20000 in
theorem ggL_law_L_minutes : GoodIn wsL_law wsL_minutes := goodIn_r _ [683, 3, 561, 562, 87, 563, 8, 100, 101, 102, 684, 685, 686] (by decide +kernel) (by decide +kernel)
set_option maxRecDepth 20000 in
theorem gL_law_L_minutes : GoodIn wsL_law (va_wsS RL 168 yL_minutes wsL_minutes) := goodIn_app (goodIn_of _ (by decide +kernel)) ggL_law_L_minutes
set_option maxRecDepth 20000 in
theorem ggL_law_X8_pass : GoodIn wsL_law wsX8_pass := goodIn_ca (goodIn_ca (goodIn_r _ [690, 248, 249, 250, 251, 42, 31, 445, 114, 115, 116, 29, 117, 118, 119, 120, 121, 122, 123, 124, 125, 126, 127, 128, 129, 130, 131, 132, 133, 134, 63, 691, 692, 693, 2, 694, 22, 18, 446, 447, 448, 419, 449, 426, 450, 451, 452, 453, 427, 695, 696, 697, 698, 699, 568, 569, 570, 21, 571, 53, 572, 573, 574, 575, 52, 576, 577, 578, 579, 580, 581, 258, 17, 259, 582, 583, 584, 585, 48, 586, 587, 588, 589, 590, 591, 323, 216, 324, 592, 593, 594, 218, 206, 207, 219, 209, 210, 595, 596, 597, 598, 599, 600, 601, 602, 214, 215, 217, 603, 190, 191, 192, 46, 604, 605, 606, 607, 700, 701, 702, 703, 454, 455, 456, 457, 431, 704, 625, 626, 627, 705, 706, 707, 708, 709, 710, 711, 712, 713, 432, 428, 714, 715, 716, 717, 718, 719, 720, 721, 722, 723, 724, 725, 726, 727, 734, 735, 736, 749, 750, 751, 752, 753, 754, 755, 756, 757, 730, 731, 728, 729] (by decide +kernel) (by decide +kernel)) (goodIn_sub (fun _ h => List.mem_append_left _ (List.mem_append_left _ (List.mem_append_right _ h))) (by decide +kernel))) (goodIn_sub (fun _ h => List.mem_append_left _ (List.mem_append_right _ h)) (by decide +kernel))
set_option maxRecDepth 20000 in
theorem gL_law_X8_pass : GoodIn wsL_law (wsV RL 172 RX8 yX8_pass wsX8_pass) := goodIn_app (goodIn_of _ (by decide +kernel)) ggL_law_X8_pass
theorem dL_law_0 : decode cL_law 0 = .ok (.new 38, 3) := by decide +kernel
theorem dL_law_3 : decode cL_law 3 = .ok (.dup, 1) := by decide +kernel
theorem dL_law_4 : decode cL_law 4 = .ok (.invokespecial 145, 3) := by decide +kernel
theorem dL_law_7 : decode cL_law 7 = .ok (.astore_n 1, 1) := by decide +kernel
theorem dL_law_8 : decode cL_law 8 = .ok (.iconst 4, 1) := by decide +kernel
theorem dL_law_9 : decode cL_law 9 = .ok (.newarray .int, 2) := by decide +kernel
theorem dL_law_11 : decode cL_law 11 = .ok (.astore_n 2, 1) := by decide +kernel
theorem dL_law_12 : decode cL_law 12 = .ok (.bipush 64, 2) := by decide +kernel
theorem dL_law_14 : decode cL_law 14 = .ok (.newarray .int, 2) := by decide +kernel
theorem dL_law_16 : decode cL_law 16 = .ok (.astore_n 3, 1) := by decide +kernel
theorem dL_law_17 : decode cL_law 17 = .ok (.iconst 1, 1) := by decide +kernel
theorem dL_law_18 : decode cL_law 18 = .ok (.newarray .long, 2) := by decide +kernel
theorem dL_law_20 : decode cL_law 20 = .ok (.astore 4, 2) := by decide +kernel
theorem dL_law_22 : decode cL_law 22 = .ok (.bipush 35, 2) := by decide +kernel
theorem dL_law_24 : decode cL_law 24 = .ok (.newarray .int, 2) := by decide +kernel
theorem dL_law_26 : decode cL_law 26 = .ok (.astore 5, 2) := by decide +kernel
theorem dL_law_28 : decode cL_law 28 = .ok (.bipush 7, 2) := by decide +kernel
theorem dL_law_30 : decode cL_law 30 = .ok (.newarray .int, 2) := by decide +kernel
theorem dL_law_32 : decode cL_law 32 = .ok (.astore 6, 2) := by decide +kernel
theorem dL_law_34 : decode cL_law 34 = .ok (.bipush 12, 2) := by decide +kernel
theorem dL_law_36 : decode cL_law 36 = .ok (.newarray .int, 2) := by decide +kernel
theorem dL_law_38 : decode cL_law 38 = .ok (.astore 7, 2) := by decide +kernel
theorem dL_law_40 : decode cL_law 40 = .ok (.bipush 7, 2) := by decide +kernel
theorem dL_law_42 : decode cL_law 42 = .ok (.newarray .int, 2) := by decide +kernel
theorem dL_law_44 : decode cL_law 44 = .ok (.astore 8, 2) := by decide +kernel
theorem dL_law_46 : decode cL_law 46 = .ok (.bipush 30, 2) := by decide +kernel
theorem dL_law_48 : decode cL_law 48 = .ok (.newarray .int, 2) := by decide +kernel
theorem dL_law_50 : decode cL_law 50 = .ok (.astore 9, 2) := by decide +kernel
theorem dL_law_52 : decode cL_law 52 = .ok (.bipush 6, 2) := by decide +kernel
theorem dL_law_54 : decode cL_law 54 = .ok (.newarray .int, 2) := by decide +kernel
theorem dL_law_56 : decode cL_law 56 = .ok (.astore 10, 2) := by decide +kernel
theorem dL_law_58 : decode cL_law 58 = .ok (.bipush 6, 2) := by decide +kernel
theorem dL_law_60 : decode cL_law 60 = .ok (.newarray .int, 2) := by decide +kernel
theorem dL_law_62 : decode cL_law 62 = .ok (.astore 11, 2) := by decide +kernel
theorem dL_law_64 : decode cL_law 64 = .ok (.bipush 36, 2) := by decide +kernel
theorem dL_law_66 : decode cL_law 66 = .ok (.newarray .int, 2) := by decide +kernel
theorem dL_law_68 : decode cL_law 68 = .ok (.astore 12, 2) := by decide +kernel
theorem dL_law_70 : decode cL_law 70 = .ok (.iconst 4, 1) := by decide +kernel
theorem dL_law_71 : decode cL_law 71 = .ok (.newarray .int, 2) := by decide +kernel
theorem dL_law_73 : decode cL_law 73 = .ok (.astore 13, 2) := by decide +kernel
theorem dL_law_75 : decode cL_law 75 = .ok (.bipush 64, 2) := by decide +kernel
theorem dL_law_77 : decode cL_law 77 = .ok (.newarray .int, 2) := by decide +kernel
theorem dL_law_79 : decode cL_law 79 = .ok (.astore 14, 2) := by decide +kernel
theorem dL_law_81 : decode cL_law 81 = .ok (.aload_n 1, 1) := by decide +kernel
theorem dL_law_82 : decode cL_law 82 = .ok (.aload_n 2, 1) := by decide +kernel
theorem dL_law_83 : decode cL_law 83 = .ok (.aload_n 3, 1) := by decide +kernel
theorem dL_law_84 : decode cL_law 84 = .ok (.aload 4, 2) := by decide +kernel
theorem dL_law_86 : decode cL_law 86 = .ok (.aload 5, 2) := by decide +kernel
theorem dL_law_88 : decode cL_law 88 = .ok (.aload 6, 2) := by decide +kernel
theorem dL_law_90 : decode cL_law 90 = .ok (.aload 7, 2) := by decide +kernel
theorem dL_law_92 : decode cL_law 92 = .ok (.aload 8, 2) := by decide +kernel
theorem dL_law_94 : decode cL_law 94 = .ok (.aload 9, 2) := by decide +kernel
theorem dL_law_96 : decode cL_law 96 = .ok (.aload 10, 2) := by decide +kernel
theorem dL_law_98 : decode cL_law 98 = .ok (.aload 11, 2) := by decide +kernel
theorem dL_law_100 : decode cL_law 100 = .ok (.aload 12, 2) := by decide +kernel
theorem dL_law_102 : decode cL_law 102 = .ok (.aload 13, 2) := by decide +kernel
theorem dL_law_104 : decode cL_law 104 = .ok (.bipush 70, 2) := by decide +kernel
theorem dL_law_106 : decode cL_law 106 = .ok (.invokestatic 146, 3) := by decide +kernel
theorem dL_law_109 : decode cL_law 109 = .ok (.istore 15, 2) := by decide +kernel
theorem dL_law_111 : decode cL_law 111 = .ok (.iconst 0, 1) := by decide +kernel
theorem dL_law_112 : decode cL_law 112 = .ok (.istore 16, 2) := by decide +kernel
theorem dL_law_114 : decode cL_law 114 = .ok (.iload 16, 2) := by decide +kernel
theorem dL_law_116 : decode cL_law 116 = .ok (.sipush 130, 3) := by decide +kernel
theorem dL_law_119 : decode cL_law 119 = .ok (.if_icmp .ge 1965, 3) := by decide +kernel
theorem dL_law_122 : decode cL_law 122 = .ok (.iload 15, 2) := by decide +kernel
theorem dL_law_124 : decode cL_law 124 = .ok (.ifCond .eq 1960, 3) := by decide +kernel
theorem dL_law_127 : decode cL_law 127 = .ok (.iload 16, 2) := by decide +kernel
theorem dL_law_129 : decode cL_law 129 = .ok (.aload_n 0, 1) := by decide +kernel
theorem dL_law_130 : decode cL_law 130 = .ok (.arraylength, 1) := by decide +kernel
theorem dL_law_131 : decode cL_law 131 = .ok (.if_icmp .ge 13, 3) := by decide +kernel
theorem dL_law_134 : decode cL_law 134 = .ok (.aload_n 0, 1) := by decide +kernel
theorem dL_law_135 : decode cL_law 135 = .ok (.iload 16, 2) := by decide +kernel
theorem dL_law_137 : decode cL_law 137 = .ok (.iaload, 1) := by decide +kernel
theorem dL_law_138 : decode cL_law 138 = .ok (.ldc 150, 2) := by decide +kernel
theorem dL_law_140 : decode cL_law 140 = .ok (.iand, 1) := by decide +kernel
theorem dL_law_141 : decode cL_law 141 = .ok (.goto 24, 3) := by decide +kernel
theorem dL_law_144 : decode cL_law 144 = .ok (.ldc 151, 2) := by decide +kernel
theorem dL_law_146 : decode cL_law 146 = .ok (.iload 16, 2) := by decide +kernel
theorem dL_law_148 : decode cL_law 148 = .ok (.imul, 1) := by decide +kernel
theorem dL_law_149 : decode cL_law 149 = .ok (.iload 16, 2) := by decide +kernel
theorem dL_law_151 : decode cL_law 151 = .ok (.imul, 1) := by decide +kernel
theorem dL_law_152 : decode cL_law 152 = .ok (.sipush 8009, 3) := by decide +kernel
theorem dL_law_155 : decode cL_law 155 = .ok (.iload 16, 2) := by decide +kernel
theorem dL_law_157 : decode cL_law 157 = .ok (.imul, 1) := by decide +kernel
theorem dL_law_158 : decode cL_law 158 = .ok (.iadd, 1) := by decide +kernel
theorem dL_law_159 : decode cL_law 159 = .ok (.bipush 59, 2) := by decide +kernel
theorem dL_law_161 : decode cL_law 161 = .ok (.iadd, 1) := by decide +kernel
theorem dL_law_162 : decode cL_law 162 = .ok (.ldc 150, 2) := by decide +kernel
theorem dL_law_164 : decode cL_law 164 = .ok (.iand, 1) := by decide +kernel
theorem dL_law_165 : decode cL_law 165 = .ok (.istore 17, 2) := by decide +kernel
theorem dL_law_167 : decode cL_law 167 = .ok (.iload 16, 2) := by decide +kernel
theorem dL_law_169 : decode cL_law 169 = .ok (.iconst 2, 1) := by decide +kernel
theorem dL_law_170 : decode cL_law 170 = .ok (.if_icmp .ge 8, 3) := by decide +kernel
theorem dL_law_173 : decode cL_law 173 = .ok (.bipush 13, 2) := by decide +kernel
theorem dL_law_175 : decode cL_law 175 = .ok (.goto 8, 3) := by decide +kernel
theorem dL_law_178 : decode cL_law 178 = .ok (.iload 17, 2) := by decide +kernel
theorem dL_law_180 : decode cL_law 180 = .ok (.bipush 28, 2) := by decide +kernel
theorem dL_law_182 : decode cL_law 182 = .ok (.irem, 1) := by decide +kernel
theorem dL_law_183 : decode cL_law 183 = .ok (.istore 18, 2) := by decide +kernel
theorem dL_law_185 : decode cL_law 185 = .ok (.iload 17, 2) := by decide +kernel
theorem dL_law_187 : decode cL_law 187 = .ok (.bipush 28, 2) := by decide +kernel
theorem dL_law_189 : decode cL_law 189 = .ok (.idiv, 1) := by decide +kernel
theorem dL_law_190 : decode cL_law 190 = .ok (.istore 19, 2) := by decide +kernel
theorem dL_law_192 : decode cL_law 192 = .ok (.iload 19, 2) := by decide +kernel
theorem dL_law_194 : decode cL_law 194 = .ok (.iconst 3, 1) := by decide +kernel
theorem dL_law_195 : decode cL_law 195 = .ok (.idiv, 1) := by decide +kernel
theorem dL_law_196 : decode cL_law 196 = .ok (.iconst 2, 1) := by decide +kernel
theorem dL_law_197 : decode cL_law 197 = .ok (.irem, 1) := by decide +kernel
theorem dL_law_198 : decode cL_law 198 = .ok (.ifCond .ne 14, 3) := by decide +kernel
theorem dL_law_201 : decode cL_law 201 = .ok (.iload 19, 2) := by decide +kernel
theorem dL_law_203 : decode cL_law 203 = .ok (.bipush 6, 2) := by decide +kernel
theorem dL_law_205 : decode cL_law 205 = .ok (.idiv, 1) := by decide +kernel
theorem dL_law_206 : decode cL_law 206 = .ok (.bipush 64, 2) := by decide +kernel
theorem dL_law_208 : decode cL_law 208 = .ok (.irem, 1) := by decide +kernel
theorem dL_law_209 : decode cL_law 209 = .ok (.goto 13, 3) := by decide +kernel
theorem dL_law_212 : decode cL_law 212 = .ok (.iload 19, 2) := by decide +kernel
theorem dL_law_214 : decode cL_law 214 = .ok (.bipush 6, 2) := by decide +kernel
theorem dL_law_216 : decode cL_law 216 = .ok (.idiv, 1) := by decide +kernel
theorem dL_law_217 : decode cL_law 217 = .ok (.iconst 4, 1) := by decide +kernel
theorem dL_law_218 : decode cL_law 218 = .ok (.irem, 1) := by decide +kernel
theorem dL_law_219 : decode cL_law 219 = .ok (.bipush 9, 2) := by decide +kernel
theorem dL_law_221 : decode cL_law 221 = .ok (.imul, 1) := by decide +kernel
theorem dL_law_222 : decode cL_law 222 = .ok (.istore 20, 2) := by decide +kernel
theorem dL_law_224 : decode cL_law 224 = .ok (.aload_n 2, 1) := by decide +kernel
theorem dL_law_225 : decode cL_law 225 = .ok (.iconst 1, 1) := by decide +kernel
theorem dL_law_226 : decode cL_law 226 = .ok (.iaload, 1) := by decide +kernel
theorem dL_law_227 : decode cL_law 227 = .ok (.ifCond .ne 7, 3) := by decide +kernel
theorem dL_law_230 : decode cL_law 230 = .ok (.iconst 0, 1) := by decide +kernel
theorem dL_law_231 : decode cL_law 231 = .ok (.goto 9, 3) := by decide +kernel
theorem dL_law_234 : decode cL_law 234 = .ok (.iload 19, 2) := by decide +kernel
theorem dL_law_236 : decode cL_law 236 = .ok (.aload_n 2, 1) := by decide +kernel
theorem dL_law_237 : decode cL_law 237 = .ok (.iconst 1, 1) := by decide +kernel
theorem dL_law_238 : decode cL_law 238 = .ok (.iaload, 1) := by decide +kernel
theorem dL_law_239 : decode cL_law 239 = .ok (.irem, 1) := by decide +kernel
theorem dL_law_240 : decode cL_law 240 = .ok (.istore 21, 2) := by decide +kernel
theorem dL_law_242 : decode cL_law 242 = .ok (.aload_n 2, 1) := by decide +kernel
theorem dL_law_243 : decode cL_law 243 = .ok (.iconst 0, 1) := by decide +kernel
theorem dL_law_244 : decode cL_law 244 = .ok (.iaload, 1) := by decide +kernel
theorem dL_law_245 : decode cL_law 245 = .ok (.ifCond .ne 7, 3) := by decide +kernel
theorem dL_law_248 : decode cL_law 248 = .ok (.iconst 0, 1) := by decide +kernel
theorem dL_law_249 : decode cL_law 249 = .ok (.goto 12, 3) := by decide +kernel
theorem dL_law_252 : decode cL_law 252 = .ok (.iload 19, 2) := by decide +kernel
theorem dL_law_254 : decode cL_law 254 = .ok (.bipush 7, 2) := by decide +kernel
theorem dL_law_256 : decode cL_law 256 = .ok (.idiv, 1) := by decide +kernel
theorem dL_law_257 : decode cL_law 257 = .ok (.aload_n 2, 1) := by decide +kernel
theorem dL_law_258 : decode cL_law 258 = .ok (.iconst 0, 1) := by decide +kernel
theorem dL_law_259 : decode cL_law 259 = .ok (.iaload, 1) := by decide +kernel
theorem dL_law_260 : decode cL_law 260 = .ok (.irem, 1) := by decide +kernel
theorem dL_law_261 : decode cL_law 261 = .ok (.istore 22, 2) := by decide +kernel
theorem dL_law_263 : decode cL_law 263 = .ok (.iload 18, 2) := by decide +kernel
theorem dL_law_265 : decode cL_law 265 = .ok (.iconst 3, 1) := by decide +kernel
theorem dL_law_266 : decode cL_law 266 = .ok (.if_icmp .ge 163, 3) := by decide +kernel
theorem dL_law_269 : decode cL_law 269 = .ok (.iload 19, 2) := by decide +kernel
theorem dL_law_271 : decode cL_law 271 = .ok (.sipush 400, 3) := by decide +kernel
theorem dL_law_274 : decode cL_law 274 = .ok (.idiv, 1) := by decide +kernel
theorem dL_law_275 : decode cL_law 275 = .ok (.iconst 4, 1) := by decide +kernel
theorem dL_law_276 : decode cL_law 276 = .ok (.irem, 1) := by decide +kernel
theorem dL_law_277 : decode cL_law 277 = .ok (.ifCond .ne 15, 3) := by decide +kernel
theorem dL_law_280 : decode cL_law 280 = .ok (.iload 19, 2) := by decide +kernel
theorem dL_law_282 : decode cL_law 282 = .ok (.sipush 1600, 3) := by decide +kernel
theorem dL_law_285 : decode cL_law 285 = .ok (.idiv, 1) := by decide +kernel
theorem dL_law_286 : decode cL_law 286 = .ok (.bipush 10, 2) := by decide +kernel
theorem dL_law_288 : decode cL_law 288 = .ok (.irem, 1) := by decide +kernel
theorem dL_law_289 : decode cL_law 289 = .ok (.goto 11, 3) := by decide +kernel
theorem dL_law_292 : decode cL_law 292 = .ok (.iload 19, 2) := by decide +kernel
theorem dL_law_294 : decode cL_law 294 = .ok (.sipush 1600, 3) := by decide +kernel
theorem dL_law_297 : decode cL_law 297 = .ok (.idiv, 1) := by decide +kernel
theorem dL_law_298 : decode cL_law 298 = .ok (.iconst 3, 1) := by decide +kernel
theorem dL_law_299 : decode cL_law 299 = .ok (.irem, 1) := by decide +kernel
theorem dL_law_300 : decode cL_law 300 = .ok (.istore 23, 2) := by decide +kernel
theorem dL_law_302 : decode cL_law 302 = .ok (.aload_n 3, 1) := by decide +kernel
theorem dL_law_303 : decode cL_law 303 = .ok (.iload 20, 2) := by decide +kernel
theorem dL_law_305 : decode cL_law 305 = .ok (.iload 23, 2) := by decide +kernel
theorem dL_law_307 : decode cL_law 307 = .ok (.iastore, 1) := by decide +kernel
theorem dL_law_308 : decode cL_law 308 = .ok (.iconst 0, 1) := by decide +kernel
theorem dL_law_309 : decode cL_law 309 = .ok (.istore 24, 2) := by decide +kernel
theorem dL_law_311 : decode cL_law 311 = .ok (.iconst 0, 1) := by decide +kernel
theorem dL_law_312 : decode cL_law 312 = .ok (.istore 25, 2) := by decide +kernel
theorem dL_law_314 : decode cL_law 314 = .ok (.iload 25, 2) := by decide +kernel
theorem dL_law_316 : decode cL_law 316 = .ok (.aload_n 2, 1) := by decide +kernel
theorem dL_law_317 : decode cL_law 317 = .ok (.iconst 0, 1) := by decide +kernel
theorem dL_law_318 : decode cL_law 318 = .ok (.iaload, 1) := by decide +kernel
theorem dL_law_319 : decode cL_law 319 = .ok (.if_icmp .ge 87, 3) := by decide +kernel
theorem dL_law_322 : decode cL_law 322 = .ok (.aload_n 3, 1) := by decide +kernel
theorem dL_law_323 : decode cL_law 323 = .ok (.aload 5, 2) := by decide +kernel
theorem dL_law_325 : decode cL_law 325 = .ok (.aload 6, 2) := by decide +kernel
theorem dL_law_327 : decode cL_law 327 = .ok (.iload 25, 2) := by decide +kernel
theorem dL_law_329 : decode cL_law 329 = .ok (.iconst 1, 1) := by decide +kernel
theorem dL_law_330 : decode cL_law 330 = .ok (.iadd, 1) := by decide +kernel
theorem dL_law_331 : decode cL_law 331 = .ok (.iconst (-1), 1) := by decide +kernel
theorem dL_law_332 : decode cL_law 332 = .ok (.invokestatic 83, 3) := by decide +kernel
theorem dL_law_335 : decode cL_law 335 = .ok (.invokestatic 94, 3) := by decide +kernel
theorem dL_law_338 : decode cL_law 338 = .ok (.istore 26, 2) := by decide +kernel
theorem dL_law_340 : decode cL_law 340 = .ok (.iload 24, 2) := by decide +kernel
theorem dL_law_342 : decode cL_law 342 = .ok (.iload 26, 2) := by decide +kernel
theorem dL_law_344 : decode cL_law 344 = .ok (.aload 7, 2) := by decide +kernel
theorem dL_law_346 : decode cL_law 346 = .ok (.iconst 2, 1) := by decide +kernel
theorem dL_law_347 : decode cL_law 347 = .ok (.iload 25, 2) := by decide +kernel
theorem dL_law_349 : decode cL_law 349 = .ok (.imul, 1) := by decide +kernel
theorem dL_law_350 : decode cL_law 350 = .ok (.iaload, 1) := by decide +kernel
theorem dL_law_351 : decode cL_law 351 = .ok (.if_icmp .ne 7, 3) := by decide +kernel
theorem dL_law_354 : decode cL_law 354 = .ok (.iconst 0, 1) := by decide +kernel
theorem dL_law_355 : decode cL_law 355 = .ok (.goto 4, 3) := by decide +kernel
theorem dL_law_358 : decode cL_law 358 = .ok (.iconst 1, 1) := by decide +kernel
theorem dL_law_359 : decode cL_law 359 = .ok (.iadd, 1) := by decide +kernel
theorem dL_law_360 : decode cL_law 360 = .ok (.istore 24, 2) := by decide +kernel
theorem dL_law_362 : decode cL_law 362 = .ok (.aload 7, 2) := by decide +kernel
theorem dL_law_364 : decode cL_law 364 = .ok (.iconst 2, 1) := by decide +kernel
theorem dL_law_365 : decode cL_law 365 = .ok (.iload 25, 2) := by decide +kernel
theorem dL_law_367 : decode cL_law 367 = .ok (.imul, 1) := by decide +kernel
theorem dL_law_368 : decode cL_law 368 = .ok (.iconst 1, 1) := by decide +kernel
theorem dL_law_369 : decode cL_law 369 = .ok (.iadd, 1) := by decide +kernel
theorem dL_law_370 : decode cL_law 370 = .ok (.dup2, 1) := by decide +kernel
theorem dL_law_371 : decode cL_law 371 = .ok (.iaload, 1) := by decide +kernel
theorem dL_law_372 : decode cL_law 372 = .ok (.iload 26, 2) := by decide +kernel
theorem dL_law_374 : decode cL_law 374 = .ok (.aload 7, 2) := by decide +kernel
theorem dL_law_376 : decode cL_law 376 = .ok (.iconst 2, 1) := by decide +kernel
theorem dL_law_377 : decode cL_law 377 = .ok (.iload 25, 2) := by decide +kernel
theorem dL_law_379 : decode cL_law 379 = .ok (.imul, 1) := by decide +kernel
theorem dL_law_380 : decode cL_law 380 = .ok (.iaload, 1) := by decide +kernel
theorem dL_law_381 : decode cL_law 381 = .ok (.if_icmp .ne 7, 3) := by decide +kernel
theorem dL_law_384 : decode cL_law 384 = .ok (.iconst 0, 1) := by decide +kernel
theorem dL_law_385 : decode cL_law 385 = .ok (.goto 4, 3) := by decide +kernel
theorem dL_law_388 : decode cL_law 388 = .ok (.iconst 1, 1) := by decide +kernel
theorem dL_law_389 : decode cL_law 389 = .ok (.iadd, 1) := by decide +kernel
theorem dL_law_390 : decode cL_law 390 = .ok (.iastore, 1) := by decide +kernel
theorem dL_law_391 : decode cL_law 391 = .ok (.aload 7, 2) := by decide +kernel
theorem dL_law_393 : decode cL_law 393 = .ok (.iconst 2, 1) := by decide +kernel
theorem dL_law_394 : decode cL_law 394 = .ok (.iload 25, 2) := by decide +kernel
theorem dL_law_396 : decode cL_law 396 = .ok (.imul, 1) := by decide +kernel
theorem dL_law_397 : decode cL_law 397 = .ok (.iload 26, 2) := by decide +kernel
theorem dL_law_399 : decode cL_law 399 = .ok (.iastore, 1) := by decide +kernel
theorem dL_law_400 : decode cL_law 400 = .ok (.iinc 25 1, 3) := by decide +kernel
theorem dL_law_403 : decode cL_law 403 = .ok (.goto (-89), 3) := by decide +kernel
theorem dL_law_406 : decode cL_law 406 = .ok (.aload_n 1, 1) := by decide +kernel
theorem dL_law_407 : decode cL_law 407 = .ok (.iload 20, 2) := by decide +kernel
theorem dL_law_409 : decode cL_law 409 = .ok (.iload 23, 2) := by decide +kernel
theorem dL_law_411 : decode cL_law 411 = .ok (.invokevirtual 152, 3) := by decide +kernel
theorem dL_law_414 : decode cL_law 414 = .ok (.iload 24, 2) := by decide +kernel
theorem dL_law_416 : decode cL_law 416 = .ok (.if_icmp .ne 7, 3) := by decide +kernel
theorem dL_law_419 : decode cL_law 419 = .ok (.iconst 1, 1) := by decide +kernel
theorem dL_law_420 : decode cL_law 420 = .ok (.goto 4, 3) := by decide +kernel
theorem dL_law_423 : decode cL_law 423 = .ok (.iconst 0, 1) := by decide +kernel
theorem dL_law_424 : decode cL_law 424 = .ok (.istore 15, 2) := by decide +kernel
theorem dL_law_426 : decode cL_law 426 = .ok (.goto 1601, 3) := by decide +kernel
theorem dL_law_429 : decode cL_law 429 = .ok (.iload 18, 2) := by decide +kernel
theorem dL_law_431 : decode cL_law 431 = .ok (.iconst 3, 1) := by decide +kernel
theorem dL_law_432 : decode cL_law 432 = .ok (.if_icmp .ne 52, 3) := by decide +kernel
theorem dL_law_435 : decode cL_law 435 = .ok (.aload 4, 2) := by decide +kernel
theorem dL_law_437 : decode cL_law 437 = .ok (.iconst 0, 1) := by decide +kernel
theorem dL_law_438 : decode cL_law 438 = .ok (.dup2, 1) := by decide +kernel
theorem dL_law_439 : decode cL_law 439 = .ok (.laload, 1) := by decide +kernel
theorem dL_law_440 : decode cL_law 440 = .ok (.lconst 1, 1) := by decide +kernel
theorem dL_law_441 : decode cL_law 441 = .ok (.iload 20, 2) := by decide +kernel
theorem dL_law_443 : decode cL_law 443 = .ok (.lshl, 1) := by decide +kernel
theorem dL_law_444 : decode cL_law 444 = .ok (.lxor, 1) := by decide +kernel
theorem dL_law_445 : decode cL_law 445 = .ok (.lastore, 1) := by decide +kernel
theorem dL_law_446 : decode cL_law 446 = .ok (.aload_n 1, 1) := by decide +kernel
theorem dL_law_447 : decode cL_law 447 = .ok (.iload 20, 2) := by decide +kernel
theorem dL_law_449 : decode cL_law 449 = .ok (.invokevirtual 155, 3) := by decide +kernel
theorem dL_law_452 : decode cL_law 452 = .ok (.aload 4, 2) := by decide +kernel
theorem dL_law_454 : decode cL_law 454 = .ok (.iconst 0, 1) := by decide +kernel
theorem dL_law_455 : decode cL_law 455 = .ok (.laload, 1) := by decide +kernel
theorem dL_law_456 : decode cL_law 456 = .ok (.iload 20, 2) := by decide +kernel
theorem dL_law_458 : decode cL_law 458 = .ok (.lshr, 1) := by decide +kernel
theorem dL_law_459 : decode cL_law 459 = .ok (.lconst 1, 1) := by decide +kernel
theorem dL_law_460 : decode cL_law 460 = .ok (.land, 1) := by decide +kernel
theorem dL_law_461 : decode cL_law 461 = .ok (.lconst 1, 1) := by decide +kernel
theorem dL_law_462 : decode cL_law 462 = .ok (.lcmp, 1) := by decide +kernel
theorem dL_law_463 : decode cL_law 463 = .ok (.ifCond .ne 7, 3) := by decide +kernel
theorem dL_law_466 : decode cL_law 466 = .ok (.iconst 1, 1) := by decide +kernel
theorem dL_law_467 : decode cL_law 467 = .ok (.goto 4, 3) := by decide +kernel
theorem dL_law_470 : decode cL_law 470 = .ok (.iconst 0, 1) := by decide +kernel
theorem dL_law_471 : decode cL_law 471 = .ok (.if_icmp .ne 7, 3) := by decide +kernel
theorem dL_law_474 : decode cL_law 474 = .ok (.iconst 1, 1) := by decide +kernel
theorem dL_law_475 : decode cL_law 475 = .ok (.goto 4, 3) := by decide +kernel
theorem dL_law_478 : decode cL_law 478 = .ok (.iconst 0, 1) := by decide +kernel
theorem dL_law_479 : decode cL_law 479 = .ok (.istore 15, 2) := by decide +kernel
theorem dL_law_481 : decode cL_law 481 = .ok (.goto 1546, 3) := by decide +kernel
theorem dL_law_484 : decode cL_law 484 = .ok (.iload 18, 2) := by decide +kernel
theorem dL_law_486 : decode cL_law 486 = .ok (.bipush 8, 2) := by decide +kernel
theorem dL_law_488 : decode cL_law 488 = .ok (.if_icmp .ge 155, 3) := by decide +kernel
theorem dL_law_491 : decode cL_law 491 = .ok (.iload 18, 2) := by decide +kernel
theorem dL_law_493 : decode cL_law 493 = .ok (.iconst 4, 1) := by decide +kernel
theorem dL_law_494 : decode cL_law 494 = .ok (.if_icmp .ne 14, 3) := by decide +kernel
theorem dL_law_497 : decode cL_law 497 = .ok (.iconst 3, 1) := by decide +kernel
theorem dL_law_498 : decode cL_law 498 = .ok (.sipush 128, 3) := by decide +kernel
theorem dL_law_501 : decode cL_law 501 = .ok (.iload 20, 2) := by decide +kernel
theorem dL_law_503 : decode cL_law 503 = .ok (.imul, 1) := by decide +kernel
theorem dL_law_504 : decode cL_law 504 = .ok (.iadd, 1) := by decide +kernel
theorem dL_law_505 : decode cL_law 505 = .ok (.goto 68, 3) := by decide +kernel
theorem dL_law_508 : decode cL_law 508 = .ok (.iload 18, 2) := by decide +kernel
theorem dL_law_510 : decode cL_law 510 = .ok (.iconst 5, 1) := by decide +kernel
theorem dL_law_511 : decode cL_law 511 = .ok (.if_icmp .ne 21, 3) := by decide +kernel
theorem dL_law_514 : decode cL_law 514 = .ok (.iconst 2, 1) := by decide +kernel
theorem dL_law_515 : decode cL_law 515 = .ok (.bipush 8, 2) := by decide +kernel
theorem dL_law_517 : decode cL_law 517 = .ok (.iconst 1, 1) := by decide +kernel
theorem dL_law_518 : decode cL_law 518 = .ok (.iload 19, 2) := by decide +kernel
theorem dL_law_520 : decode cL_law 520 = .ok (.sipush 400, 3) := by decide +kernel
theorem dL_law_523 : decode cL_law 523 = .ok (.idiv, 1) := by decide +kernel
theorem dL_law_524 : decode cL_law 524 = .ok (.iconst 5, 1) := by decide +kernel
theorem dL_law_525 : decode cL_law 525 = .ok (.irem, 1) := by decide +kernel
theorem dL_law_526 : decode cL_law 526 = .ok (.iadd, 1) := by decide +kernel
theorem dL_law_527 : decode cL_law 527 = .ok (.imul, 1) := by decide +kernel
theorem dL_law_528 : decode cL_law 528 = .ok (.iadd, 1) := by decide +kernel
theorem dL_law_529 : decode cL_law 529 = .ok (.goto 44, 3) := by decide +kernel
theorem dL_law_532 : decode cL_law 532 = .ok (.iload 19, 2) := by decide +kernel
theorem dL_law_534 : decode cL_law 534 = .ok (.iconst 5, 1) := by decide +kernel
theorem dL_law_535 : decode cL_law 535 = .ok (.irem, 1) := by decide +kernel
theorem dL_law_536 : decode cL_law 536 = .ok (.bipush 8, 2) := by decide +kernel
theorem dL_law_538 : decode cL_law 538 = .ok (.iload 19, 2) := by decide +kernel
theorem dL_law_540 : decode cL_law 540 = .ok (.iconst 5, 1) := by decide +kernel
theorem dL_law_541 : decode cL_law 541 = .ok (.idiv, 1) := by decide +kernel
theorem dL_law_542 : decode cL_law 542 = .ok (.bipush 9, 2) := by decide +kernel
theorem dL_law_544 : decode cL_law 544 = .ok (.irem, 1) := by decide +kernel
theorem dL_law_545 : decode cL_law 545 = .ok (.imul, 1) := by decide +kernel
theorem dL_law_546 : decode cL_law 546 = .ok (.iadd, 1) := by decide +kernel
theorem dL_law_547 : decode cL_law 547 = .ok (.sipush 128, 3) := by decide +kernel
theorem dL_law_550 : decode cL_law 550 = .ok (.iload 20, 2) := by decide +kernel
theorem dL_law_552 : decode cL_law 552 = .ok (.imul, 1) := by decide +kernel
theorem dL_law_553 : decode cL_law 553 = .ok (.iadd, 1) := by decide +kernel
theorem dL_law_554 : decode cL_law 554 = .ok (.iload 19, 2) := by decide +kernel
theorem dL_law_556 : decode cL_law 556 = .ok (.sipush 400, 3) := by decide +kernel
theorem dL_law_559 : decode cL_law 559 = .ok (.idiv, 1) := by decide +kernel
theorem dL_law_560 : decode cL_law 560 = .ok (.iconst 3, 1) := by decide +kernel
theorem dL_law_561 : decode cL_law 561 = .ok (.irem, 1) := by decide +kernel
theorem dL_law_562 : decode cL_law 562 = .ok (.ifCond .ne 9, 3) := by decide +kernel
theorem dL_law_565 : decode cL_law 565 = .ok (.sipush 8192, 3) := by decide +kernel
theorem dL_law_568 : decode cL_law 568 = .ok (.goto 4, 3) := by decide +kernel
