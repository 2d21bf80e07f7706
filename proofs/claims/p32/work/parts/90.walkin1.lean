set_option maxRecDepth 20000 in
theorem wk_wsL_isWalk_r1 : GoodIn wsL_law wsL_isWalk_r1 := goodIn_r _ [3, 8, 89, 90, 91, 2, 92, 42, 93, 94, 87, 95, 96, 97, 98, 99, 100, 101, 102, 103, 104, 105, 106, 107] (by decide +kernel) (by decide +kernel)
set_option maxRecDepth 20000 in
theorem wk_wsL_isWalk_r2 : GoodIn wsL_law wsL_isWalk_r2 := goodIn_r _ [108, 109, 110, 111, 112, 30, 113, 114, 115, 116, 29, 117, 118, 119, 120, 121, 122, 123, 124, 125, 126, 127, 128, 129] (by decide +kernel) (by decide +kernel)
set_option maxRecDepth 20000 in
theorem wk_wsL_isWalk_r3 : GoodIn wsL_law wsL_isWalk_r3 := goodIn_r _ [130, 131, 132, 133, 134, 63, 135, 136, 137, 138, 139, 140, 141, 142, 143, 39, 144, 145, 146, 147, 148, 149, 83, 150] (by decide +kernel) (by decide +kernel)
set_option maxRecDepth 20000 in
theorem wk_wsL_isWalk_r4 : GoodIn wsL_law wsL_isWalk_r4 := goodIn_r _ [151, 152, 153, 154, 155, 156, 157, 158, 159, 160, 161, 162, 163, 164, 165, 166, 167, 168, 169, 170, 171, 172, 173, 174] (by decide +kernel) (by decide +kernel)
set_option maxRecDepth 20000 in
theorem wk_wsL_isWalk_r5 : GoodIn wsL_law wsL_isWalk_r5 := goodIn_r _ [175, 176, 177, 178, 179, 180, 181, 182, 183, 184, 18, 185, 186, 187, 188, 189, 190, 191, 17, 192, 46, 193, 194, 195] (by decide +kernel) (by decide +kernel)
set_option maxRecDepth 20000 in
theorem wk_wsL_isWalk_r6 : GoodIn wsL_law wsL_isWalk_r6 := goodIn_r _ [196, 197, 198, 199, 200, 201, 202, 203, 204, 205, 206, 207, 208, 209, 210, 211, 212, 213, 214, 215, 216, 217, 218, 219] (by decide +kernel) (by decide +kernel)
set_option maxRecDepth 20000 in
theorem wk_wsL_isWalk_r7 : GoodIn wsL_law wsL_isWalk_r7 := goodIn_r _ [220, 221, 222, 223, 224, 225, 226, 227, 228, 229, 230, 231, 232, 233, 234, 235, 236, 237, 238, 239, 240, 241, 242, 243] (by decide +kernel) (by decide +kernel)
set_option maxRecDepth 20000 in
theorem wk_wsL_isWalk_r8 : GoodIn wsL_law wsL_isWalk_r8 := goodIn_r _ [244, 245, 246, 247, 248, 249, 250, 251, 40, 252, 253, 254, 255, 256, 257, 258, 259, 260, 261, 262, 263, 264, 265, 266] (by decide +kernel) (by decide +kernel)
set_option maxRecDepth 20000 in
theorem wk_wsL_isWalk_r9 : GoodIn wsL_law wsL_isWalk_r9 := goodIn_r _ [267, 13, 14, 268, 269, 270, 271, 272, 273, 274, 275, 276, 277, 278, 279, 280, 281, 282, 283, 284, 285, 286, 287, 288] (by decide +kernel) (by decide +kernel)
set_option maxRecDepth 20000 in
theorem wk_wsL_isWalk_r10 : GoodIn wsL_law wsL_isWalk_r10 := goodIn_r _ [289, 290, 291, 292, 293, 294, 295, 62, 296, 297, 298, 299, 300, 301, 302, 303, 304, 305, 306, 307, 308, 309, 310, 311] (by decide +kernel) (by decide +kernel)
set_option maxRecDepth 20000 in
theorem wk_wsL_isWalk_r11 : GoodIn wsL_law wsL_isWalk_r11 := goodIn_r _ [312, 313, 314, 315, 316, 317, 318, 319, 320, 321, 322, 323, 324, 325, 326, 327, 328, 329, 330, 331, 332, 26, 333, 334] (by decide +kernel) (by decide +kernel)
set_option maxRecDepth 20000 in
theorem wk_wsL_isWalk_r12 : GoodIn wsL_law wsL_isWalk_r12 := goodIn_r _ [37, 38, 335, 336, 337, 338, 339, 340, 341, 342, 343, 344, 345, 346, 347, 348, 25, 349, 58, 350, 351, 352, 353, 354] (by decide +kernel) (by decide +kernel)
