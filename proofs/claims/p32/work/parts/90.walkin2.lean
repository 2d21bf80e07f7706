set_option maxRecDepth 20000 in
theorem wk_wsL_isWalk_r13 : GoodIn wsL_law wsL_isWalk_r13 := goodIn_r _ [24, 355, 54, 55, 56, 57, 356, 357, 358, 359, 360, 361, 362, 363, 364, 365, 366, 367, 368, 369, 370, 79, 80, 81] (by decide +kernel) (by decide +kernel)
set_option maxRecDepth 20000 in
theorem wk_wsL_isWalk_r14 : GoodIn wsL_law wsL_isWalk_r14 := goodIn_r _ [82, 28, 84, 60, 61, 64, 65, 66, 67, 68, 69, 70, 71, 72, 73, 371, 372, 373, 374, 375, 376, 377, 378, 379] (by decide +kernel) (by decide +kernel)
set_option maxRecDepth 20000 in
theorem wk_wsL_isWalk_r15 : GoodIn wsL_law wsL_isWalk_r15 := goodIn_r _ [380, 381, 382, 383, 384, 385, 386, 387, 388, 389, 390, 391, 392, 393, 394, 395, 396, 397, 398, 399, 400, 401, 402, 403] (by decide +kernel) (by decide +kernel)
set_option maxRecDepth 20000 in
theorem wk_wsL_isWalk_r16 : GoodIn wsL_law wsL_isWalk_r16 := goodIn_r _ [404, 405, 406, 407, 408, 409, 410, 411, 412, 413, 414, 415, 416, 31, 417, 418, 419, 420, 421, 422, 423, 424, 47, 425] (by decide +kernel) (by decide +kernel)
set_option maxRecDepth 20000 in
theorem wk_wsL_isWalk_r17 : GoodIn wsL_law wsL_isWalk_r17 := goodIn_r _ [426, 427, 428, 429, 430, 431, 432, 433, 434, 435, 436, 41, 32, 437, 438, 439, 440, 36, 441, 442, 443, 444, 445, 446] (by decide +kernel) (by decide +kernel)
set_option maxRecDepth 20000 in
theorem wk_wsL_isWalk_r18 : GoodIn wsL_law wsL_isWalk_r18 := goodIn_r _ [447, 448, 449, 450, 451, 452, 453, 454, 455, 456, 457, 458, 459, 460, 461, 462, 463, 464, 465, 466, 467, 468, 469, 470] (by decide +kernel) (by decide +kernel)
set_option maxRecDepth 20000 in
theorem wk_wsL_isWalk_r19 : GoodIn wsL_law wsL_isWalk_r19 := goodIn_r _ [471, 472, 473, 474, 475, 476, 477, 478, 479, 480, 481, 482, 483, 484, 485, 486, 487, 488, 489, 490, 491, 35, 492, 78] (by decide +kernel) (by decide +kernel)
set_option maxRecDepth 20000 in
theorem wk_wsL_isWalk_r20 : GoodIn wsL_law wsL_isWalk_r20 := goodIn_r _ [77, 493, 494, 495, 496, 497, 498, 499, 500, 501, 502, 503, 504, 505, 506, 507, 508, 509, 510, 511, 512, 513, 514, 515] (by decide +kernel) (by decide +kernel)
set_option maxRecDepth 20000 in
theorem wk_wsL_isWalk_r21 : GoodIn wsL_law wsL_isWalk_r21 := goodIn_r _ [516, 517, 518, 519, 520, 521, 522, 523, 524, 525, 526, 527, 528, 529, 530, 531, 532, 533, 534, 535, 536, 537, 538, 539] (by decide +kernel) (by decide +kernel)
set_option maxRecDepth 20000 in
theorem wk_wsL_isWalk_r22 : GoodIn wsL_law wsL_isWalk_r22 := goodIn_r _ [540, 541, 542, 543, 544, 545, 546, 547, 548, 549, 550, 551, 552, 553, 554, 555, 556, 557, 558, 559, 560, 561, 562, 563] (by decide +kernel) (by decide +kernel)
set_option maxRecDepth 20000 in
theorem wk_wsL_isWalk_r23 : GoodIn wsL_law wsL_isWalk_r23 := goodIn_r _ [564, 565, 566, 567, 22, 568, 569, 570, 21, 571, 53, 572, 573, 574, 575, 52, 576, 577, 578, 579, 580, 581, 582, 583] (by decide +kernel) (by decide +kernel)
set_option maxRecDepth 20000 in
theorem wk_wsL_isWalk_r24 : GoodIn wsL_law wsL_isWalk_r24 := goodIn_r _ [584, 585, 48, 586, 587, 588, 589, 590, 591, 592, 593, 594, 595, 596, 597, 598, 599, 600, 601, 602, 603, 604, 605, 606] (by decide +kernel) (by decide +kernel)
