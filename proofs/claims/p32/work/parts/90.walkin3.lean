set_option maxRecDepth 20000 in
theorem wk_wsL_isWalk_r25 : GoodIn wsL_law wsL_isWalk_r25 := goodIn_r _ [607, 608, 609, 610, 611, 612, 613, 614, 615, 616, 617, 618, 619, 620, 621, 622, 623, 624, 625, 626, 627] (by decide +kernel) (by decide +kernel)
set_option maxRecDepth 20000 in
theorem wk_wsX80 : GoodIn wsL_law wsX80 := goodIn_sub (by decide +kernel) (by decide +kernel)
set_option maxRecDepth 20000 in
theorem wk_wsJx4a65c0 : GoodIn wsL_law wsJx4a65c0 := goodIn_sub (by decide +kernel) (by decide +kernel)
set_option maxRecDepth 20000 in
theorem wk_wsX40 : GoodIn wsL_law wsX40 := goodIn_sub (by decide +kernel) (by decide +kernel)
set_option maxRecDepth 20000 in
theorem wk_wsX20 : GoodIn wsL_law wsX20 := goodIn_sub (by decide +kernel) (by decide +kernel)
set_option maxRecDepth 20000 in
theorem wk_wsX10 : GoodIn wsL_law wsX10 := goodIn_sub (by decide +kernel) (by decide +kernel)
set_option maxRecDepth 20000 in
theorem wk_wsX30 : GoodIn wsL_law wsX30 := goodIn_sub (by decide +kernel) (by decide +kernel)
set_option maxRecDepth 20000 in
theorem wk_wsX50 : GoodIn wsL_law wsX50 := goodIn_sub (by decide +kernel) (by decide +kernel)
set_option maxRecDepth 20000 in
theorem wk_wsX60 : GoodIn wsL_law wsX60 := goodIn_sub (by decide +kernel) (by decide +kernel)
set_option maxRecDepth 20000 in
theorem wk_wsX00 : GoodIn wsL_law wsX00 := goodIn_sub (by decide +kernel) (by decide +kernel)
set_option maxRecDepth 20000 in
theorem wk_wsX70 : GoodIn wsL_law wsX70 := goodIn_sub (by decide +kernel) (by decide +kernel)
theorem wk_0 : GoodIn wsL_law [Cond.code yL_isWalk cL_isWalk 22 (some .boolean)] := goodIn_r _ [88] (by decide +kernel) (by decide +kernel)
set_option maxRecDepth 20000 in
theorem ggL_law_L_isWalk : GoodIn wsL_law wsL_isWalk := goodIn_ca (goodIn_ca (goodIn_ca (goodIn_ca (goodIn_ca (goodIn_ca (goodIn_ca (goodIn_ca (goodIn_ca (goodIn_ca (goodIn_ca (goodIn_ca (goodIn_ca (goodIn_ca (goodIn_app wk_0 (goodIn_app wk_wsL_isWalk_r1 (goodIn_app wk_wsL_isWalk_r2 (goodIn_app wk_wsL_isWalk_r3 (goodIn_app wk_wsL_isWalk_r4 (goodIn_app wk_wsL_isWalk_r5 (goodIn_app wk_wsL_isWalk_r6 (goodIn_app wk_wsL_isWalk_r7 (goodIn_app wk_wsL_isWalk_r8 (goodIn_app wk_wsL_isWalk_r9 (goodIn_app wk_wsL_isWalk_r10 (goodIn_app wk_wsL_isWalk_r11 (goodIn_app wk_wsL_isWalk_r12 (goodIn_app wk_wsL_isWalk_r13 (goodIn_app wk_wsL_isWalk_r14 (goodIn_app wk_wsL_isWalk_r15 (goodIn_app wk_wsL_isWalk_r16 (goodIn_app wk_wsL_isWalk_r17 (goodIn_app wk_wsL_isWalk_r18 (goodIn_app wk_wsL_isWalk_r19 (goodIn_app wk_wsL_isWalk_r20 (goodIn_app wk_wsL_isWalk_r21 (goodIn_app wk_wsL_isWalk_r22 (goodIn_app wk_wsL_isWalk_r23 (goodIn_app wk_wsL_isWalk_r24 (wk_wsL_isWalk_r25)))))))))))))))))))))))))) wk_wsX80) wk_wsJx4a65c0) wk_wsX40) wk_wsX20) wk_wsX10) wk_wsX30) wk_wsX50) wk_wsX60) wk_wsX00) wk_wsX70) (goodIn_sub (fun _ h => List.mem_append_left _ (List.mem_append_left _ (List.mem_append_left _ (List.mem_append_right _ h)))) (by decide +kernel))) (goodIn_sub (fun _ h => List.mem_append_left _ (List.mem_append_left _ (List.mem_append_right _ h))) (by decide +kernel))) (goodIn_sub (fun _ h => List.mem_append_left _ (List.mem_append_right _ h)) (by decide +kernel))) (goodIn_sub (fun _ h => List.mem_append_right _ h) (by decide +kernel))
set_option maxRecDepth 20000 in
theorem gL_law_L_isWalk : GoodIn wsL_law (va_wsS RL 146 yL_isWalk wsL_isWalk) := goodIn_app (goodIn_of _ (by decide +kernel)) ggL_law_L_isWalk
