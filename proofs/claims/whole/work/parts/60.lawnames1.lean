set_option maxRecDepth 20000 in
theorem ggL_setHeight_X8_setHeight : GoodIn wsL_setHeight wsX8_setHeight := goodIn_ca (goodIn_ca (goodIn_r _ [7, 8, 9, 10, 11, 12, 13, 14, 15, 6, 16, 17, 18, 19, 20, 21, 22, 23, 24, 25, 26, 27, 28, 29, 30, 31, 32, 33, 34, 35, 36, 37, 38, 39, 40, 41, 42, 43, 44, 45, 46, 47, 48, 49, 50, 51, 52, 53, 54, 55, 56, 57, 58, 59, 60, 61, 62, 63, 64, 65, 66, 67, 68, 69, 70, 71, 72, 73, 74, 75, 76, 77, 78, 79, 80, 81, 82, 83, 84, 85, 86, 87, 88, 89, 90, 91, 92, 93, 94, 95, 96, 97, 98, 99, 100, 101, 102, 103, 104, 105, 106, 107, 108, 109, 110, 111, 112, 113, 114, 115, 116, 117, 118, 119, 120, 121, 122, 123, 124, 125, 126, 127, 128, 129, 130, 131, 132, 133, 134, 135, 136, 137, 138, 139, 140, 141, 142, 143] (by decide +kernel) (by decide +kernel)) (goodIn_sub (fun _ h => List.mem_cons_of_mem _ (List.mem_append_left _ (List.mem_append_right _ h))) (by decide +kernel))) (goodIn_sub (fun _ h => List.mem_cons_of_mem _ (List.mem_append_right _ h)) (by decide +kernel))
set_option maxRecDepth 20000 in
theorem gL_setHeight_X8_setHeight : GoodIn wsL_setHeight (wsV RL 7 RX8 yX8_setHeight wsX8_setHeight) := goodIn_app (goodIn_of _ (by decide +kernel)) ggL_setHeight_X8_setHeight
theorem dL_setHeight_0 : decode cL_setHeight 0 = .ok (.aload_n 3, 1) := by decide +kernel
theorem dL_setHeight_1 : decode cL_setHeight 1 = .ok (.iconst 0, 1) := by decide +kernel
theorem dL_setHeight_2 : decode cL_setHeight 2 = .ok (.aload_n 0, 1) := by decide +kernel
theorem dL_setHeight_3 : decode cL_setHeight 3 = .ok (.iload_n 1, 1) := by decide +kernel
theorem dL_setHeight_4 : decode cL_setHeight 4 = .ok (.iload_n 2, 1) := by decide +kernel
theorem dL_setHeight_5 : decode cL_setHeight 5 = .ok (.invokevirtual 7, 3) := by decide +kernel
theorem dL_setHeight_8 : decode cL_setHeight 8 = .ok (.i2l, 1) := by decide +kernel
theorem dL_setHeight_9 : decode cL_setHeight 9 = .ok (.lastore, 1) := by decide +kernel
theorem dL_setHeight_10 : decode cL_setHeight 10 = .ok (.goto 11, 3) := by decide +kernel
theorem dL_setHeight_13 : decode cL_setHeight 13 = .ok (.astore 4, 2) := by decide +kernel
theorem dL_setHeight_15 : decode cL_setHeight 15 = .ok (.iconst 1, 1) := by decide +kernel
theorem dL_setHeight_16 : decode cL_setHeight 16 = .ok (.ireturn, 1) := by decide +kernel
theorem dL_setHeight_17 : decode cL_setHeight 17 = .ok (.astore 4, 2) := by decide +kernel
theorem dL_setHeight_19 : decode cL_setHeight 19 = .ok (.iconst 2, 1) := by decide +kernel
theorem dL_setHeight_20 : decode cL_setHeight 20 = .ok (.ireturn, 1) := by decide +kernel
theorem dL_setHeight_21 : decode cL_setHeight 21 = .ok (.iconst 0, 1) := by decide +kernel
theorem dL_setHeight_22 : decode cL_setHeight 22 = .ok (.ireturn, 1) := by decide +kernel
set_option maxRecDepth 20000 in
theorem ggL_close_X8_close : GoodIn wsL_close wsX8_close := goodIn_ca (goodIn_r _ [6, 7, 8, 9, 5, 10, 11, 12, 13, 14, 15, 16, 17, 18, 19, 20, 21, 22, 23, 24, 25, 26, 27, 28, 29, 30, 31, 32, 33, 34] (by decide +kernel) (by decide +kernel)) (goodIn_sub (fun _ h => List.mem_cons_of_mem _ (List.mem_append_right _ h)) (by decide +kernel))
set_option maxRecDepth 20000 in
theorem gL_close_X8_close : GoodIn wsL_close (wsV RL 17 RX8 yX8_close wsX8_close) := goodIn_app (goodIn_of _ (by decide +kernel)) ggL_close_X8_close
theorem dL_close_0 : decode cL_close 0 = .ok (.aload_n 2, 1) := by decide +kernel
theorem dL_close_1 : decode cL_close 1 = .ok (.iconst 0, 1) := by decide +kernel
theorem dL_close_2 : decode cL_close 2 = .ok (.aload_n 0, 1) := by decide +kernel
theorem dL_close_3 : decode cL_close 3 = .ok (.iload_n 1, 1) := by decide +kernel
theorem dL_close_4 : decode cL_close 4 = .ok (.invokevirtual 17, 3) := by decide +kernel
theorem dL_close_7 : decode cL_close 7 = .ok (.ifCond .eq 7, 3) := by decide +kernel
theorem dL_close_10 : decode cL_close 10 = .ok (.lconst 1, 1) := by decide +kernel
theorem dL_close_11 : decode cL_close 11 = .ok (.goto 4, 3) := by decide +kernel
theorem dL_close_14 : decode cL_close 14 = .ok (.lconst 0, 1) := by decide +kernel
theorem dL_close_15 : decode cL_close 15 = .ok (.lastore, 1) := by decide +kernel
theorem dL_close_16 : decode cL_close 16 = .ok (.goto 6, 3) := by decide +kernel
theorem dL_close_19 : decode cL_close 19 = .ok (.astore_n 3, 1) := by decide +kernel
theorem dL_close_20 : decode cL_close 20 = .ok (.iconst 1, 1) := by decide +kernel
theorem dL_close_21 : decode cL_close 21 = .ok (.ireturn, 1) := by decide +kernel
theorem dL_close_22 : decode cL_close 22 = .ok (.iconst 0, 1) := by decide +kernel
theorem dL_close_23 : decode cL_close 23 = .ok (.ireturn, 1) := by decide +kernel
set_option maxRecDepth 20000 in
theorem ggL_hint_X8_hint : GoodIn wsL_hint wsX8_hint := goodIn_ca (goodIn_ca (goodIn_ca (goodIn_r _ [8, 9, 10, 11, 12, 13, 14, 15, 16, 17, 18, 19, 7, 20, 21, 22, 23, 24, 25, 26, 27, 28, 29, 30, 31, 32, 33, 34, 35, 36, 37, 38, 39, 40, 41, 42, 43, 44, 45, 46, 47, 48, 49, 50, 51, 52, 53, 54, 55, 56, 57, 58, 59, 60, 61, 62, 63, 64, 65, 66, 67, 68, 69, 70, 71, 72, 73, 74, 75, 76, 77, 78, 79, 80, 81, 82, 83, 84, 85, 86, 87, 88, 89, 90, 91, 92, 93, 94, 95, 96, 97, 98, 99, 100, 101, 102, 103, 104, 105, 106, 107, 108, 109, 110, 111, 112, 113, 114, 115, 116, 117, 118, 119, 120, 121, 122, 123, 124, 125, 126, 127, 128, 129, 130, 131, 132, 133, 134, 135, 136, 137, 138, 139, 140, 141, 142, 143, 144, 145, 146, 147, 148, 149, 150, 151, 152, 153, 154, 155, 156, 157, 158, 159, 160, 161, 162, 163, 164, 165, 166, 167, 168, 169, 170, 171, 172, 173, 174, 175, 176, 177, 178, 179, 180, 181, 182, 183, 184, 185, 186, 187, 188, 189, 190, 191, 192, 193] (by decide +kernel) (by decide +kernel)) (goodIn_sub (fun _ h => List.mem_cons_of_mem _ (List.mem_append_left _ (List.mem_append_left _ (List.mem_append_right _ h)))) (by decide +kernel))) (goodIn_sub (fun _ h => List.mem_cons_of_mem _ (List.mem_append_left _ (List.mem_append_right _ h))) (by decide +kernel))) (goodIn_sub (fun _ h => List.mem_cons_of_mem _ (List.mem_append_right _ h)) (by decide +kernel))
set_option maxRecDepth 20000 in
theorem gL_hint_X8_hint : GoodIn wsL_hint (wsV RL 21 RX8 yX8_hint wsX8_hint) := goodIn_app (goodIn_of _ (by decide +kernel)) ggL_hint_X8_hint
theorem dL_hint_0 : decode cL_hint 0 = .ok (.aload 5, 2) := by decide +kernel
theorem dL_hint_2 : decode cL_hint 2 = .ok (.iconst 0, 1) := by decide +kernel
theorem dL_hint_3 : decode cL_hint 3 = .ok (.aload_n 0, 1) := by decide +kernel
theorem dL_hint_4 : decode cL_hint 4 = .ok (.iload_n 1, 1) := by decide +kernel
theorem dL_hint_5 : decode cL_hint 5 = .ok (.iload_n 2, 1) := by decide +kernel
theorem dL_hint_6 : decode cL_hint 6 = .ok (.iload_n 3, 1) := by decide +kernel
theorem dL_hint_7 : decode cL_hint 7 = .ok (.iload 4, 2) := by decide +kernel
theorem dL_hint_9 : decode cL_hint 9 = .ok (.invokevirtual 21, 3) := by decide +kernel
theorem dL_hint_12 : decode cL_hint 12 = .ok (.i2l, 1) := by decide +kernel
theorem dL_hint_13 : decode cL_hint 13 = .ok (.lastore, 1) := by decide +kernel
theorem dL_hint_14 : decode cL_hint 14 = .ok (.goto 15, 3) := by decide +kernel
theorem dL_hint_17 : decode cL_hint 17 = .ok (.astore 6, 2) := by decide +kernel
theorem dL_hint_19 : decode cL_hint 19 = .ok (.iconst 1, 1) := by decide +kernel
theorem dL_hint_20 : decode cL_hint 20 = .ok (.ireturn, 1) := by decide +kernel
theorem dL_hint_21 : decode cL_hint 21 = .ok (.astore 6, 2) := by decide +kernel
theorem dL_hint_23 : decode cL_hint 23 = .ok (.iconst 2, 1) := by decide +kernel
theorem dL_hint_24 : decode cL_hint 24 = .ok (.ireturn, 1) := by decide +kernel
theorem dL_hint_25 : decode cL_hint 25 = .ok (.astore 6, 2) := by decide +kernel
theorem dL_hint_27 : decode cL_hint 27 = .ok (.iconst 3, 1) := by decide +kernel
theorem dL_hint_28 : decode cL_hint 28 = .ok (.ireturn, 1) := by decide +kernel
theorem dL_hint_29 : decode cL_hint 29 = .ok (.iconst 0, 1) := by decide +kernel
theorem dL_hint_30 : decode cL_hint 30 = .ok (.ireturn, 1) := by decide +kernel
set_option maxRecDepth 20000 in
theorem ggL_stage_X8_stage : GoodIn wsL_stage wsX8_stage := goodIn_ca (goodIn_r _ [6, 7, 8, 9, 10, 11, 12, 13, 14, 15, 16, 17, 18, 19, 20, 21, 22, 23, 24, 25, 26, 27, 28, 29, 30, 31, 32, 33, 34, 35, 36, 37, 38, 39, 40, 41, 42, 43, 44, 45, 46, 47, 48, 49, 50, 51, 52, 53, 54, 55, 56, 57, 58, 59, 60, 61, 62, 5, 63, 64, 65, 66, 67, 68, 69, 70, 71, 72, 73, 74, 75, 76, 77, 78, 79, 80, 81, 82, 83, 84, 85, 86, 87, 88, 89, 90, 91, 92, 93, 94, 95, 96, 97, 98, 99, 100, 101, 102, 103, 104, 105, 106, 107, 108, 109, 110, 111, 112, 113, 114, 115, 116, 117, 118, 119, 120, 121, 122, 123, 124, 125, 126, 127, 128, 129, 130, 131, 132, 133, 134, 135, 136, 137, 138, 139, 140, 141, 142, 143, 144, 145, 146, 147, 148, 149, 150, 151, 152, 153, 154, 155, 156, 157, 158, 159, 160, 161, 162, 163, 164, 165, 166, 167, 168, 169, 170, 171, 172, 173, 174, 175, 176, 177, 178, 179, 180, 181, 182, 183, 184, 185, 186, 187, 188, 189, 190, 191, 192, 193, 194, 195, 196, 197, 198, 199, 200, 201] (by decide +kernel) (by decide +kernel)) (goodIn_sub (fun _ h => List.mem_cons_of_mem _ (List.mem_append_right _ h)) (by decide +kernel))
set_option maxRecDepth 20000 in
theorem gL_stage_X8_stage : GoodIn wsL_stage (wsV RL 27 RX8 yX8_stage wsX8_stage) := goodIn_app (goodIn_of _ (by decide +kernel)) ggL_stage_X8_stage
theorem dL_stage_0 : decode cL_stage 0 = .ok (.aload_n 1, 1) := by decide +kernel
theorem dL_stage_1 : decode cL_stage 1 = .ok (.iconst 0, 1) := by decide +kernel
theorem dL_stage_2 : decode cL_stage 2 = .ok (.aload_n 0, 1) := by decide +kernel
theorem dL_stage_3 : decode cL_stage 3 = .ok (.invokevirtual 27, 3) := by decide +kernel
theorem dL_stage_6 : decode cL_stage 6 = .ok (.i2l, 1) := by decide +kernel
theorem dL_stage_7 : decode cL_stage 7 = .ok (.lastore, 1) := by decide +kernel
theorem dL_stage_8 : decode cL_stage 8 = .ok (.goto 6, 3) := by decide +kernel
theorem dL_stage_11 : decode cL_stage 11 = .ok (.astore_n 2, 1) := by decide +kernel
theorem dL_stage_12 : decode cL_stage 12 = .ok (.iconst 1, 1) := by decide +kernel
theorem dL_stage_13 : decode cL_stage 13 = .ok (.ireturn, 1) := by decide +kernel
theorem dL_stage_14 : decode cL_stage 14 = .ok (.iconst 0, 1) := by decide +kernel
theorem dL_stage_15 : decode cL_stage 15 = .ok (.ireturn, 1) := by decide +kernel
set_option maxRecDepth 20000 in
theorem ggL_fits_X8_fits : GoodIn wsL_fits wsX8_fits := goodIn_ca (goodIn_r _ [6, 7, 8, 9, 5, 10, 11, 12, 13, 14, 15, 16, 17, 18, 19, 20, 21, 22, 23, 24, 25, 26, 27, 28, 29, 30, 31, 32, 33, 34, 35, 36, 37, 38, 39, 40, 41, 42, 43, 44, 45, 46, 47, 48, 49, 50, 51, 52, 53, 54, 55, 56, 57, 58, 59, 60, 61, 62, 63, 64, 65, 66, 67, 68, 69, 70, 71, 72, 73, 74, 75, 76, 77, 78, 79, 80, 81, 82, 83, 84, 85, 86, 87, 88, 89, 90, 91, 92, 93] (by decide +kernel) (by decide +kernel)) (goodIn_sub (fun _ h => List.mem_cons_of_mem _ (List.mem_append_right _ h)) (by decide +kernel))
set_option maxRecDepth 20000 in
theorem gL_fits_X8_fits : GoodIn wsL_fits (wsV RL 31 RX8 yX8_fits wsX8_fits) := goodIn_app (goodIn_of _ (by decide +kernel)) ggL_fits_X8_fits
theorem dL_fits_0 : decode cL_fits 0 = .ok (.aload_n 2, 1) := by decide +kernel
theorem dL_fits_1 : decode cL_fits 1 = .ok (.iconst 0, 1) := by decide +kernel
theorem dL_fits_2 : decode cL_fits 2 = .ok (.aload_n 0, 1) := by decide +kernel
theorem dL_fits_3 : decode cL_fits 3 = .ok (.iload_n 1, 1) := by decide +kernel
theorem dL_fits_4 : decode cL_fits 4 = .ok (.invokevirtual 31, 3) := by decide +kernel
theorem dL_fits_7 : decode cL_fits 7 = .ok (.i2l, 1) := by decide +kernel
theorem dL_fits_8 : decode cL_fits 8 = .ok (.lastore, 1) := by decide +kernel
theorem dL_fits_9 : decode cL_fits 9 = .ok (.goto 6, 3) := by decide +kernel
theorem dL_fits_12 : decode cL_fits 12 = .ok (.astore_n 3, 1) := by decide +kernel
theorem dL_fits_13 : decode cL_fits 13 = .ok (.iconst 1, 1) := by decide +kernel
theorem dL_fits_14 : decode cL_fits 14 = .ok (.ireturn, 1) := by decide +kernel
theorem dL_fits_15 : decode cL_fits 15 = .ok (.iconst 0, 1) := by decide +kernel
theorem dL_fits_16 : decode cL_fits 16 = .ok (.ireturn, 1) := by decide +kernel
set_option maxRecDepth 20000 in
theorem ggL_placeOf_X8_placeOf : GoodIn wsL_placeOf wsX8_placeOf := goodIn_ca (goodIn_r _ [6, 7, 8, 9, 5, 10, 11, 12, 13, 14, 15, 16, 17, 18, 19, 20, 21, 22, 23, 24, 25, 26, 27, 28, 29, 30, 31, 32, 33, 34, 35, 36, 37, 38, 39, 40, 41, 42, 43, 44, 45, 46, 47, 48, 49, 50, 51, 52, 53, 54, 55, 56, 57, 58, 59, 60] (by decide +kernel) (by decide +kernel)) (goodIn_sub (fun _ h => List.mem_cons_of_mem _ (List.mem_append_right _ h)) (by decide +kernel))
set_option maxRecDepth 20000 in
theorem gL_placeOf_X8_placeOf : GoodIn wsL_placeOf (wsV RL 35 RX8 yX8_placeOf wsX8_placeOf) := goodIn_app (goodIn_of _ (by decide +kernel)) ggL_placeOf_X8_placeOf
theorem dL_placeOf_0 : decode cL_placeOf 0 = .ok (.aload_n 2, 1) := by decide +kernel
theorem dL_placeOf_1 : decode cL_placeOf 1 = .ok (.iconst 0, 1) := by decide +kernel
theorem dL_placeOf_2 : decode cL_placeOf 2 = .ok (.aload_n 0, 1) := by decide +kernel
theorem dL_placeOf_3 : decode cL_placeOf 3 = .ok (.iload_n 1, 1) := by decide +kernel
theorem dL_placeOf_4 : decode cL_placeOf 4 = .ok (.invokevirtual 35, 3) := by decide +kernel
theorem dL_placeOf_7 : decode cL_placeOf 7 = .ok (.i2l, 1) := by decide +kernel
theorem dL_placeOf_8 : decode cL_placeOf 8 = .ok (.lastore, 1) := by decide +kernel
theorem dL_placeOf_9 : decode cL_placeOf 9 = .ok (.goto 6, 3) := by decide +kernel
theorem dL_placeOf_12 : decode cL_placeOf 12 = .ok (.astore_n 3, 1) := by decide +kernel
theorem dL_placeOf_13 : decode cL_placeOf 13 = .ok (.iconst 1, 1) := by decide +kernel
theorem dL_placeOf_14 : decode cL_placeOf 14 = .ok (.ireturn, 1) := by decide +kernel
theorem dL_placeOf_15 : decode cL_placeOf 15 = .ok (.iconst 0, 1) := by decide +kernel
theorem dL_placeOf_16 : decode cL_placeOf 16 = .ok (.ireturn, 1) := by decide +kernel
set_option maxRecDepth 20000 in
theorem ggL_placeByAll_X8_placeByAll : GoodIn wsL_placeByAll wsX8_placeByAll := goodIn_ca (goodIn_r _ [6, 7, 8, 9, 10, 5, 11, 12, 13, 14, 15, 16, 17, 18, 19, 20, 21, 22, 23, 24, 25, 26, 27, 28, 29, 30, 31, 32, 33, 34, 35, 36, 37, 38, 39, 40, 41, 42, 43, 44, 45, 46, 47, 48, 49, 50, 51, 52, 53, 54, 55, 56, 57, 58, 59, 60, 61, 62, 63, 64, 65, 66, 67, 68, 69, 70, 71, 72, 73, 74, 75, 76, 77, 78, 79, 80, 81, 82, 83, 84, 85, 86, 87, 88, 89, 90, 91, 92, 93, 94, 95, 96, 97, 98, 99, 100, 101, 102, 103, 104, 105, 106, 107, 108, 109, 110, 111, 112] (by decide +kernel) (by decide +kernel)) (goodIn_sub (fun _ h => List.mem_cons_of_mem _ (List.mem_append_right _ h)) (by decide +kernel))
set_option maxRecDepth 20000 in
theorem gL_placeByAll_X8_placeByAll : GoodIn wsL_placeByAll (wsV RL 38 RX8 yX8_placeByAll wsX8_placeByAll) := goodIn_app (goodIn_of _ (by decide +kernel)) ggL_placeByAll_X8_placeByAll
theorem dL_placeByAll_0 : decode cL_placeByAll 0 = .ok (.aload_n 2, 1) := by decide +kernel
theorem dL_placeByAll_1 : decode cL_placeByAll 1 = .ok (.iconst 0, 1) := by decide +kernel
theorem dL_placeByAll_2 : decode cL_placeByAll 2 = .ok (.aload_n 0, 1) := by decide +kernel
theorem dL_placeByAll_3 : decode cL_placeByAll 3 = .ok (.iload_n 1, 1) := by decide +kernel
theorem dL_placeByAll_4 : decode cL_placeByAll 4 = .ok (.invokevirtual 38, 3) := by decide +kernel
theorem dL_placeByAll_7 : decode cL_placeByAll 7 = .ok (.i2l, 1) := by decide +kernel
theorem dL_placeByAll_8 : decode cL_placeByAll 8 = .ok (.lastore, 1) := by decide +kernel
theorem dL_placeByAll_9 : decode cL_placeByAll 9 = .ok (.goto 6, 3) := by decide +kernel
theorem dL_placeByAll_12 : decode cL_placeByAll 12 = .ok (.astore_n 3, 1) := by decide +kernel
theorem dL_placeByAll_13 : decode cL_placeByAll 13 = .ok (.iconst 1, 1) := by decide +kernel
theorem dL_placeByAll_14 : decode cL_placeByAll 14 = .ok (.ireturn, 1) := by decide +kernel
theorem dL_placeByAll_15 : decode cL_placeByAll 15 = .ok (.iconst 0, 1) := by decide +kernel
theorem dL_placeByAll_16 : decode cL_placeByAll 16 = .ok (.ireturn, 1) := by decide +kernel
set_option maxRecDepth 20000 in
theorem ggL_moves_X8_moves : GoodIn wsL_moves wsX8_moves := goodIn_ca (goodIn_r _ [6, 7, 8, 9, 5, 10, 11, 12, 13, 14, 15, 16, 17, 18, 19, 20, 21, 22, 23, 24, 25, 26, 27, 28, 29, 30, 31, 32, 33, 34, 35, 36, 37, 38, 39, 40, 41, 42, 43, 44, 45, 46, 47, 48, 49, 50, 51, 52, 53, 54, 55, 56, 57, 58, 59, 60] (by decide +kernel) (by decide +kernel)) (goodIn_sub (fun _ h => List.mem_cons_of_mem _ (List.mem_append_right _ h)) (by decide +kernel))
set_option maxRecDepth 20000 in
theorem gL_moves_X8_moves : GoodIn wsL_moves (wsV RL 41 RX8 yX8_moves wsX8_moves) := goodIn_app (goodIn_of _ (by decide +kernel)) ggL_moves_X8_moves
theorem dL_moves_0 : decode cL_moves 0 = .ok (.aload_n 2, 1) := by decide +kernel
theorem dL_moves_1 : decode cL_moves 1 = .ok (.iconst 0, 1) := by decide +kernel
theorem dL_moves_2 : decode cL_moves 2 = .ok (.aload_n 0, 1) := by decide +kernel
theorem dL_moves_3 : decode cL_moves 3 = .ok (.iload_n 1, 1) := by decide +kernel
theorem dL_moves_4 : decode cL_moves 4 = .ok (.invokevirtual 41, 3) := by decide +kernel
theorem dL_moves_7 : decode cL_moves 7 = .ok (.i2l, 1) := by decide +kernel
theorem dL_moves_8 : decode cL_moves 8 = .ok (.lastore, 1) := by decide +kernel
theorem dL_moves_9 : decode cL_moves 9 = .ok (.goto 6, 3) := by decide +kernel
theorem dL_moves_12 : decode cL_moves 12 = .ok (.astore_n 3, 1) := by decide +kernel
theorem dL_moves_13 : decode cL_moves 13 = .ok (.iconst 1, 1) := by decide +kernel
theorem dL_moves_14 : decode cL_moves 14 = .ok (.ireturn, 1) := by decide +kernel
theorem dL_moves_15 : decode cL_moves 15 = .ok (.iconst 0, 1) := by decide +kernel
theorem dL_moves_16 : decode cL_moves 16 = .ok (.ireturn, 1) := by decide +kernel
set_option maxRecDepth 20000 in
theorem ggL_spell_X8_spell : GoodIn wsL_spell wsX8_spell := goodIn_ca (goodIn_ca (goodIn_r _ [7, 8, 9, 10, 11, 12, 13, 14, 15, 16, 17, 18, 19, 20, 21, 22, 23, 24, 25, 26, 27, 28, 29, 30, 31, 32, 6, 33, 34, 35, 36, 37, 38, 39, 40, 41, 42, 43, 44, 45] (by decide +kernel) (by decide +kernel)) (goodIn_sub (fun _ h => List.mem_cons_of_mem _ (List.mem_append_left _ (List.mem_append_right _ h))) (by decide +kernel))) (goodIn_sub (fun _ h => List.mem_cons_of_mem _ (List.mem_append_right _ h)) (by decide +kernel))
set_option maxRecDepth 20000 in
theorem gL_spell_X8_spell : GoodIn wsL_spell (wsV RL 44 RX8 yX8_spell wsX8_spell) := goodIn_app (goodIn_of _ (by decide +kernel)) ggL_spell_X8_spell
theorem dL_spell_0 : decode cL_spell 0 = .ok (.aload_n 2, 1) := by decide +kernel
theorem dL_spell_1 : decode cL_spell 1 = .ok (.iconst 0, 1) := by decide +kernel
theorem dL_spell_2 : decode cL_spell 2 = .ok (.aload_n 0, 1) := by decide +kernel
theorem dL_spell_3 : decode cL_spell 3 = .ok (.iload_n 1, 1) := by decide +kernel
theorem dL_spell_4 : decode cL_spell 4 = .ok (.invokevirtual 44, 3) := by decide +kernel
theorem dL_spell_7 : decode cL_spell 7 = .ok (.i2l, 1) := by decide +kernel
theorem dL_spell_8 : decode cL_spell 8 = .ok (.lastore, 1) := by decide +kernel
theorem dL_spell_9 : decode cL_spell 9 = .ok (.goto 9, 3) := by decide +kernel
theorem dL_spell_12 : decode cL_spell 12 = .ok (.astore_n 3, 1) := by decide +kernel
theorem dL_spell_13 : decode cL_spell 13 = .ok (.iconst 1, 1) := by decide +kernel
theorem dL_spell_14 : decode cL_spell 14 = .ok (.ireturn, 1) := by decide +kernel
theorem dL_spell_15 : decode cL_spell 15 = .ok (.astore_n 3, 1) := by decide +kernel
theorem dL_spell_16 : decode cL_spell 16 = .ok (.iconst 2, 1) := by decide +kernel
theorem dL_spell_17 : decode cL_spell 17 = .ok (.ireturn, 1) := by decide +kernel
theorem dL_spell_18 : decode cL_spell 18 = .ok (.iconst 0, 1) := by decide +kernel
theorem dL_spell_19 : decode cL_spell 19 = .ok (.ireturn, 1) := by decide +kernel
set_option maxRecDepth 20000 in
theorem ggL_cipherLength_X8_cipherLength : GoodIn wsL_cipherLength wsX8_cipherLength := goodIn_ca (goodIn_ca (goodIn_r _ [7, 8, 9, 10, 11, 12, 6, 13, 14, 15, 16, 17, 18, 19, 20, 21, 22, 23, 24, 25, 26, 27, 28, 29, 30, 31, 32, 33, 34, 35, 36, 37, 38, 39, 40, 41, 42, 43, 44, 45, 46, 47, 48, 49, 50, 51, 52, 53, 54, 55, 56, 57, 58, 59, 60, 61, 62, 63, 64, 65, 66, 67, 68, 69, 70, 71, 72, 73, 74, 75, 76, 77, 78, 79, 80, 81, 82, 83, 84, 85, 86, 87, 88, 89, 90, 91, 92, 93] (by decide +kernel) (by decide +kernel)) (goodIn_sub (fun _ h => List.mem_cons_of_mem _ (List.mem_append_left _ (List.mem_append_right _ h))) (by decide +kernel))) (goodIn_sub (fun _ h => List.mem_cons_of_mem _ (List.mem_append_right _ h)) (by decide +kernel))
set_option maxRecDepth 20000 in
theorem gL_cipherLength_X8_cipherLength : GoodIn wsL_cipherLength (wsV RL 47 RX8 yX8_cipherLength wsX8_cipherLength) := goodIn_app (goodIn_of _ (by decide +kernel)) ggL_cipherLength_X8_cipherLength
theorem dL_cipherLength_0 : decode cL_cipherLength 0 = .ok (.aload_n 2, 1) := by decide +kernel
theorem dL_cipherLength_1 : decode cL_cipherLength 1 = .ok (.iconst 0, 1) := by decide +kernel
theorem dL_cipherLength_2 : decode cL_cipherLength 2 = .ok (.aload_n 0, 1) := by decide +kernel
theorem dL_cipherLength_3 : decode cL_cipherLength 3 = .ok (.iload_n 1, 1) := by decide +kernel
theorem dL_cipherLength_4 : decode cL_cipherLength 4 = .ok (.invokevirtual 47, 3) := by decide +kernel
theorem dL_cipherLength_7 : decode cL_cipherLength 7 = .ok (.i2l, 1) := by decide +kernel
theorem dL_cipherLength_8 : decode cL_cipherLength 8 = .ok (.lastore, 1) := by decide +kernel
theorem dL_cipherLength_9 : decode cL_cipherLength 9 = .ok (.goto 9, 3) := by decide +kernel
theorem dL_cipherLength_12 : decode cL_cipherLength 12 = .ok (.astore_n 3, 1) := by decide +kernel
theorem dL_cipherLength_13 : decode cL_cipherLength 13 = .ok (.iconst 1, 1) := by decide +kernel
theorem dL_cipherLength_14 : decode cL_cipherLength 14 = .ok (.ireturn, 1) := by decide +kernel
theorem dL_cipherLength_15 : decode cL_cipherLength 15 = .ok (.astore_n 3, 1) := by decide +kernel
theorem dL_cipherLength_16 : decode cL_cipherLength 16 = .ok (.iconst 2, 1) := by decide +kernel
theorem dL_cipherLength_17 : decode cL_cipherLength 17 = .ok (.ireturn, 1) := by decide +kernel
theorem dL_cipherLength_18 : decode cL_cipherLength 18 = .ok (.iconst 0, 1) := by decide +kernel
theorem dL_cipherLength_19 : decode cL_cipherLength 19 = .ok (.ireturn, 1) := by decide +kernel
set_option maxRecDepth 20000 in
theorem ggL_cipherAt_X8_cipherAt : GoodIn wsL_cipherAt wsX8_cipherAt := goodIn_ca (goodIn_ca (goodIn_r _ [7, 8, 9, 10, 11, 12, 6, 13, 14, 15, 16, 17, 18, 19, 20, 21, 22, 23, 24, 25, 26, 27, 28, 29, 30, 31, 32, 33, 34, 35, 36, 37, 38, 39, 40, 41, 42, 43, 44, 45, 46, 47, 48, 49, 50, 51, 52, 53, 54, 55, 56, 57, 58, 59, 60, 61, 62, 63, 64, 65, 66, 67, 68, 69, 70, 71, 72, 73, 74, 75, 76, 77, 78, 79, 80, 81, 82, 83, 84, 85, 86, 87, 88, 89, 90, 91, 92, 93, 94, 95, 96, 97, 98] (by decide +kernel) (by decide +kernel)) (goodIn_sub (fun _ h => List.mem_cons_of_mem _ (List.mem_append_left _ (List.mem_append_right _ h))) (by decide +kernel))) (goodIn_sub (fun _ h => List.mem_cons_of_mem _ (List.mem_append_right _ h)) (by decide +kernel))
set_option maxRecDepth 20000 in
theorem gL_cipherAt_X8_cipherAt : GoodIn wsL_cipherAt (wsV RL 52 RX8 yX8_cipherAt wsX8_cipherAt) := goodIn_app (goodIn_of _ (by decide +kernel)) ggL_cipherAt_X8_cipherAt
theorem dL_cipherAt_0 : decode cL_cipherAt 0 = .ok (.aload_n 3, 1) := by decide +kernel
theorem dL_cipherAt_1 : decode cL_cipherAt 1 = .ok (.iconst 0, 1) := by decide +kernel
theorem dL_cipherAt_2 : decode cL_cipherAt 2 = .ok (.aload_n 0, 1) := by decide +kernel
theorem dL_cipherAt_3 : decode cL_cipherAt 3 = .ok (.iload_n 1, 1) := by decide +kernel
theorem dL_cipherAt_4 : decode cL_cipherAt 4 = .ok (.iload_n 2, 1) := by decide +kernel
theorem dL_cipherAt_5 : decode cL_cipherAt 5 = .ok (.invokevirtual 52, 3) := by decide +kernel
theorem dL_cipherAt_8 : decode cL_cipherAt 8 = .ok (.i2l, 1) := by decide +kernel
theorem dL_cipherAt_9 : decode cL_cipherAt 9 = .ok (.lastore, 1) := by decide +kernel
theorem dL_cipherAt_10 : decode cL_cipherAt 10 = .ok (.goto 11, 3) := by decide +kernel
theorem dL_cipherAt_13 : decode cL_cipherAt 13 = .ok (.astore 4, 2) := by decide +kernel
theorem dL_cipherAt_15 : decode cL_cipherAt 15 = .ok (.iconst 1, 1) := by decide +kernel
theorem dL_cipherAt_16 : decode cL_cipherAt 16 = .ok (.ireturn, 1) := by decide +kernel
theorem dL_cipherAt_17 : decode cL_cipherAt 17 = .ok (.astore 4, 2) := by decide +kernel
theorem dL_cipherAt_19 : decode cL_cipherAt 19 = .ok (.iconst 2, 1) := by decide +kernel
theorem dL_cipherAt_20 : decode cL_cipherAt 20 = .ok (.ireturn, 1) := by decide +kernel
theorem dL_cipherAt_21 : decode cL_cipherAt 21 = .ok (.iconst 0, 1) := by decide +kernel
theorem dL_cipherAt_22 : decode cL_cipherAt 22 = .ok (.ireturn, 1) := by decide +kernel
set_option maxRecDepth 20000 in
theorem ggL_pass_X8_pass : GoodIn wsL_pass wsX8_pass := goodIn_ca (goodIn_ca (goodIn_r _ [7, 8, 9, 10, 11, 12, 13, 14, 15, 16, 17, 18, 19, 20, 21, 22, 23, 24, 25, 26, 27, 28, 29, 30, 31, 32, 33, 34, 35, 36, 37, 38, 39, 40, 6, 41, 42, 43, 44, 45, 46, 47, 48, 49, 50, 51, 52, 53, 54, 55, 56, 57, 58, 59, 60, 61, 62, 63, 64, 65, 66, 67, 68, 69, 70, 71, 72, 73, 74, 75, 76, 77, 78, 79, 80, 81, 82, 83, 84, 85, 86, 87, 88, 89, 90, 91, 92, 93, 94, 95, 96, 97, 98, 99, 100, 101, 102, 103, 104, 105, 106, 107, 108, 109, 110, 111, 112, 113, 114, 115, 116, 117, 118, 119, 120, 121, 122, 123, 124, 125, 126, 127, 128, 129, 130, 131, 132, 133, 134, 135, 136, 137, 138, 139, 140, 141, 142, 143, 144, 145, 146, 147, 148, 149, 150, 151, 152, 153, 154, 155, 156, 157, 158, 159, 160, 161, 162, 163, 164, 165, 166, 167, 168, 169, 170, 171, 172, 173, 174, 175, 176] (by decide +kernel) (by decide +kernel)) (goodIn_sub (fun _ h => List.mem_cons_of_mem _ (List.mem_append_left _ (List.mem_append_right _ h))) (by decide +kernel))) (goodIn_sub (fun _ h => List.mem_cons_of_mem _ (List.mem_append_right _ h)) (by decide +kernel))
set_option maxRecDepth 20000 in
theorem gL_pass_X8_pass : GoodIn wsL_pass (wsV RL 56 RX8 yX8_pass wsX8_pass) := goodIn_app (goodIn_of _ (by decide +kernel)) ggL_pass_X8_pass
theorem dL_pass_0 : decode cL_pass 0 = .ok (.aload_n 2, 1) := by decide +kernel
theorem dL_pass_1 : decode cL_pass 1 = .ok (.iconst 0, 1) := by decide +kernel
theorem dL_pass_2 : decode cL_pass 2 = .ok (.aload_n 0, 1) := by decide +kernel
theorem dL_pass_3 : decode cL_pass 3 = .ok (.iload_n 1, 1) := by decide +kernel
theorem dL_pass_4 : decode cL_pass 4 = .ok (.invokevirtual 56, 3) := by decide +kernel
theorem dL_pass_7 : decode cL_pass 7 = .ok (.i2l, 1) := by decide +kernel
theorem dL_pass_8 : decode cL_pass 8 = .ok (.lastore, 1) := by decide +kernel
theorem dL_pass_9 : decode cL_pass 9 = .ok (.goto 9, 3) := by decide +kernel
theorem dL_pass_12 : decode cL_pass 12 = .ok (.astore_n 3, 1) := by decide +kernel
theorem dL_pass_13 : decode cL_pass 13 = .ok (.iconst 1, 1) := by decide +kernel
theorem dL_pass_14 : decode cL_pass 14 = .ok (.ireturn, 1) := by decide +kernel
theorem dL_pass_15 : decode cL_pass 15 = .ok (.astore_n 3, 1) := by decide +kernel
theorem dL_pass_16 : decode cL_pass 16 = .ok (.iconst 2, 1) := by decide +kernel
theorem dL_pass_17 : decode cL_pass 17 = .ok (.ireturn, 1) := by decide +kernel
theorem dL_pass_18 : decode cL_pass 18 = .ok (.iconst 0, 1) := by decide +kernel
theorem dL_pass_19 : decode cL_pass 19 = .ok (.ireturn, 1) := by decide +kernel
set_option maxRecDepth 20000 in
theorem ggL_addWalker_X8_addWalker : GoodIn wsL_addWalker wsX8_addWalker := goodIn_ca (goodIn_ca (goodIn_ca (goodIn_r _ [8, 9, 10, 11, 12, 13, 14, 15, 16, 17, 18, 7, 19, 20, 21, 22, 23, 24, 25, 26, 27, 28, 29, 30, 31, 32, 33, 34, 35, 36, 37, 38, 39, 40, 41, 42, 43, 44, 45, 46, 47, 48, 49, 50, 51, 52, 53, 54, 55, 56, 57, 58, 59, 60, 61, 62, 63, 64, 65, 66, 67, 68, 69, 70, 71, 72, 73, 74, 75, 76, 77, 78, 79, 80, 81, 82, 83, 84, 85, 86, 87, 88, 89, 90, 91, 92, 93, 94, 95, 96, 97, 98, 99, 100, 101, 102, 103, 104, 105, 106, 107, 108, 109, 110, 111, 112, 113, 114, 115, 116, 117, 118, 119, 120, 121, 122, 123, 124] (by decide +kernel) (by decide +kernel)) (goodIn_sub (fun _ h => List.mem_cons_of_mem _ (List.mem_append_left _ (List.mem_append_left _ (List.mem_append_right _ h)))) (by decide +kernel))) (goodIn_sub (fun _ h => List.mem_cons_of_mem _ (List.mem_append_left _ (List.mem_append_right _ h))) (by decide +kernel))) (goodIn_sub (fun _ h => List.mem_cons_of_mem _ (List.mem_append_right _ h)) (by decide +kernel))
set_option maxRecDepth 20000 in
theorem gL_addWalker_X8_addWalker : GoodIn wsL_addWalker (wsV RL 59 RX8 yX8_addWalker wsX8_addWalker) := goodIn_app (goodIn_of _ (by decide +kernel)) ggL_addWalker_X8_addWalker
theorem dL_addWalker_0 : decode cL_addWalker 0 = .ok (.aload_n 3, 1) := by decide +kernel
theorem dL_addWalker_1 : decode cL_addWalker 1 = .ok (.iconst 0, 1) := by decide +kernel
theorem dL_addWalker_2 : decode cL_addWalker 2 = .ok (.aload_n 0, 1) := by decide +kernel
theorem dL_addWalker_3 : decode cL_addWalker 3 = .ok (.iload_n 1, 1) := by decide +kernel
theorem dL_addWalker_4 : decode cL_addWalker 4 = .ok (.iload_n 2, 1) := by decide +kernel
theorem dL_addWalker_5 : decode cL_addWalker 5 = .ok (.invokevirtual 59, 3) := by decide +kernel
theorem dL_addWalker_8 : decode cL_addWalker 8 = .ok (.i2l, 1) := by decide +kernel
theorem dL_addWalker_9 : decode cL_addWalker 9 = .ok (.lastore, 1) := by decide +kernel
theorem dL_addWalker_10 : decode cL_addWalker 10 = .ok (.goto 15, 3) := by decide +kernel
theorem dL_addWalker_13 : decode cL_addWalker 13 = .ok (.astore 4, 2) := by decide +kernel
theorem dL_addWalker_15 : decode cL_addWalker 15 = .ok (.iconst 1, 1) := by decide +kernel
theorem dL_addWalker_16 : decode cL_addWalker 16 = .ok (.ireturn, 1) := by decide +kernel
theorem dL_addWalker_17 : decode cL_addWalker 17 = .ok (.astore 4, 2) := by decide +kernel
theorem dL_addWalker_19 : decode cL_addWalker 19 = .ok (.iconst 2, 1) := by decide +kernel
theorem dL_addWalker_20 : decode cL_addWalker 20 = .ok (.ireturn, 1) := by decide +kernel
theorem dL_addWalker_21 : decode cL_addWalker 21 = .ok (.astore 4, 2) := by decide +kernel
theorem dL_addWalker_23 : decode cL_addWalker 23 = .ok (.iconst 3, 1) := by decide +kernel
theorem dL_addWalker_24 : decode cL_addWalker 24 = .ok (.ireturn, 1) := by decide +kernel
theorem dL_addWalker_25 : decode cL_addWalker 25 = .ok (.iconst 0, 1) := by decide +kernel
theorem dL_addWalker_26 : decode cL_addWalker 26 = .ok (.ireturn, 1) := by decide +kernel
set_option maxRecDepth 20000 in
theorem ggL_send_X8_send : GoodIn wsL_send wsX8_send := goodIn_ca (goodIn_r _ [6, 7, 8, 9, 10, 11, 5, 12, 13, 14, 15, 16, 17, 18, 19, 20, 21, 22, 23, 24, 25, 26, 27, 28, 29, 30, 31, 32, 33, 34, 35, 36, 37, 38, 39, 40, 41, 42, 43, 44, 45, 46, 47, 48, 49, 50, 51, 52, 53, 54, 55, 56, 57, 58, 59, 60, 61, 62, 63, 64, 65, 66, 67, 68, 69, 70, 71, 72, 73, 74, 75, 76, 77, 78, 79, 80, 81, 82, 83, 84, 85, 86, 87, 88, 89, 90, 91, 92, 93, 94, 95, 96, 97, 98, 99, 100, 101, 102, 103, 104, 105, 106, 107, 108, 109, 110, 111, 112, 113, 114, 115, 116, 117, 118, 119, 120, 121, 122, 123, 124, 125, 126, 127, 128, 129, 130, 131, 132, 133, 134, 135, 136, 137, 138, 139, 140, 141, 142, 143, 144, 145, 146, 147, 148, 149, 150, 151, 152] (by decide +kernel) (by decide +kernel)) (goodIn_sub (fun _ h => List.mem_cons_of_mem _ (List.mem_append_right _ h)) (by decide +kernel))
set_option maxRecDepth 20000 in
theorem gL_send_X8_send : GoodIn wsL_send (wsV RL 62 RX8 yX8_send wsX8_send) := goodIn_app (goodIn_of _ (by decide +kernel)) ggL_send_X8_send
theorem dL_send_0 : decode cL_send 0 = .ok (.aload_n 3, 1) := by decide +kernel
theorem dL_send_1 : decode cL_send 1 = .ok (.iconst 0, 1) := by decide +kernel
theorem dL_send_2 : decode cL_send 2 = .ok (.aload_n 0, 1) := by decide +kernel
theorem dL_send_3 : decode cL_send 3 = .ok (.iload_n 1, 1) := by decide +kernel
theorem dL_send_4 : decode cL_send 4 = .ok (.iload_n 2, 1) := by decide +kernel
theorem dL_send_5 : decode cL_send 5 = .ok (.invokevirtual 62, 3) := by decide +kernel
theorem dL_send_8 : decode cL_send 8 = .ok (.i2l, 1) := by decide +kernel
theorem dL_send_9 : decode cL_send 9 = .ok (.lastore, 1) := by decide +kernel
theorem dL_send_10 : decode cL_send 10 = .ok (.goto 7, 3) := by decide +kernel
theorem dL_send_13 : decode cL_send 13 = .ok (.astore 4, 2) := by decide +kernel
theorem dL_send_15 : decode cL_send 15 = .ok (.iconst 1, 1) := by decide +kernel
theorem dL_send_16 : decode cL_send 16 = .ok (.ireturn, 1) := by decide +kernel
theorem dL_send_17 : decode cL_send 17 = .ok (.iconst 0, 1) := by decide +kernel
theorem dL_send_18 : decode cL_send 18 = .ok (.ireturn, 1) := by decide +kernel
set_option maxRecDepth 20000 in
theorem ggL_at_X8_at : GoodIn wsL_at wsX8_at := goodIn_ca (goodIn_r _ [6, 7, 8, 9, 5, 10, 11, 12, 13, 14, 15, 16, 17, 18, 19, 20, 21, 22, 23, 24, 25, 26, 27, 28, 29, 30, 31, 32, 33, 34, 35, 36, 37, 38, 39, 40, 41, 42, 43, 44, 45, 46, 47, 48, 49, 50, 51, 52, 53, 54, 55, 56, 57, 58, 59, 60, 61, 62, 63, 64, 65] (by decide +kernel) (by decide +kernel)) (goodIn_sub (fun _ h => List.mem_cons_of_mem _ (List.mem_append_right _ h)) (by decide +kernel))
set_option maxRecDepth 20000 in
theorem gL_at_X8_at : GoodIn wsL_at (wsV RL 65 RX8 yX8_at wsX8_at) := goodIn_app (goodIn_of _ (by decide +kernel)) ggL_at_X8_at
theorem dL_at_0 : decode cL_at 0 = .ok (.aload_n 2, 1) := by decide +kernel
theorem dL_at_1 : decode cL_at 1 = .ok (.iconst 0, 1) := by decide +kernel
theorem dL_at_2 : decode cL_at 2 = .ok (.aload_n 0, 1) := by decide +kernel
theorem dL_at_3 : decode cL_at 3 = .ok (.iload_n 1, 1) := by decide +kernel
theorem dL_at_4 : decode cL_at 4 = .ok (.invokevirtual 65, 3) := by decide +kernel
theorem dL_at_7 : decode cL_at 7 = .ok (.i2l, 1) := by decide +kernel
theorem dL_at_8 : decode cL_at 8 = .ok (.lastore, 1) := by decide +kernel
theorem dL_at_9 : decode cL_at 9 = .ok (.goto 6, 3) := by decide +kernel
theorem dL_at_12 : decode cL_at 12 = .ok (.astore_n 3, 1) := by decide +kernel
theorem dL_at_13 : decode cL_at 13 = .ok (.iconst 1, 1) := by decide +kernel
theorem dL_at_14 : decode cL_at 14 = .ok (.ireturn, 1) := by decide +kernel
theorem dL_at_15 : decode cL_at 15 = .ok (.iconst 0, 1) := by decide +kernel
theorem dL_at_16 : decode cL_at 16 = .ok (.ireturn, 1) := by decide +kernel
set_option maxRecDepth 20000 in
theorem ggL_rests_X8_rests : GoodIn wsL_rests wsX8_rests := goodIn_ca (goodIn_r _ [6, 7, 8, 9, 5, 10, 11, 12, 13, 14, 15, 16, 17, 18, 19, 20, 21, 22, 23, 24, 25, 26, 27, 28, 29, 30, 31, 32, 33, 34, 35, 36, 37, 38, 39, 40, 41, 42, 43, 44, 45, 46, 47, 48, 49, 50, 51, 52, 53, 54, 55, 56, 57, 58, 59, 60, 61, 62, 63, 64, 65, 66, 67, 68, 69, 70] (by decide +kernel) (by decide +kernel)) (goodIn_sub (fun _ h => List.mem_cons_of_mem _ (List.mem_append_right _ h)) (by decide +kernel))
set_option maxRecDepth 20000 in
theorem gL_rests_X8_rests : GoodIn wsL_rests (wsV RL 68 RX8 yX8_rests wsX8_rests) := goodIn_app (goodIn_of _ (by decide +kernel)) ggL_rests_X8_rests
theorem dL_rests_0 : decode cL_rests 0 = .ok (.aload_n 2, 1) := by decide +kernel
theorem dL_rests_1 : decode cL_rests 1 = .ok (.iconst 0, 1) := by decide +kernel
theorem dL_rests_2 : decode cL_rests 2 = .ok (.aload_n 0, 1) := by decide +kernel
theorem dL_rests_3 : decode cL_rests 3 = .ok (.iload_n 1, 1) := by decide +kernel
theorem dL_rests_4 : decode cL_rests 4 = .ok (.invokevirtual 68, 3) := by decide +kernel
theorem dL_rests_7 : decode cL_rests 7 = .ok (.ifCond .eq 7, 3) := by decide +kernel
theorem dL_rests_10 : decode cL_rests 10 = .ok (.lconst 1, 1) := by decide +kernel
theorem dL_rests_11 : decode cL_rests 11 = .ok (.goto 4, 3) := by decide +kernel
theorem dL_rests_14 : decode cL_rests 14 = .ok (.lconst 0, 1) := by decide +kernel
theorem dL_rests_15 : decode cL_rests 15 = .ok (.lastore, 1) := by decide +kernel
theorem dL_rests_16 : decode cL_rests 16 = .ok (.goto 6, 3) := by decide +kernel
theorem dL_rests_19 : decode cL_rests 19 = .ok (.astore_n 3, 1) := by decide +kernel
theorem dL_rests_20 : decode cL_rests 20 = .ok (.iconst 1, 1) := by decide +kernel
theorem dL_rests_21 : decode cL_rests 21 = .ok (.ireturn, 1) := by decide +kernel
theorem dL_rests_22 : decode cL_rests 22 = .ok (.iconst 0, 1) := by decide +kernel
theorem dL_rests_23 : decode cL_rests 23 = .ok (.ireturn, 1) := by decide +kernel
set_option maxRecDepth 20000 in
theorem ggL_way_X8_way : GoodIn wsL_way wsX8_way := goodIn_ca (goodIn_r _ [6, 7, 8, 9, 10, 5, 11, 12, 13, 14, 15, 16, 17, 18, 19, 20, 21, 22, 23, 24, 25, 26, 27, 28, 29, 30, 31, 32, 33, 34, 35, 36, 37, 38, 39, 40, 41, 42, 43, 44, 45, 46, 47, 48, 49, 50, 51, 52, 53, 54, 55, 56, 57, 58, 59, 60, 61, 62, 63, 64, 65, 66, 67, 68, 69, 70, 71, 72, 73, 74, 75, 76, 77, 78, 79, 80, 81, 82, 83, 84, 85, 86, 87, 88, 89, 90, 91, 92, 93, 94, 95] (by decide +kernel) (by decide +kernel)) (goodIn_sub (fun _ h => List.mem_cons_of_mem _ (List.mem_append_right _ h)) (by decide +kernel))
set_option maxRecDepth 20000 in
theorem gL_way_X8_way : GoodIn wsL_way (wsV RL 71 RX8 yX8_way wsX8_way) := goodIn_app (goodIn_of _ (by decide +kernel)) ggL_way_X8_way
theorem dL_way_0 : decode cL_way 0 = .ok (.aload_n 3, 1) := by decide +kernel
theorem dL_way_1 : decode cL_way 1 = .ok (.iconst 0, 1) := by decide +kernel
theorem dL_way_2 : decode cL_way 2 = .ok (.aload_n 0, 1) := by decide +kernel
theorem dL_way_3 : decode cL_way 3 = .ok (.iload_n 1, 1) := by decide +kernel
theorem dL_way_4 : decode cL_way 4 = .ok (.iload_n 2, 1) := by decide +kernel
theorem dL_way_5 : decode cL_way 5 = .ok (.invokevirtual 71, 3) := by decide +kernel
theorem dL_way_8 : decode cL_way 8 = .ok (.i2l, 1) := by decide +kernel
theorem dL_way_9 : decode cL_way 9 = .ok (.lastore, 1) := by decide +kernel
theorem dL_way_10 : decode cL_way 10 = .ok (.goto 7, 3) := by decide +kernel
theorem dL_way_13 : decode cL_way 13 = .ok (.astore 4, 2) := by decide +kernel
theorem dL_way_15 : decode cL_way 15 = .ok (.iconst 1, 1) := by decide +kernel
theorem dL_way_16 : decode cL_way 16 = .ok (.ireturn, 1) := by decide +kernel
theorem dL_way_17 : decode cL_way 17 = .ok (.iconst 0, 1) := by decide +kernel
theorem dL_way_18 : decode cL_way 18 = .ok (.ireturn, 1) := by decide +kernel
set_option maxRecDepth 20000 in
theorem ggL_wayByRounds_X8_wayByRounds : GoodIn wsL_wayByRounds wsX8_wayByRounds := goodIn_ca (goodIn_r _ [6, 7, 8, 9, 10, 5, 11, 12, 13, 14, 15, 16, 17, 18, 19, 20, 21, 22, 23, 24, 25, 26, 27, 28, 29, 30, 31, 32, 33, 34, 35, 36, 37, 38, 39, 40, 41, 42, 43, 44, 45, 46, 47, 48, 49, 50, 51, 52, 53, 54, 55, 56, 57, 58, 59, 60, 61, 62, 63, 64, 65, 66, 67, 68, 69, 70, 71, 72, 73, 74, 75, 76, 77, 78, 79, 80, 81, 82, 83, 84, 85, 86, 87, 88, 89, 90, 91, 92, 93, 94, 95] (by decide +kernel) (by decide +kernel)) (goodIn_sub (fun _ h => List.mem_cons_of_mem _ (List.mem_append_right _ h)) (by decide +kernel))
set_option maxRecDepth 20000 in
theorem gL_wayByRounds_X8_wayByRounds : GoodIn wsL_wayByRounds (wsV RL 74 RX8 yX8_wayByRounds wsX8_wayByRounds) := goodIn_app (goodIn_of _ (by decide +kernel)) ggL_wayByRounds_X8_wayByRounds
theorem dL_wayByRounds_0 : decode cL_wayByRounds 0 = .ok (.aload_n 3, 1) := by decide +kernel
theorem dL_wayByRounds_1 : decode cL_wayByRounds 1 = .ok (.iconst 0, 1) := by decide +kernel
theorem dL_wayByRounds_2 : decode cL_wayByRounds 2 = .ok (.aload_n 0, 1) := by decide +kernel
theorem dL_wayByRounds_3 : decode cL_wayByRounds 3 = .ok (.iload_n 1, 1) := by decide +kernel
theorem dL_wayByRounds_4 : decode cL_wayByRounds 4 = .ok (.iload_n 2, 1) := by decide +kernel
theorem dL_wayByRounds_5 : decode cL_wayByRounds 5 = .ok (.invokevirtual 74, 3) := by decide +kernel
theorem dL_wayByRounds_8 : decode cL_wayByRounds 8 = .ok (.i2l, 1) := by decide +kernel
theorem dL_wayByRounds_9 : decode cL_wayByRounds 9 = .ok (.lastore, 1) := by decide +kernel
theorem dL_wayByRounds_10 : decode cL_wayByRounds 10 = .ok (.goto 7, 3) := by decide +kernel
theorem dL_wayByRounds_13 : decode cL_wayByRounds 13 = .ok (.astore 4, 2) := by decide +kernel
theorem dL_wayByRounds_15 : decode cL_wayByRounds 15 = .ok (.iconst 1, 1) := by decide +kernel
theorem dL_wayByRounds_16 : decode cL_wayByRounds 16 = .ok (.ireturn, 1) := by decide +kernel
theorem dL_wayByRounds_17 : decode cL_wayByRounds 17 = .ok (.iconst 0, 1) := by decide +kernel
theorem dL_wayByRounds_18 : decode cL_wayByRounds 18 = .ok (.ireturn, 1) := by decide +kernel
set_option maxRecDepth 20000 in
theorem ggL_addWarden_X8_addWarden : GoodIn wsL_addWarden wsX8_addWarden := goodIn_ca (goodIn_ca (goodIn_r _ [7, 8, 9, 10, 11, 12, 13, 6, 14, 15, 16, 17, 18, 19, 20, 21, 22, 23, 24, 25, 26, 27, 28, 29, 30] (by decide +kernel) (by decide +kernel)) (goodIn_sub (fun _ h => List.mem_cons_of_mem _ (List.mem_append_left _ (List.mem_append_right _ h))) (by decide +kernel))) (goodIn_sub (fun _ h => List.mem_cons_of_mem _ (List.mem_append_right _ h)) (by decide +kernel))
set_option maxRecDepth 20000 in
theorem gL_addWarden_X8_addWarden : GoodIn wsL_addWarden (wsV RL 77 RX8 yX8_addWarden wsX8_addWarden) := goodIn_app (goodIn_of _ (by decide +kernel)) ggL_addWarden_X8_addWarden
theorem dL_addWarden_0 : decode cL_addWarden 0 = .ok (.aload_n 2, 1) := by decide +kernel
theorem dL_addWarden_1 : decode cL_addWarden 1 = .ok (.iconst 0, 1) := by decide +kernel
theorem dL_addWarden_2 : decode cL_addWarden 2 = .ok (.aload_n 0, 1) := by decide +kernel
theorem dL_addWarden_3 : decode cL_addWarden 3 = .ok (.iload_n 1, 1) := by decide +kernel
theorem dL_addWarden_4 : decode cL_addWarden 4 = .ok (.invokevirtual 77, 3) := by decide +kernel
theorem dL_addWarden_7 : decode cL_addWarden 7 = .ok (.i2l, 1) := by decide +kernel
theorem dL_addWarden_8 : decode cL_addWarden 8 = .ok (.lastore, 1) := by decide +kernel
theorem dL_addWarden_9 : decode cL_addWarden 9 = .ok (.goto 9, 3) := by decide +kernel
theorem dL_addWarden_12 : decode cL_addWarden 12 = .ok (.astore_n 3, 1) := by decide +kernel
theorem dL_addWarden_13 : decode cL_addWarden 13 = .ok (.iconst 1, 1) := by decide +kernel
theorem dL_addWarden_14 : decode cL_addWarden 14 = .ok (.ireturn, 1) := by decide +kernel
theorem dL_addWarden_15 : decode cL_addWarden 15 = .ok (.astore_n 3, 1) := by decide +kernel
theorem dL_addWarden_16 : decode cL_addWarden 16 = .ok (.iconst 2, 1) := by decide +kernel
theorem dL_addWarden_17 : decode cL_addWarden 17 = .ok (.ireturn, 1) := by decide +kernel
theorem dL_addWarden_18 : decode cL_addWarden 18 = .ok (.iconst 0, 1) := by decide +kernel
theorem dL_addWarden_19 : decode cL_addWarden 19 = .ok (.ireturn, 1) := by decide +kernel
set_option maxRecDepth 20000 in
theorem ggL_sees_X8_sees : GoodIn wsL_sees wsX8_sees := goodIn_ca (goodIn_r _ [6, 7, 8, 9, 10, 11, 12, 13, 14, 15, 16, 17, 18, 19, 20, 21, 22, 23, 24, 25, 26, 27, 28, 29, 30, 31, 32, 33, 34, 35, 36, 37, 38, 39, 40, 41, 42, 43, 44, 45, 46, 47, 48, 49, 50, 51, 52, 53, 54, 55, 56, 57, 58, 59, 60, 61, 62, 63, 64, 65, 66, 67, 68, 69, 70, 71, 72, 73, 74, 75, 76, 77] (by decide +kernel) (by decide +kernel)) (goodIn_sub (fun _ h => List.mem_cons_of_mem _ (List.mem_append_right _ h)) (by decide +kernel))
set_option maxRecDepth 20000 in
theorem gL_sees_X8_sees : GoodIn wsL_sees (wsV RL 80 RX8 yX8_sees wsX8_sees) := goodIn_app (goodIn_of _ (by decide +kernel)) ggL_sees_X8_sees
theorem dL_sees_0 : decode cL_sees 0 = .ok (.aload_n 2, 1) := by decide +kernel
theorem dL_sees_1 : decode cL_sees 1 = .ok (.iconst 0, 1) := by decide +kernel
theorem dL_sees_2 : decode cL_sees 2 = .ok (.aload_n 0, 1) := by decide +kernel
theorem dL_sees_3 : decode cL_sees 3 = .ok (.iload_n 1, 1) := by decide +kernel
theorem dL_sees_4 : decode cL_sees 4 = .ok (.invokevirtual 80, 3) := by decide +kernel
theorem dL_sees_7 : decode cL_sees 7 = .ok (.i2l, 1) := by decide +kernel
theorem dL_sees_8 : decode cL_sees 8 = .ok (.lastore, 1) := by decide +kernel
theorem dL_sees_9 : decode cL_sees 9 = .ok (.goto 6, 3) := by decide +kernel
theorem dL_sees_12 : decode cL_sees 12 = .ok (.astore_n 3, 1) := by decide +kernel
theorem dL_sees_13 : decode cL_sees 13 = .ok (.iconst 1, 1) := by decide +kernel
theorem dL_sees_14 : decode cL_sees 14 = .ok (.ireturn, 1) := by decide +kernel
theorem dL_sees_15 : decode cL_sees 15 = .ok (.iconst 0, 1) := by decide +kernel
theorem dL_sees_16 : decode cL_sees 16 = .ok (.ireturn, 1) := by decide +kernel
set_option maxRecDepth 20000 in
theorem ggL_answer_X8_answer : GoodIn wsL_answer wsX8_answer := goodIn_ca (goodIn_ca (goodIn_r _ [7, 8, 9, 10, 11, 12, 13, 14, 6, 15, 16, 17, 18, 19, 20, 21, 22, 23, 24, 25, 26, 27, 28, 29, 30, 31, 32, 33, 34, 35, 36, 37, 38, 39, 40, 41, 42, 43, 44, 45, 46, 47, 48, 49, 50, 51, 52, 53, 54, 55, 56, 57, 58, 59, 60, 61, 62, 63, 64, 65, 66, 67, 68, 69, 70, 71, 72, 73, 74, 75, 76, 77, 78, 79, 80, 81, 82, 83, 84, 85, 86, 87, 88, 89, 90, 91, 92, 93, 94, 95, 96, 97, 98, 99, 100, 101, 102, 103, 104, 105, 106, 107, 108, 109, 110, 111, 112, 113, 114, 115, 116, 117, 118, 119, 120, 121, 122, 123, 124, 125, 126, 127, 128, 129, 130, 131, 132, 133, 134, 135, 136, 137, 138, 139, 140, 141, 142, 143, 144, 145, 146, 147, 148, 149, 150, 151, 152, 153, 154, 155, 156] (by decide +kernel) (by decide +kernel)) (goodIn_sub (fun _ h => List.mem_cons_of_mem _ (List.mem_append_left _ (List.mem_append_right _ h))) (by decide +kernel))) (goodIn_sub (fun _ h => List.mem_cons_of_mem _ (List.mem_append_right _ h)) (by decide +kernel))
set_option maxRecDepth 20000 in
theorem gL_answer_X8_answer : GoodIn wsL_answer (wsV RL 83 RX8 yX8_answer wsX8_answer) := goodIn_app (goodIn_of _ (by decide +kernel)) ggL_answer_X8_answer
theorem dL_answer_0 : decode cL_answer 0 = .ok (.aload_n 3, 1) := by decide +kernel
theorem dL_answer_1 : decode cL_answer 1 = .ok (.iconst 0, 1) := by decide +kernel
theorem dL_answer_2 : decode cL_answer 2 = .ok (.aload_n 0, 1) := by decide +kernel
theorem dL_answer_3 : decode cL_answer 3 = .ok (.iload_n 1, 1) := by decide +kernel
theorem dL_answer_4 : decode cL_answer 4 = .ok (.iload_n 2, 1) := by decide +kernel
theorem dL_answer_5 : decode cL_answer 5 = .ok (.invokevirtual 83, 3) := by decide +kernel
theorem dL_answer_8 : decode cL_answer 8 = .ok (.ifCond .eq 7, 3) := by decide +kernel
theorem dL_answer_11 : decode cL_answer 11 = .ok (.lconst 1, 1) := by decide +kernel
theorem dL_answer_12 : decode cL_answer 12 = .ok (.goto 4, 3) := by decide +kernel
theorem dL_answer_15 : decode cL_answer 15 = .ok (.lconst 0, 1) := by decide +kernel
theorem dL_answer_16 : decode cL_answer 16 = .ok (.lastore, 1) := by decide +kernel
theorem dL_answer_17 : decode cL_answer 17 = .ok (.goto 11, 3) := by decide +kernel
theorem dL_answer_20 : decode cL_answer 20 = .ok (.astore 4, 2) := by decide +kernel
theorem dL_answer_22 : decode cL_answer 22 = .ok (.iconst 1, 1) := by decide +kernel
theorem dL_answer_23 : decode cL_answer 23 = .ok (.ireturn, 1) := by decide +kernel
theorem dL_answer_24 : decode cL_answer 24 = .ok (.astore 4, 2) := by decide +kernel
theorem dL_answer_26 : decode cL_answer 26 = .ok (.iconst 2, 1) := by decide +kernel
theorem dL_answer_27 : decode cL_answer 27 = .ok (.ireturn, 1) := by decide +kernel
theorem dL_answer_28 : decode cL_answer 28 = .ok (.iconst 0, 1) := by decide +kernel
theorem dL_answer_29 : decode cL_answer 29 = .ok (.ireturn, 1) := by decide +kernel
set_option maxRecDepth 20000 in
theorem ggL_tell_X8_tell : GoodIn wsL_tell wsX8_tell := goodIn_ca (goodIn_ca (goodIn_ca (goodIn_r _ [8, 9, 10, 11, 12, 13, 14, 15, 16, 7, 17, 18, 19, 20, 21, 22, 23, 24, 25, 26, 27, 28, 29, 30, 31, 32, 33, 34, 35, 36, 37, 38, 39, 40, 41, 42, 43, 44, 45, 46, 47, 48, 49, 50, 51, 52, 53, 54, 55, 56, 57, 58, 59, 60, 61, 62, 63, 64, 65, 66, 67, 68, 69, 70, 71, 72, 73, 74, 75, 76, 77, 78, 79, 80, 81, 82, 83, 84, 85, 86, 87, 88, 89, 90, 91, 92, 93, 94, 95, 96, 97, 98, 99, 100, 101, 102, 103, 104, 105, 106, 107, 108, 109, 110, 111, 112, 113, 114, 115, 116, 117, 118, 119, 120, 121, 122, 123, 124, 125, 126, 127, 128, 129] (by decide +kernel) (by decide +kernel)) (goodIn_sub (fun _ h => List.mem_cons_of_mem _ (List.mem_append_left _ (List.mem_append_left _ (List.mem_append_right _ h)))) (by decide +kernel))) (goodIn_sub (fun _ h => List.mem_cons_of_mem _ (List.mem_append_left _ (List.mem_append_right _ h))) (by decide +kernel))) (goodIn_sub (fun _ h => List.mem_cons_of_mem _ (List.mem_append_right _ h)) (by decide +kernel))
set_option maxRecDepth 20000 in
theorem gL_tell_X8_tell : GoodIn wsL_tell (wsV RL 87 RX8 yX8_tell wsX8_tell) := goodIn_app (goodIn_of _ (by decide +kernel)) ggL_tell_X8_tell
theorem dL_tell_0 : decode cL_tell 0 = .ok (.aload 4, 2) := by decide +kernel
theorem dL_tell_2 : decode cL_tell 2 = .ok (.iconst 0, 1) := by decide +kernel
theorem dL_tell_3 : decode cL_tell 3 = .ok (.aload_n 0, 1) := by decide +kernel
theorem dL_tell_4 : decode cL_tell 4 = .ok (.iload_n 1, 1) := by decide +kernel
theorem dL_tell_5 : decode cL_tell 5 = .ok (.iload_n 2, 1) := by decide +kernel
theorem dL_tell_6 : decode cL_tell 6 = .ok (.iload_n 3, 1) := by decide +kernel
theorem dL_tell_7 : decode cL_tell 7 = .ok (.invokevirtual 87, 3) := by decide +kernel
theorem dL_tell_10 : decode cL_tell 10 = .ok (.i2l, 1) := by decide +kernel
theorem dL_tell_11 : decode cL_tell 11 = .ok (.lastore, 1) := by decide +kernel
theorem dL_tell_12 : decode cL_tell 12 = .ok (.goto 15, 3) := by decide +kernel
theorem dL_tell_15 : decode cL_tell 15 = .ok (.astore 5, 2) := by decide +kernel
theorem dL_tell_17 : decode cL_tell 17 = .ok (.iconst 1, 1) := by decide +kernel
theorem dL_tell_18 : decode cL_tell 18 = .ok (.ireturn, 1) := by decide +kernel
theorem dL_tell_19 : decode cL_tell 19 = .ok (.astore 5, 2) := by decide +kernel
theorem dL_tell_21 : decode cL_tell 21 = .ok (.iconst 2, 1) := by decide +kernel
theorem dL_tell_22 : decode cL_tell 22 = .ok (.ireturn, 1) := by decide +kernel
theorem dL_tell_23 : decode cL_tell 23 = .ok (.astore 5, 2) := by decide +kernel
theorem dL_tell_25 : decode cL_tell 25 = .ok (.iconst 3, 1) := by decide +kernel
theorem dL_tell_26 : decode cL_tell 26 = .ok (.ireturn, 1) := by decide +kernel
theorem dL_tell_27 : decode cL_tell 27 = .ok (.iconst 0, 1) := by decide +kernel
theorem dL_tell_28 : decode cL_tell 28 = .ok (.ireturn, 1) := by decide +kernel
set_option maxRecDepth 20000 in
theorem ggL_solved_X8_solved : GoodIn wsL_solved wsX8_solved := goodIn_ca (goodIn_r _ [6, 7, 8, 9, 5, 10, 11, 12, 13, 14, 15, 16, 17, 18, 19, 20, 21, 22, 23, 24, 25, 26, 27, 28, 29, 30, 31, 32, 33, 34, 35, 36, 37, 38, 39, 40, 41, 42, 43, 44, 45, 46, 47, 48, 49, 50, 51, 52, 53, 54, 55, 56, 57, 58, 59, 60, 61, 62, 63, 64, 65] (by decide +kernel) (by decide +kernel)) (goodIn_sub (fun _ h => List.mem_cons_of_mem _ (List.mem_append_right _ h)) (by decide +kernel))
set_option maxRecDepth 20000 in
theorem gL_solved_X8_solved : GoodIn wsL_solved (wsV RL 91 RX8 yX8_solved wsX8_solved) := goodIn_app (goodIn_of _ (by decide +kernel)) ggL_solved_X8_solved
theorem dL_solved_0 : decode cL_solved 0 = .ok (.aload_n 2, 1) := by decide +kernel
theorem dL_solved_1 : decode cL_solved 1 = .ok (.iconst 0, 1) := by decide +kernel
theorem dL_solved_2 : decode cL_solved 2 = .ok (.aload_n 0, 1) := by decide +kernel
theorem dL_solved_3 : decode cL_solved 3 = .ok (.iload_n 1, 1) := by decide +kernel
theorem dL_solved_4 : decode cL_solved 4 = .ok (.invokevirtual 91, 3) := by decide +kernel
theorem dL_solved_7 : decode cL_solved 7 = .ok (.i2l, 1) := by decide +kernel
theorem dL_solved_8 : decode cL_solved 8 = .ok (.lastore, 1) := by decide +kernel
theorem dL_solved_9 : decode cL_solved 9 = .ok (.goto 6, 3) := by decide +kernel
theorem dL_solved_12 : decode cL_solved 12 = .ok (.astore_n 3, 1) := by decide +kernel
theorem dL_solved_13 : decode cL_solved 13 = .ok (.iconst 1, 1) := by decide +kernel
theorem dL_solved_14 : decode cL_solved 14 = .ok (.ireturn, 1) := by decide +kernel
theorem dL_solved_15 : decode cL_solved 15 = .ok (.iconst 0, 1) := by decide +kernel
theorem dL_solved_16 : decode cL_solved 16 = .ok (.ireturn, 1) := by decide +kernel
set_option maxRecDepth 20000 in
theorem ggL_score_X8_score : GoodIn wsL_score wsX8_score := goodIn_ca (goodIn_r _ [6, 7, 8, 9, 5, 10, 11, 12, 13, 14, 15, 16, 17, 18, 19, 20, 21, 22, 23, 24, 25, 26, 27, 28, 29, 30, 31, 32, 33, 34, 35, 36, 37, 38, 39, 40, 41, 42, 43, 44, 45, 46, 47, 48, 49, 50, 51, 52, 53, 54, 55, 56, 57, 58, 59, 60, 61, 62, 63, 64, 65] (by decide +kernel) (by decide +kernel)) (goodIn_sub (fun _ h => List.mem_cons_of_mem _ (List.mem_append_right _ h)) (by decide +kernel))
set_option maxRecDepth 20000 in
theorem gL_score_X8_score : GoodIn wsL_score (wsV RL 94 RX8 yX8_score wsX8_score) := goodIn_app (goodIn_of _ (by decide +kernel)) ggL_score_X8_score
theorem dL_score_0 : decode cL_score 0 = .ok (.aload_n 2, 1) := by decide +kernel
theorem dL_score_1 : decode cL_score 1 = .ok (.iconst 0, 1) := by decide +kernel
theorem dL_score_2 : decode cL_score 2 = .ok (.aload_n 0, 1) := by decide +kernel
theorem dL_score_3 : decode cL_score 3 = .ok (.iload_n 1, 1) := by decide +kernel
theorem dL_score_4 : decode cL_score 4 = .ok (.invokevirtual 94, 3) := by decide +kernel
theorem dL_score_7 : decode cL_score 7 = .ok (.i2l, 1) := by decide +kernel
theorem dL_score_8 : decode cL_score 8 = .ok (.lastore, 1) := by decide +kernel
theorem dL_score_9 : decode cL_score 9 = .ok (.goto 6, 3) := by decide +kernel
theorem dL_score_12 : decode cL_score 12 = .ok (.astore_n 3, 1) := by decide +kernel
theorem dL_score_13 : decode cL_score 13 = .ok (.iconst 1, 1) := by decide +kernel
theorem dL_score_14 : decode cL_score 14 = .ok (.ireturn, 1) := by decide +kernel
theorem dL_score_15 : decode cL_score 15 = .ok (.iconst 0, 1) := by decide +kernel
theorem dL_score_16 : decode cL_score 16 = .ok (.ireturn, 1) := by decide +kernel
set_option maxRecDepth 20000 in
theorem ggL_scoreAnew_X8_scoreAnew : GoodIn wsL_scoreAnew wsX8_scoreAnew := goodIn_ca (goodIn_r _ [6, 7, 8, 9, 10, 5, 11, 12, 13, 14, 15, 16, 17, 18, 19, 20, 21, 22, 23, 24, 25, 26, 27, 28, 29, 30, 31, 32, 33, 34, 35, 36, 37, 38, 39, 40, 41, 42, 43, 44, 45, 46, 47, 48, 49, 50, 51, 52, 53, 54, 55, 56, 57, 58, 59, 60, 61, 62, 63, 64, 65, 66, 67, 68, 69, 70, 71, 72, 73] (by decide +kernel) (by decide +kernel)) (goodIn_sub (fun _ h => List.mem_cons_of_mem _ (List.mem_append_right _ h)) (by decide +kernel))
set_option maxRecDepth 20000 in
theorem gL_scoreAnew_X8_scoreAnew : GoodIn wsL_scoreAnew (wsV RL 97 RX8 yX8_scoreAnew wsX8_scoreAnew) := goodIn_app (goodIn_of _ (by decide +kernel)) ggL_scoreAnew_X8_scoreAnew
theorem dL_scoreAnew_0 : decode cL_scoreAnew 0 = .ok (.aload_n 2, 1) := by decide +kernel
theorem dL_scoreAnew_1 : decode cL_scoreAnew 1 = .ok (.iconst 0, 1) := by decide +kernel
theorem dL_scoreAnew_2 : decode cL_scoreAnew 2 = .ok (.aload_n 0, 1) := by decide +kernel
theorem dL_scoreAnew_3 : decode cL_scoreAnew 3 = .ok (.iload_n 1, 1) := by decide +kernel
theorem dL_scoreAnew_4 : decode cL_scoreAnew 4 = .ok (.invokevirtual 97, 3) := by decide +kernel
theorem dL_scoreAnew_7 : decode cL_scoreAnew 7 = .ok (.i2l, 1) := by decide +kernel
theorem dL_scoreAnew_8 : decode cL_scoreAnew 8 = .ok (.lastore, 1) := by decide +kernel
theorem dL_scoreAnew_9 : decode cL_scoreAnew 9 = .ok (.goto 6, 3) := by decide +kernel
theorem dL_scoreAnew_12 : decode cL_scoreAnew 12 = .ok (.astore_n 3, 1) := by decide +kernel
theorem dL_scoreAnew_13 : decode cL_scoreAnew 13 = .ok (.iconst 1, 1) := by decide +kernel
theorem dL_scoreAnew_14 : decode cL_scoreAnew 14 = .ok (.ireturn, 1) := by decide +kernel
theorem dL_scoreAnew_15 : decode cL_scoreAnew 15 = .ok (.iconst 0, 1) := by decide +kernel
theorem dL_scoreAnew_16 : decode cL_scoreAnew 16 = .ok (.ireturn, 1) := by decide +kernel
set_option maxRecDepth 20000 in
theorem ggL_law_X8_init : GoodIn wsL_law wsX8_init := goodIn_r _ [9, 10, 11, 12, 13, 14, 15, 16, 17, 18, 19, 20, 21, 22, 23, 24, 25, 26, 27, 28, 29, 30, 31, 32, 33, 34, 35, 36, 37, 38, 39, 40, 41, 42, 43, 44, 45, 46, 47, 48, 49, 50, 51, 52, 53, 54, 55, 56, 57, 58, 59, 60, 61, 62, 63, 64, 65, 66, 67, 68, 69, 70, 71, 72, 73, 74, 75, 76, 77, 78, 79, 80, 81, 82, 83, 1030, 1031, 991, 992, 993, 994, 995, 996, 997, 998, 999, 1000, 1032, 1033, 1034, 1035, 1036, 1037, 1038, 1039, 1040, 1041] (by decide +kernel) (by decide +kernel)
set_option maxRecDepth 20000 in
theorem gL_law_X8_init : GoodIn wsL_law (wsX8_init) := ggL_law_X8_init
set_option maxRecDepth 20000 in
theorem ggL_law_X9_init : GoodIn wsL_law wsX9_init := goodIn_r _ [86, 87, 11, 12, 30, 88, 46, 89, 90, 91, 92, 93, 94, 95, 96, 97, 98, 99, 100, 101, 102, 103, 104, 105, 106, 107, 108, 109, 110, 1001, 1002, 1003, 1004, 1005, 1006, 1007, 1008, 1009, 1010, 1011, 1012, 1013, 1014, 1015, 1016, 1017, 1018, 1019, 1020, 1021, 1022, 1023, 1024, 1025, 1026, 1027, 1028, 1029] (by decide +kernel) (by decide +kernel)
set_option maxRecDepth 20000 in
theorem gL_law_X9_init : GoodIn wsL_law (wsX9_init) := ggL_law_X9_init
set_option maxRecDepth 20000 in
theorem ggL_law_L_setHeight : GoodIn wsL_law wsL_setHeight := goodIn_ca (goodIn_ca (goodIn_r _ [114, 115, 116, 117, 118, 119, 2, 120, 121, 122, 16, 39, 28, 123, 124, 125, 126, 127, 128, 129, 130, 15, 131, 132, 133, 134, 135, 45, 136, 137, 138, 139, 38, 140, 82, 141, 142, 143, 144, 27, 145, 146, 147, 148, 149, 150, 151, 152, 153, 154, 155, 156, 157, 158, 159, 160, 161, 162, 62, 163, 164, 165, 166, 167, 168, 169, 170, 171, 172, 173, 174, 175, 176, 177, 178, 179, 180, 181, 182, 183, 184, 185, 186, 187, 188, 189, 190, 191, 192, 193, 194, 195, 196, 197, 198, 199, 200, 201, 202, 203, 204, 205, 206, 207, 208, 209, 210, 211, 212, 213, 214, 215, 216, 217, 218, 219, 220, 221, 222, 991, 992, 993, 994, 995, 996, 997, 998, 999, 1000, 1030, 1031, 1041, 1036, 1037, 1038, 1042, 1043, 1044, 1045, 1046, 1047, 1048, 1049, 1050] (by decide +kernel) (by decide +kernel)) (goodIn_sub (fun _ h => List.mem_append_left _ (List.mem_append_left _ (List.mem_append_left _ (List.mem_append_right _ h)))) (by decide +kernel))) (goodIn_sub (fun _ h => List.mem_append_left _ (List.mem_append_left _ (List.mem_append_right _ h))) (by decide +kernel))
set_option maxRecDepth 20000 in
theorem gL_law_L_setHeight : GoodIn wsL_law (va_wsS RL 104 yL_setHeight wsL_setHeight) := goodIn_app (goodIn_of _ (by decide +kernel)) ggL_law_L_setHeight
set_option maxRecDepth 20000 in
theorem ggL_law_X9_setHeight : GoodIn wsL_law wsX9_setHeight := goodIn_r _ [226, 227, 88, 228, 95, 96, 229, 230, 5, 231, 232, 233, 234, 235, 236, 237, 238, 239, 240, 241, 242, 243, 94, 244, 245, 246, 247, 90, 91, 92, 93, 248, 249, 250, 251, 252, 253, 1001, 1002, 1003, 1004, 1005, 1006, 1007, 1008, 1009, 1010, 1011, 1012, 1013, 1014, 1015, 1016, 1017, 1018, 1019, 1020, 1021, 1022, 1023, 1024, 1025, 1026, 1027, 1028, 1029] (by decide +kernel) (by decide +kernel)
set_option maxRecDepth 20000 in
theorem gL_law_X9_setHeight : GoodIn wsL_law (wsV RL 109 RX9 yX9_setHeight wsX9_setHeight) := goodIn_app (goodIn_of _ (by decide +kernel)) ggL_law_X9_setHeight
set_option maxRecDepth 20000 in
theorem ggL_law_X9_thrown : GoodIn wsL_law wsX9_thrown := goodIn_r _ [257, 227, 1001, 1002, 1003, 1004, 1005, 1006, 1007, 1008, 1009, 1010, 1011, 1012, 1013, 1014, 1015, 1016, 1017, 1018, 1019, 1020, 1021, 1022, 1023, 1024, 1025, 1026, 1027, 1028, 1029] (by decide +kernel) (by decide +kernel)
set_option maxRecDepth 20000 in
theorem gL_law_X9_thrown : GoodIn wsL_law (wsV RL 110 RX9 yX9_thrown wsX9_thrown) := goodIn_app (goodIn_of _ (by decide +kernel)) ggL_law_X9_thrown
set_option maxRecDepth 20000 in
theorem ggL_law_L_close : GoodIn wsL_law wsL_close := goodIn_ca (goodIn_r _ [260, 115, 261, 262, 263, 2, 264, 16, 124, 125, 126, 127, 128, 129, 130, 15, 131, 265, 266, 267, 268, 47, 136, 991, 992, 993, 994, 995, 996, 997, 998, 999, 1000, 1030, 1031] (by decide +kernel) (by decide +kernel)) (goodIn_sub (fun _ h => List.mem_append_left _ (List.mem_append_left _ (List.mem_append_right _ h))) (by decide +kernel))
set_option maxRecDepth 20000 in
theorem gL_law_L_close : GoodIn wsL_law (va_wsS RL 113 yL_close wsL_close) := goodIn_app (goodIn_of _ (by decide +kernel)) ggL_law_L_close
set_option maxRecDepth 20000 in
theorem ggL_law_X9_close : GoodIn wsL_law wsX9_close := goodIn_r _ [272, 227, 89, 229, 230, 5, 231, 232, 233, 234, 1001, 1002, 1003, 1004, 1005, 1006, 1007, 1008, 1009, 1010, 1011, 1012, 1013, 1014, 1015, 1016, 1017, 1018, 1019, 1020, 1021, 1022, 1023, 1024, 1025, 1026, 1027, 1028, 1029] (by decide +kernel) (by decide +kernel)
set_option maxRecDepth 20000 in
theorem gL_law_X9_close : GoodIn wsL_law (wsV RL 116 RX9 yX9_close wsX9_close) := goodIn_app (goodIn_of _ (by decide +kernel)) ggL_law_X9_close
set_option maxRecDepth 20000 in
theorem ggL_law_L_hint : GoodIn wsL_law wsL_hint := goodIn_ca (goodIn_ca (goodIn_ca (goodIn_r _ [275, 115, 116, 276, 277, 278, 279, 2, 280, 121, 122, 281, 282, 39, 283, 284, 166, 16, 124, 125, 126, 127, 128, 129, 130, 15, 131, 285, 286, 287, 38, 288, 82, 142, 143, 144, 27, 145, 146, 289, 290, 291, 292, 11, 12, 168, 174, 175, 176, 177, 293, 294, 295, 296, 297, 298, 299, 300, 45, 163, 164, 165, 167, 169, 170, 171, 172, 173, 178, 179, 180, 181, 182, 183, 184, 185, 186, 187, 188, 189, 190, 191, 192, 301, 302, 303, 304, 305, 306, 62, 307, 308, 309, 310, 311, 312, 313, 314, 315, 316, 317, 318, 61, 319, 320, 321, 322, 323, 324, 325, 326, 327, 328, 329, 330, 331, 332, 333, 334, 335, 336, 337, 338, 339, 340, 341, 342, 343, 344, 345, 346, 347, 348, 349, 350, 351, 352, 209, 210, 211, 212, 213, 214, 215, 216, 141, 147, 148, 149, 150, 151, 152, 153, 154, 155, 156, 157, 158, 159, 160, 161, 162, 217, 218, 219, 220, 353, 354, 355, 356, 357, 358, 359, 991, 992, 993, 994, 995, 996, 997, 998, 999, 1000, 1042, 1043, 1044, 1045, 1046, 1041, 1036, 1037, 1038, 1030, 1031] (by decide +kernel) (by decide +kernel)) (goodIn_sub (fun _ h => List.mem_append_left _ (List.mem_append_left _ (List.mem_append_left _ (List.mem_append_right _ h)))) (by decide +kernel))) (goodIn_sub (fun _ h => List.mem_append_left _ (List.mem_append_right _ h)) (by decide +kernel))) (goodIn_sub (fun _ h => List.mem_append_left _ (List.mem_append_left _ (List.mem_append_right _ h))) (by decide +kernel))
set_option maxRecDepth 20000 in
theorem gL_law_L_hint : GoodIn wsL_law (va_wsS RL 117 yL_hint wsL_hint) := goodIn_app (goodIn_of _ (by decide +kernel)) ggL_law_L_hint
set_option maxRecDepth 20000 in
theorem ggL_law_X9_hint : GoodIn wsL_law wsX9_hint := goodIn_r _ [363, 94, 227, 90, 91, 92, 93, 229, 230, 5, 231, 232, 233, 234, 240, 241, 242, 243, 239, 244, 245, 246, 247, 88, 248, 249, 250, 251, 252, 253, 1001, 1002, 1003, 1004, 1005, 1006, 1007, 1008, 1009, 1010, 1011, 1012, 1013, 1014, 1015, 1016, 1017, 1018, 1019, 1020, 1021, 1022, 1023, 1024, 1025, 1026, 1027, 1028, 1029] (by decide +kernel) (by decide +kernel)
set_option maxRecDepth 20000 in
theorem gL_law_X9_hint : GoodIn wsL_law (wsV RL 120 RX9 yX9_hint wsX9_hint) := goodIn_app (goodIn_of _ (by decide +kernel)) ggL_law_X9_hint
set_option maxRecDepth 20000 in
theorem ggL_law_X8_clearDraft : GoodIn wsL_law wsX8_clearDraft := goodIn_r _ [367, 39, 285, 286, 287, 38, 288, 82, 142, 143, 144, 27, 145, 146, 368, 369, 370, 371, 372, 373, 374, 375, 305, 306, 62, 991, 992, 993, 994, 995, 996, 997, 998, 999, 1000, 1041, 1036, 1037, 1038] (by decide +kernel) (by decide +kernel)
set_option maxRecDepth 20000 in
theorem gL_law_X8_clearDraft : GoodIn wsL_law (wsV RL 121 RX8 yX8_clearDraft wsX8_clearDraft) := goodIn_app (goodIn_of _ (by decide +kernel)) ggL_law_X8_clearDraft
set_option maxRecDepth 20000 in
theorem ggL_law_X9_clearDraft : GoodIn wsL_law wsX9_clearDraft := goodIn_r _ [379, 227, 94, 1001, 1002, 1003, 1004, 1005, 1006, 1007, 1008, 1009, 1010, 1011, 1012, 1013, 1014, 1015, 1016, 1017, 1018, 1019, 1020, 1021, 1022, 1023, 1024, 1025, 1026, 1027, 1028, 1029] (by decide +kernel) (by decide +kernel)
set_option maxRecDepth 20000 in
theorem gL_law_X9_clearDraft : GoodIn wsL_law (wsV RL 124 RX9 yX9_clearDraft wsX9_clearDraft) := goodIn_app (goodIn_of _ (by decide +kernel)) ggL_law_X9_clearDraft
set_option maxRecDepth 20000 in
theorem ggL_law_L_stage : GoodIn wsL_law wsL_stage := goodIn_ca (goodIn_r _ [382, 276, 383, 384, 385, 2, 386, 281, 282, 39, 24, 28, 387, 388, 198, 36, 37, 38, 389, 205, 206, 207, 208, 209, 210, 211, 212, 213, 214, 215, 216, 82, 141, 142, 143, 144, 27, 145, 146, 147, 148, 149, 150, 151, 152, 153, 154, 155, 156, 157, 158, 159, 160, 161, 162, 62, 217, 218, 219, 166, 220, 168, 221, 222, 390, 391, 392, 393, 394, 395, 396, 23, 397, 57, 193, 398, 399, 400, 401, 402, 22, 403, 53, 54, 55, 11, 12, 30, 56, 404, 405, 406, 407, 408, 409, 410, 411, 412, 413, 414, 415, 202, 200, 416, 201, 204, 417, 302, 303, 304, 305, 306, 307, 308, 309, 310, 311, 312, 313, 314, 315, 316, 317, 318, 61, 319, 320, 189, 321, 322, 323, 324, 325, 326, 327, 328, 329, 330, 331, 332, 333, 334, 335, 336, 337, 338, 339, 340, 341, 342, 343, 344, 345, 346, 347, 348, 349, 350, 351, 78, 79, 80, 81, 26, 83, 59, 60, 63, 64, 65, 66, 67, 68, 69, 70, 71, 72, 991, 992, 993, 994, 995, 996, 997, 998, 999, 1000, 1047, 1048, 1049, 1050, 1041, 1036, 1037, 1038, 1042, 1043, 1044, 1045, 1046, 1034, 1035] (by decide +kernel) (by decide +kernel)) (goodIn_sub (fun _ h => List.mem_append_left _ (List.mem_append_right _ h)) (by decide +kernel))
set_option maxRecDepth 20000 in
theorem gL_law_L_stage : GoodIn wsL_law (va_wsS RL 125 yL_stage wsL_stage) := goodIn_app (goodIn_of _ (by decide +kernel)) ggL_law_L_stage
set_option maxRecDepth 20000 in
theorem ggL_law_X9_stage : GoodIn wsL_law wsX9_stage := goodIn_r _ [421, 98, 228, 94, 227, 90, 91, 92, 93, 97, 95, 235, 236, 237, 5, 238, 239, 240, 241, 242, 243, 244, 245, 246, 247, 88, 248, 249, 250, 251, 252, 253, 1001, 1002, 1003, 1004, 1005, 1006, 1007, 1008, 1009, 1010, 1011, 1012, 1013, 1014, 1015, 1016, 1017, 1018, 1019, 1020, 1021, 1022, 1023, 1024, 1025, 1026, 1027, 1028, 1029] (by decide +kernel) (by decide +kernel)
set_option maxRecDepth 20000 in
theorem gL_law_X9_stage : GoodIn wsL_law (wsV RL 128 RX9 yX9_stage wsX9_stage) := goodIn_app (goodIn_of _ (by decide +kernel)) ggL_law_X9_stage
set_option maxRecDepth 20000 in
theorem ggL_law_L_fits : GoodIn wsL_law wsL_fits := goodIn_ca (goodIn_r _ [424, 115, 425, 426, 427, 2, 428, 429, 430, 431, 432, 127, 128, 28, 123, 193, 143, 144, 27, 145, 146, 194, 148, 149, 150, 151, 152, 153, 154, 155, 156, 157, 158, 159, 160, 161, 162, 62, 433, 434, 435, 198, 436, 200, 352, 209, 210, 38, 211, 212, 213, 214, 215, 216, 82, 141, 142, 147, 217, 218, 219, 166, 220, 168, 353, 354, 355, 356, 357, 358, 359, 991, 992, 993, 994, 995, 996, 997, 998, 999, 1000, 1036, 1037, 1038, 1047, 1048, 1049, 1050, 1041, 1042, 1043, 1044, 1045, 1046] (by decide +kernel) (by decide +kernel)) (goodIn_sub (fun _ h => List.mem_append_left _ (List.mem_append_left _ (List.mem_append_right _ h))) (by decide +kernel))
set_option maxRecDepth 20000 in
theorem gL_law_L_fits : GoodIn wsL_law (va_wsS RL 129 yL_fits wsL_fits) := goodIn_app (goodIn_of _ (by decide +kernel)) ggL_law_L_fits
set_option maxRecDepth 20000 in
theorem ggL_law_X9_fits : GoodIn wsL_law wsX9_fits := goodIn_r _ [440, 227, 441, 442, 443, 5, 444, 228, 232, 233, 234, 240, 241, 242, 243, 239, 94, 244, 245, 246, 247, 90, 91, 88, 92, 93, 248, 249, 250, 251, 252, 253, 1001, 1002, 1003, 1004, 1005, 1006, 1007, 1008, 1009, 1010, 1011, 1012, 1013, 1014, 1015, 1016, 1017, 1018, 1019, 1020, 1021, 1022, 1023, 1024, 1025, 1026, 1027, 1028, 1029] (by decide +kernel) (by decide +kernel)
set_option maxRecDepth 20000 in
theorem gL_law_X9_fits : GoodIn wsL_law (wsV RL 131 RX9 yX9_fits wsX9_fits) := goodIn_app (goodIn_of _ (by decide +kernel)) ggL_law_X9_fits
set_option maxRecDepth 20000 in
theorem ggL_law_L_placeOf : GoodIn wsL_law wsL_placeOf := goodIn_ca (goodIn_r _ [447, 115, 448, 449, 450, 2, 451, 429, 430, 431, 432, 127, 128, 28, 123, 193, 143, 144, 27, 145, 146, 194, 148, 149, 150, 151, 152, 153, 154, 155, 156, 157, 158, 159, 160, 161, 162, 62, 452, 453, 454, 198, 455, 201, 991, 992, 993, 994, 995, 996, 997, 998, 999, 1000, 1036, 1037, 1038, 1047, 1048, 1049, 1050] (by decide +kernel) (by decide +kernel)) (goodIn_sub (fun _ h => List.mem_append_left _ (List.mem_append_left _ (List.mem_append_right _ h))) (by decide +kernel))
set_option maxRecDepth 20000 in
theorem gL_law_L_placeOf : GoodIn wsL_law (va_wsS RL 132 yL_placeOf wsL_placeOf) := goodIn_app (goodIn_of _ (by decide +kernel)) ggL_law_L_placeOf
set_option maxRecDepth 20000 in
theorem ggL_law_X9_placeOf : GoodIn wsL_law wsX9_placeOf := goodIn_r _ [459, 227, 95, 441, 442, 443, 5, 444, 228, 232, 233, 234, 1001, 1002, 1003, 1004, 1005, 1006, 1007, 1008, 1009, 1010, 1011, 1012, 1013, 1014, 1015, 1016, 1017, 1018, 1019, 1020, 1021, 1022, 1023, 1024, 1025, 1026, 1027, 1028, 1029] (by decide +kernel) (by decide +kernel)
set_option maxRecDepth 20000 in
theorem gL_law_X9_placeOf : GoodIn wsL_law (wsV RL 134 RX9 yX9_placeOf wsX9_placeOf) := goodIn_app (goodIn_of _ (by decide +kernel)) ggL_law_X9_placeOf
set_option maxRecDepth 20000 in
theorem ggL_law_L_placeByAll : GoodIn wsL_law wsL_placeByAll := goodIn_ca (goodIn_r _ [462, 115, 463, 464, 465, 2, 466, 16, 429, 430, 431, 432, 127, 128, 28, 123, 193, 143, 144, 27, 145, 146, 194, 148, 149, 150, 151, 152, 153, 154, 155, 156, 157, 158, 159, 160, 161, 162, 62, 433, 434, 435, 198, 436, 200, 467, 468, 469, 38, 470, 297, 298, 299, 15, 300, 45, 471, 472, 473, 474, 82, 141, 142, 147, 475, 171, 172, 166, 173, 174, 175, 176, 177, 178, 179, 180, 181, 182, 183, 184, 185, 186, 187, 188, 189, 190, 191, 192, 991, 992, 993, 994, 995, 996, 997, 998, 999, 1000, 1036, 1037, 1038, 1047, 1048, 1049, 1050, 1030, 1031, 1041, 1042, 1043, 1044, 1045, 1046] (by decide +kernel) (by decide +kernel)) (goodIn_sub (fun _ h => List.mem_append_left _ (List.mem_append_left _ (List.mem_append_right _ h))) (by decide +kernel))
set_option maxRecDepth 20000 in
theorem gL_law_L_placeByAll : GoodIn wsL_law (va_wsS RL 135 yL_placeByAll wsL_placeByAll) := goodIn_app (goodIn_of _ (by decide +kernel)) ggL_law_L_placeByAll
set_option maxRecDepth 20000 in
theorem ggL_law_X9_placeByAll : GoodIn wsL_law wsX9_placeByAll := goodIn_r _ [479, 227, 441, 442, 443, 5, 444, 228, 232, 233, 234, 235, 236, 237, 238, 239, 240, 241, 242, 243, 94, 244, 245, 246, 247, 90, 91, 88, 92, 93, 248, 249, 250, 251, 252, 253, 1001, 1002, 1003, 1004, 1005, 1006, 1007, 1008, 1009, 1010, 1011, 1012, 1013, 1014, 1015, 1016, 1017, 1018, 1019, 1020, 1021, 1022, 1023, 1024, 1025, 1026, 1027, 1028, 1029] (by decide +kernel) (by decide +kernel)
set_option maxRecDepth 20000 in
theorem gL_law_X9_placeByAll : GoodIn wsL_law (wsV RL 137 RX9 yX9_placeByAll wsX9_placeByAll) := goodIn_app (goodIn_of _ (by decide +kernel)) ggL_law_X9_placeByAll
set_option maxRecDepth 20000 in
theorem ggL_law_L_moves : GoodIn wsL_law wsL_moves := goodIn_ca (goodIn_r _ [482, 115, 483, 484, 485, 2, 486, 429, 430, 431, 432, 127, 128, 28, 123, 193, 143, 144, 27, 145, 146, 194, 148, 149, 150, 151, 152, 153, 154, 155, 156, 157, 158, 159, 160, 161, 162, 62, 487, 488, 489, 198, 490, 202, 991, 992, 993, 994, 995, 996, 997, 998, 999, 1000, 1036, 1037, 1038, 1047, 1048, 1049, 1050] (by decide +kernel) (by decide +kernel)) (goodIn_sub (fun _ h => List.mem_append_left _ (List.mem_append_left _ (List.mem_append_right _ h))) (by decide +kernel))
set_option maxRecDepth 20000 in
theorem gL_law_L_moves : GoodIn wsL_law (va_wsS RL 138 yL_moves wsL_moves) := goodIn_app (goodIn_of _ (by decide +kernel)) ggL_law_L_moves
set_option maxRecDepth 20000 in
theorem ggL_law_X9_moves : GoodIn wsL_law wsX9_moves := goodIn_r _ [494, 227, 96, 441, 442, 443, 5, 444, 228, 232, 233, 234, 1001, 1002, 1003, 1004, 1005, 1006, 1007, 1008, 1009, 1010, 1011, 1012, 1013, 1014, 1015, 1016, 1017, 1018, 1019, 1020, 1021, 1022, 1023, 1024, 1025, 1026, 1027, 1028, 1029] (by decide +kernel) (by decide +kernel)
set_option maxRecDepth 20000 in
theorem gL_law_X9_moves : GoodIn wsL_law (wsV RL 140 RX9 yX9_moves wsX9_moves) := goodIn_app (goodIn_of _ (by decide +kernel)) ggL_law_X9_moves
set_option maxRecDepth 20000 in
theorem ggL_law_L_spell : GoodIn wsL_law wsL_spell := goodIn_ca (goodIn_ca (goodIn_r _ [497, 115, 276, 498, 499, 500, 2, 501, 127, 128, 281, 282, 24, 394, 395, 396, 23, 397, 57, 502, 409, 410, 411, 56, 503, 504, 505, 506, 404, 405, 406, 407, 507, 508, 991, 992, 993, 994, 995, 996, 997, 998, 999, 1000, 1034, 1035] (by decide +kernel) (by decide +kernel)) (goodIn_sub (fun _ h => List.mem_append_left _ (List.mem_append_left _ (List.mem_append_right _ h))) (by decide +kernel))) (goodIn_sub (fun _ h => List.mem_append_left _ (List.mem_append_right _ h)) (by decide +kernel))
set_option maxRecDepth 20000 in
theorem gL_law_L_spell : GoodIn wsL_law (va_wsS RL 141 yL_spell wsL_spell) := goodIn_app (goodIn_of _ (by decide +kernel)) ggL_law_L_spell
set_option maxRecDepth 20000 in
theorem ggL_law_X9_spell : GoodIn wsL_law wsX9_spell := goodIn_r _ [512, 98, 227, 97, 232, 233, 5, 234, 1001, 1002, 1003, 1004, 1005, 1006, 1007, 1008, 1009, 1010, 1011, 1012, 1013, 1014, 1015, 1016, 1017, 1018, 1019, 1020, 1021, 1022, 1023, 1024, 1025, 1026, 1027, 1028, 1029] (by decide +kernel) (by decide +kernel)
set_option maxRecDepth 20000 in
theorem gL_law_X9_spell : GoodIn wsL_law (wsV RL 143 RX9 yX9_spell wsX9_spell) := goodIn_app (goodIn_of _ (by decide +kernel)) ggL_law_X9_spell
set_option maxRecDepth 20000 in
theorem ggL_law_X8_clearSpelled : GoodIn wsL_law wsX8_clearSpelled := goodIn_r _ [516, 24, 394, 395, 396, 23, 397, 57, 517, 518, 519, 520, 991, 992, 993, 994, 995, 996, 997, 998, 999, 1000, 1034, 1035] (by decide +kernel) (by decide +kernel)
set_option maxRecDepth 20000 in
theorem gL_law_X8_clearSpelled : GoodIn wsL_law (wsV RL 144 RX8 yX8_clearSpelled wsX8_clearSpelled) := goodIn_app (goodIn_of _ (by decide +kernel)) ggL_law_X8_clearSpelled
set_option maxRecDepth 20000 in
theorem ggL_law_X9_clearSpelled : GoodIn wsL_law wsX9_clearSpelled := goodIn_r _ [524, 227, 98, 1001, 1002, 1003, 1004, 1005, 1006, 1007, 1008, 1009, 1010, 1011, 1012, 1013, 1014, 1015, 1016, 1017, 1018, 1019, 1020, 1021, 1022, 1023, 1024, 1025, 1026, 1027, 1028, 1029] (by decide +kernel) (by decide +kernel)
set_option maxRecDepth 20000 in
theorem gL_law_X9_clearSpelled : GoodIn wsL_law (wsV RL 147 RX9 yX9_clearSpelled wsX9_clearSpelled) := goodIn_app (goodIn_of _ (by decide +kernel)) ggL_law_X9_clearSpelled
set_option maxRecDepth 20000 in
theorem ggL_law_L_cipherLength : GoodIn wsL_law wsL_cipherLength := goodIn_ca (goodIn_ca (goodIn_r _ [527, 115, 528, 529, 530, 531, 2, 532, 533, 534, 429, 430, 431, 432, 127, 128, 28, 123, 193, 143, 144, 27, 145, 146, 194, 148, 149, 150, 151, 152, 153, 154, 155, 156, 157, 158, 159, 160, 161, 162, 62, 452, 453, 454, 198, 455, 201, 535, 536, 537, 538, 416, 539, 395, 396, 23, 397, 57, 540, 541, 542, 543, 544, 545, 546, 547, 548, 549, 405, 406, 407, 56, 550, 507, 508, 991, 992, 993, 994, 995, 996, 997, 998, 999, 1000, 1036, 1037, 1038, 1047, 1048, 1049, 1050, 1034, 1035] (by decide +kernel) (by decide +kernel)) (goodIn_sub (fun _ h => List.mem_append_right _ h) (by decide +kernel))) (goodIn_sub (fun _ h => List.mem_append_left _ (List.mem_append_left _ (List.mem_append_right _ h))) (by decide +kernel))
set_option maxRecDepth 20000 in
theorem gL_law_L_cipherLength : GoodIn wsL_law (va_wsS RL 148 yL_cipherLength wsL_cipherLength) := goodIn_app (goodIn_of _ (by decide +kernel)) ggL_law_L_cipherLength
set_option maxRecDepth 20000 in
theorem ggL_law_X9_cipherLength : GoodIn wsL_law wsX9_cipherLength := goodIn_r _ [554, 555, 556, 557, 558, 5, 559, 95, 227, 441, 442, 443, 444, 228, 232, 233, 234, 560, 561, 562, 563, 98, 97, 564, 565, 566, 567, 108, 568, 569, 1001, 1002, 1003, 1004, 1005, 1006, 1007, 1008, 1009, 1010, 1011, 1012, 1013, 1014, 1015, 1016, 1017, 1018, 1019, 1020, 1021, 1022, 1023, 1024, 1025, 1026, 1027, 1028, 1029] (by decide +kernel) (by decide +kernel)
set_option maxRecDepth 20000 in
theorem gL_law_X9_cipherLength : GoodIn wsL_law (wsV RL 150 RX9 yX9_cipherLength wsX9_cipherLength) := goodIn_app (goodIn_of _ (by decide +kernel)) ggL_law_X9_cipherLength
set_option maxRecDepth 20000 in
theorem ggL_law_L_cipherAt : GoodIn wsL_law wsL_cipherAt := goodIn_ca (goodIn_ca (goodIn_r _ [572, 115, 528, 573, 574, 575, 2, 576, 533, 534, 429, 430, 431, 432, 127, 128, 28, 123, 193, 143, 144, 27, 145, 146, 194, 148, 149, 150, 151, 152, 153, 154, 155, 156, 157, 158, 159, 160, 161, 162, 62, 452, 453, 454, 198, 455, 201, 535, 536, 537, 538, 416, 539, 395, 396, 23, 397, 57, 540, 541, 542, 543, 544, 545, 546, 547, 548, 549, 405, 406, 407, 56, 550, 507, 508, 577, 578, 579, 580, 581, 991, 992, 993, 994, 995, 996, 997, 998, 999, 1000, 1036, 1037, 1038, 1047, 1048, 1049, 1050, 1034, 1035] (by decide +kernel) (by decide +kernel)) (goodIn_sub (fun _ h => List.mem_append_right _ h) (by decide +kernel))) (goodIn_sub (fun _ h => List.mem_append_left _ (List.mem_append_left _ (List.mem_append_right _ h))) (by decide +kernel))
set_option maxRecDepth 20000 in
theorem gL_law_L_cipherAt : GoodIn wsL_law (va_wsS RL 151 yL_cipherAt wsL_cipherAt) := goodIn_app (goodIn_of _ (by decide +kernel)) ggL_law_L_cipherAt
set_option maxRecDepth 20000 in
theorem ggL_law_X9_cipherAt : GoodIn wsL_law wsX9_cipherAt := goodIn_r _ [585, 555, 227, 108, 556, 557, 558, 5, 559, 95, 441, 442, 443, 444, 228, 232, 233, 234, 560, 561, 562, 563, 98, 97, 564, 565, 566, 567, 568, 569, 1001, 1002, 1003, 1004, 1005, 1006, 1007, 1008, 1009, 1010, 1011, 1012, 1013, 1014, 1015, 1016, 1017, 1018, 1019, 1020, 1021, 1022, 1023, 1024, 1025, 1026, 1027, 1028, 1029] (by decide +kernel) (by decide +kernel)
set_option maxRecDepth 20000 in
theorem gL_law_X9_cipherAt : GoodIn wsL_law (wsV RL 153 RX9 yX9_cipherAt wsX9_cipherAt) := goodIn_app (goodIn_of _ (by decide +kernel)) ggL_law_X9_cipherAt
