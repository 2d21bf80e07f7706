theorem dX8_answer_20 : decode cX8_answer 20 = .ok (.aload_n 3, 1) := by decide +kernel
theorem dX8_answer_21 : decode cX8_answer 21 = .ok (.invokevirtual 207, 3) := by decide +kernel
theorem dX8_answer_24 : decode cX8_answer 24 = .ok (.aload 4, 2) := by decide +kernel
theorem dX8_answer_26 : decode cX8_answer 26 = .ok (.invokevirtual 151, 3) := by decide +kernel
theorem dX8_answer_29 : decode cX8_answer 29 = .ok (.if_icmp .ne 11, 3) := by decide +kernel
theorem dX8_answer_32 : decode cX8_answer 32 = .ok (.aload_n 3, 1) := by decide +kernel
theorem dX8_answer_33 : decode cX8_answer 33 = .ok (.invokevirtual 221, 3) := by decide +kernel
theorem dX8_answer_36 : decode cX8_answer 36 = .ok (.iload_n 2, 1) := by decide +kernel
theorem dX8_answer_37 : decode cX8_answer 37 = .ok (.if_icmp .eq 11, 3) := by decide +kernel
theorem dX8_answer_40 : decode cX8_answer 40 = .ok (.new 100, 3) := by decide +kernel
theorem dX8_answer_43 : decode cX8_answer 43 = .ok (.dup, 1) := by decide +kernel
theorem dX8_answer_44 : decode cX8_answer 44 = .ok (.invokespecial 102, 3) := by decide +kernel
theorem dX8_answer_47 : decode cX8_answer 47 = .ok (.athrow, 1) := by decide +kernel
theorem dX8_answer_48 : decode cX8_answer 48 = .ok (.aload_n 0, 1) := by decide +kernel
theorem dX8_answer_49 : decode cX8_answer 49 = .ok (.getfield 26, 3) := by decide +kernel
theorem dX8_answer_52 : decode cX8_answer 52 = .ok (.aload 4, 2) := by decide +kernel
theorem dX8_answer_54 : decode cX8_answer 54 = .ok (.invokevirtual 224, 3) := by decide +kernel
theorem dX8_answer_57 : decode cX8_answer 57 = .ok (.invokevirtual 227, 3) := by decide +kernel
theorem dX8_answer_60 : decode cX8_answer 60 = .ok (.istore 5, 2) := by decide +kernel
theorem dX8_answer_62 : decode cX8_answer 62 = .ok (.iload 5, 2) := by decide +kernel
theorem dX8_answer_64 : decode cX8_answer 64 = .ok (.ifCond .eq 11, 3) := by decide +kernel
theorem dX8_answer_67 : decode cX8_answer 67 = .ok (.aload_n 3, 1) := by decide +kernel
theorem dX8_answer_68 : decode cX8_answer 68 = .ok (.iload_n 2, 1) := by decide +kernel
theorem dX8_answer_69 : decode cX8_answer 69 = .ok (.invokevirtual 231, 3) := by decide +kernel
theorem dX8_answer_72 : decode cX8_answer 72 = .ok (.goto 8, 3) := by decide +kernel
theorem dX8_answer_75 : decode cX8_answer 75 = .ok (.aload_n 3, 1) := by decide +kernel
theorem dX8_answer_76 : decode cX8_answer 76 = .ok (.iload_n 2, 1) := by decide +kernel
theorem dX8_answer_77 : decode cX8_answer 77 = .ok (.invokevirtual 234, 3) := by decide +kernel
theorem dX8_answer_80 : decode cX8_answer 80 = .ok (.aload_n 0, 1) := by decide +kernel
theorem dX8_answer_81 : decode cX8_answer 81 = .ok (.getfield 47, 3) := by decide +kernel
theorem dX8_answer_84 : decode cX8_answer 84 = .ok (.iload 5, 2) := by decide +kernel
theorem dX8_answer_86 : decode cX8_answer 86 = .ok (.ifCond .eq 7, 3) := by decide +kernel
theorem dX8_answer_89 : decode cX8_answer 89 = .ok (.iconst 0, 1) := by decide +kernel
theorem dX8_answer_90 : decode cX8_answer 90 = .ok (.goto 4, 3) := by decide +kernel
theorem dX8_answer_93 : decode cX8_answer 93 = .ok (.iconst 1, 1) := by decide +kernel
theorem dX8_answer_94 : decode cX8_answer 94 = .ok (.iload_n 1, 1) := by decide +kernel
theorem dX8_answer_95 : decode cX8_answer 95 = .ok (.iload_n 2, 1) := by decide +kernel
theorem dX8_answer_96 : decode cX8_answer 96 = .ok (.invokevirtual 237, 3) := by decide +kernel
theorem dX8_answer_99 : decode cX8_answer 99 = .ok (.iload 5, 2) := by decide +kernel
theorem dX8_answer_101 : decode cX8_answer 101 = .ok (.ireturn, 1) := by decide +kernel
set_option maxRecDepth 20000 in
theorem ggX8_tell_X8_requireWalker : GoodIn wsX8_tell wsX8_requireWalker := goodIn_ca (goodIn_r _ [10, 11, 12, 13, 14, 15, 16, 17, 18, 19, 20, 21, 22, 23, 24, 25, 26, 27, 28, 29, 30, 31, 32, 33, 34, 35, 36, 37, 99, 100, 101, 102, 103, 104, 105, 106, 107, 108, 109, 110, 111] (by decide +kernel) (by decide +kernel)) (goodIn_sub (fun _ h => List.mem_cons_of_mem _ (List.mem_append_right _ h)) (by decide +kernel))
set_option maxRecDepth 20000 in
theorem gX8_tell_X8_requireWalker : GoodIn wsX8_tell (wsV RX8 196 RX8 yX8_requireWalker wsX8_requireWalker) := goodIn_app (goodIn_of _ (by decide +kernel)) ggX8_tell_X8_requireWalker
set_option maxRecDepth 20000 in
theorem ggX8_tell_X8_requireStage : GoodIn wsX8_tell wsX8_requireStage := goodIn_ca (goodIn_r _ [41, 11, 12, 42, 43, 15, 16, 17, 18, 19, 20, 21, 22, 23, 24, 25, 26, 27, 28, 29, 30, 31, 32, 33, 34, 35, 36, 37, 99, 100, 101, 102, 103, 104, 105, 106, 107, 108, 109, 110, 111] (by decide +kernel) (by decide +kernel)) (goodIn_sub (fun _ h => List.mem_cons_of_mem _ (List.mem_append_right _ h)) (by decide +kernel))
set_option maxRecDepth 20000 in
theorem gX8_tell_X8_requireStage : GoodIn wsX8_tell (wsV RX8 143 RX8 yX8_requireStage wsX8_requireStage) := goodIn_app (goodIn_of _ (by decide +kernel)) ggX8_tell_X8_requireStage
set_option maxRecDepth 20000 in
theorem ggX8_tell_X6_hasSolved : GoodIn wsX8_tell wsX6_hasSolved := goodIn_r _ [48, 49, 112, 113, 114, 115, 116, 117, 118, 119, 120] (by decide +kernel) (by decide +kernel)
set_option maxRecDepth 20000 in
theorem gX8_tell_X6_hasSolved : GoodIn wsX8_tell (wsV RX8 241 RX6 yX6_hasSolved wsX6_hasSolved) := goodIn_app (goodIn_of _ (by decide +kernel)) ggX8_tell_X6_hasSolved
set_option maxRecDepth 20000 in
theorem ggX8_tell_X6_standsAt : GoodIn wsX8_tell wsX6_standsAt := goodIn_r _ [53, 54, 112, 113, 114, 115, 116, 117, 118, 119, 120] (by decide +kernel) (by decide +kernel)
set_option maxRecDepth 20000 in
theorem gX8_tell_X6_standsAt : GoodIn wsX8_tell (wsV RX8 207 RX6 yX6_standsAt wsX6_standsAt) := goodIn_app (goodIn_of _ (by decide +kernel)) ggX8_tell_X6_standsAt
set_option maxRecDepth 20000 in
theorem ggX8_tell_X3_distance : GoodIn wsX8_tell wsX3_distance := goodIn_r _ [58, 59, 60, 61, 62, 63, 64, 57, 65, 66, 67, 68] (by decide +kernel) (by decide +kernel)
set_option maxRecDepth 20000 in
theorem gX8_tell_X3_distance : GoodIn wsX8_tell (va_wsS RX8 217 yX3_distance wsX3_distance) := goodIn_app (goodIn_of _ (by decide +kernel)) ggX8_tell_X3_distance
set_option maxRecDepth 20000 in
theorem ggX8_tell_X6_wasTold : GoodIn wsX8_tell wsX6_wasTold := goodIn_r _ [72, 73, 112, 113, 114, 115, 116, 117, 118, 119, 120] (by decide +kernel) (by decide +kernel)
set_option maxRecDepth 20000 in
theorem gX8_tell_X6_wasTold : GoodIn wsX8_tell (wsV RX8 244 RX6 yX6_wasTold wsX6_wasTold) := goodIn_app (goodIn_of _ (by decide +kernel)) ggX8_tell_X6_wasTold
set_option maxRecDepth 20000 in
theorem ggX8_tell_X6_hear : GoodIn wsX8_tell wsX6_hear := goodIn_r _ [77, 73, 112, 113, 114, 115, 116, 117, 118, 119, 120] (by decide +kernel) (by decide +kernel)
set_option maxRecDepth 20000 in
theorem gX8_tell_X6_hear : GoodIn wsX8_tell (wsV RX8 247 RX6 yX6_hear wsX6_hear) := goodIn_app (goodIn_of _ (by decide +kernel)) ggX8_tell_X6_hear
set_option maxRecDepth 20000 in
theorem ggX8_tell_X0_write : GoodIn wsX8_tell wsX0_write := goodIn_r _ [82, 83, 84, 85, 86, 81, 87, 121, 122] (by decide +kernel) (by decide +kernel)
set_option maxRecDepth 20000 in
theorem gX8_tell_X0_write : GoodIn wsX8_tell (wsV RX8 237 RX0 yX0_write wsX0_write) := goodIn_app (goodIn_of _ (by decide +kernel)) ggX8_tell_X0_write
set_option maxRecDepth 20000 in
theorem ggX8_tell_X6_pointsOf : GoodIn wsX8_tell wsX6_pointsOf := goodIn_r _ [91, 92, 93, 70, 71, 47, 72, 73, 94, 9, 95, 96, 97, 61, 98, 112, 113, 114, 115, 116, 117, 118, 119, 120] (by decide +kernel) (by decide +kernel)
set_option maxRecDepth 20000 in
theorem gX8_tell_X6_pointsOf : GoodIn wsX8_tell (wsV RX8 250 RX6 yX6_pointsOf wsX6_pointsOf) := goodIn_app (goodIn_of _ (by decide +kernel)) ggX8_tell_X6_pointsOf
theorem dX8_tell_0 : decode cX8_tell 0 = .ok (.aload_n 0, 1) := by decide +kernel
theorem dX8_tell_1 : decode cX8_tell 1 = .ok (.iload_n 1, 1) := by decide +kernel
theorem dX8_tell_2 : decode cX8_tell 2 = .ok (.invokevirtual 196, 3) := by decide +kernel
theorem dX8_tell_5 : decode cX8_tell 5 = .ok (.astore 4, 2) := by decide +kernel
theorem dX8_tell_7 : decode cX8_tell 7 = .ok (.aload_n 0, 1) := by decide +kernel
theorem dX8_tell_8 : decode cX8_tell 8 = .ok (.iload_n 2, 1) := by decide +kernel
theorem dX8_tell_9 : decode cX8_tell 9 = .ok (.invokevirtual 196, 3) := by decide +kernel
theorem dX8_tell_12 : decode cX8_tell 12 = .ok (.astore 5, 2) := by decide +kernel
theorem dX8_tell_14 : decode cX8_tell 14 = .ok (.aload_n 0, 1) := by decide +kernel
theorem dX8_tell_15 : decode cX8_tell 15 = .ok (.iload_n 3, 1) := by decide +kernel
theorem dX8_tell_16 : decode cX8_tell 16 = .ok (.invokevirtual 143, 3) := by decide +kernel
theorem dX8_tell_19 : decode cX8_tell 19 = .ok (.pop, 1) := by decide +kernel
theorem dX8_tell_20 : decode cX8_tell 20 = .ok (.iload_n 1, 1) := by decide +kernel
theorem dX8_tell_21 : decode cX8_tell 21 = .ok (.iload_n 2, 1) := by decide +kernel
theorem dX8_tell_22 : decode cX8_tell 22 = .ok (.if_icmp .ne 11, 3) := by decide +kernel
theorem dX8_tell_25 : decode cX8_tell 25 = .ok (.new 69, 3) := by decide +kernel
theorem dX8_tell_28 : decode cX8_tell 28 = .ok (.dup, 1) := by decide +kernel
theorem dX8_tell_29 : decode cX8_tell 29 = .ok (.invokespecial 71, 3) := by decide +kernel
theorem dX8_tell_32 : decode cX8_tell 32 = .ok (.athrow, 1) := by decide +kernel
theorem dX8_tell_33 : decode cX8_tell 33 = .ok (.aload 4, 2) := by decide +kernel
theorem dX8_tell_35 : decode cX8_tell 35 = .ok (.iload_n 3, 1) := by decide +kernel
theorem dX8_tell_36 : decode cX8_tell 36 = .ok (.invokevirtual 241, 3) := by decide +kernel
theorem dX8_tell_39 : decode cX8_tell 39 = .ok (.ifCond .eq 38, 3) := by decide +kernel
theorem dX8_tell_42 : decode cX8_tell 42 = .ok (.aload 4, 2) := by decide +kernel
theorem dX8_tell_44 : decode cX8_tell 44 = .ok (.invokevirtual 207, 3) := by decide +kernel
theorem dX8_tell_47 : decode cX8_tell 47 = .ok (.aload 5, 2) := by decide +kernel
theorem dX8_tell_49 : decode cX8_tell 49 = .ok (.invokevirtual 207, 3) := by decide +kernel
theorem dX8_tell_52 : decode cX8_tell 52 = .ok (.invokestatic 217, 3) := by decide +kernel
theorem dX8_tell_55 : decode cX8_tell 55 = .ok (.iconst 1, 1) := by decide +kernel
theorem dX8_tell_56 : decode cX8_tell 56 = .ok (.if_icmp .gt 21, 3) := by decide +kernel
theorem dX8_tell_59 : decode cX8_tell 59 = .ok (.aload 5, 2) := by decide +kernel
theorem dX8_tell_61 : decode cX8_tell 61 = .ok (.iload_n 3, 1) := by decide +kernel
theorem dX8_tell_62 : decode cX8_tell 62 = .ok (.invokevirtual 241, 3) := by decide +kernel
theorem dX8_tell_65 : decode cX8_tell 65 = .ok (.ifCond .ne 12, 3) := by decide +kernel
theorem dX8_tell_68 : decode cX8_tell 68 = .ok (.aload 5, 2) := by decide +kernel
theorem dX8_tell_70 : decode cX8_tell 70 = .ok (.iload_n 3, 1) := by decide +kernel
theorem dX8_tell_71 : decode cX8_tell 71 = .ok (.invokevirtual 244, 3) := by decide +kernel
theorem dX8_tell_74 : decode cX8_tell 74 = .ok (.ifCond .eq 11, 3) := by decide +kernel
theorem dX8_tell_77 : decode cX8_tell 77 = .ok (.new 100, 3) := by decide +kernel
theorem dX8_tell_80 : decode cX8_tell 80 = .ok (.dup, 1) := by decide +kernel
theorem dX8_tell_81 : decode cX8_tell 81 = .ok (.invokespecial 102, 3) := by decide +kernel
theorem dX8_tell_84 : decode cX8_tell 84 = .ok (.athrow, 1) := by decide +kernel
theorem dX8_tell_85 : decode cX8_tell 85 = .ok (.aload 5, 2) := by decide +kernel
theorem dX8_tell_87 : decode cX8_tell 87 = .ok (.iload_n 3, 1) := by decide +kernel
theorem dX8_tell_88 : decode cX8_tell 88 = .ok (.invokevirtual 247, 3) := by decide +kernel
theorem dX8_tell_91 : decode cX8_tell 91 = .ok (.aload_n 0, 1) := by decide +kernel
theorem dX8_tell_92 : decode cX8_tell 92 = .ok (.getfield 47, 3) := by decide +kernel
theorem dX8_tell_95 : decode cX8_tell 95 = .ok (.iconst 2, 1) := by decide +kernel
theorem dX8_tell_96 : decode cX8_tell 96 = .ok (.iload_n 2, 1) := by decide +kernel
theorem dX8_tell_97 : decode cX8_tell 97 = .ok (.iload_n 3, 1) := by decide +kernel
theorem dX8_tell_98 : decode cX8_tell 98 = .ok (.invokevirtual 237, 3) := by decide +kernel
theorem dX8_tell_101 : decode cX8_tell 101 = .ok (.aload 5, 2) := by decide +kernel
theorem dX8_tell_103 : decode cX8_tell 103 = .ok (.iload_n 3, 1) := by decide +kernel
theorem dX8_tell_104 : decode cX8_tell 104 = .ok (.invokevirtual 250, 3) := by decide +kernel
theorem dX8_tell_107 : decode cX8_tell 107 = .ok (.ireturn, 1) := by decide +kernel
set_option maxRecDepth 20000 in
theorem ggX8_solved_X8_requireWalker : GoodIn wsX8_solved wsX8_requireWalker := goodIn_ca (goodIn_r _ [5, 6, 7, 8, 9, 10, 11, 12, 13, 14, 15, 16, 17, 18, 19, 20, 21, 22, 23, 24, 25, 26, 27, 28, 29, 30, 31, 32, 39, 40, 41, 42, 43, 44, 45, 46, 47, 48, 49, 50, 51] (by decide +kernel) (by decide +kernel)) (goodIn_sub (fun _ h => List.mem_cons_of_mem _ (List.mem_append_right _ h)) (by decide +kernel))
set_option maxRecDepth 20000 in
theorem gX8_solved_X8_requireWalker : GoodIn wsX8_solved (wsV RX8 196 RX8 yX8_requireWalker wsX8_requireWalker) := goodIn_app (goodIn_of _ (by decide +kernel)) ggX8_solved_X8_requireWalker
set_option maxRecDepth 20000 in
theorem ggX8_solved_X6_solvedCount : GoodIn wsX8_solved wsX6_solvedCount := goodIn_r _ [37, 38, 52, 53, 54, 55, 56, 57, 58, 59, 60] (by decide +kernel) (by decide +kernel)
set_option maxRecDepth 20000 in
theorem gX8_solved_X6_solvedCount : GoodIn wsX8_solved (wsV RX8 221 RX6 yX6_solvedCount wsX6_solvedCount) := goodIn_app (goodIn_of _ (by decide +kernel)) ggX8_solved_X6_solvedCount
theorem dX8_solved_0 : decode cX8_solved 0 = .ok (.aload_n 0, 1) := by decide +kernel
theorem dX8_solved_1 : decode cX8_solved 1 = .ok (.iload_n 1, 1) := by decide +kernel
theorem dX8_solved_2 : decode cX8_solved 2 = .ok (.invokevirtual 196, 3) := by decide +kernel
theorem dX8_solved_5 : decode cX8_solved 5 = .ok (.invokevirtual 221, 3) := by decide +kernel
theorem dX8_solved_8 : decode cX8_solved 8 = .ok (.ireturn, 1) := by decide +kernel
set_option maxRecDepth 20000 in
theorem ggX8_score_X8_requireWalker : GoodIn wsX8_score wsX8_requireWalker := goodIn_ca (goodIn_r _ [5, 6, 7, 8, 9, 10, 11, 12, 13, 14, 15, 16, 17, 18, 19, 20, 21, 22, 23, 24, 25, 26, 27, 28, 29, 30, 31, 32, 39, 40, 41, 42, 43, 44, 45, 46, 47, 48, 49, 50, 51] (by decide +kernel) (by decide +kernel)) (goodIn_sub (fun _ h => List.mem_cons_of_mem _ (List.mem_append_right _ h)) (by decide +kernel))
set_option maxRecDepth 20000 in
theorem gX8_score_X8_requireWalker : GoodIn wsX8_score (wsV RX8 196 RX8 yX8_requireWalker wsX8_requireWalker) := goodIn_app (goodIn_of _ (by decide +kernel)) ggX8_score_X8_requireWalker
set_option maxRecDepth 20000 in
theorem ggX8_score_X6_keptScore : GoodIn wsX8_score wsX6_keptScore := goodIn_r _ [37, 38, 52, 53, 54, 55, 56, 57, 58, 59, 60] (by decide +kernel) (by decide +kernel)
set_option maxRecDepth 20000 in
theorem gX8_score_X6_keptScore : GoodIn wsX8_score (wsV RX8 253 RX6 yX6_keptScore wsX6_keptScore) := goodIn_app (goodIn_of _ (by decide +kernel)) ggX8_score_X6_keptScore
theorem dX8_score_0 : decode cX8_score 0 = .ok (.aload_n 0, 1) := by decide +kernel
theorem dX8_score_1 : decode cX8_score 1 = .ok (.iload_n 1, 1) := by decide +kernel
theorem dX8_score_2 : decode cX8_score 2 = .ok (.invokevirtual 196, 3) := by decide +kernel
theorem dX8_score_5 : decode cX8_score 5 = .ok (.invokevirtual 253, 3) := by decide +kernel
theorem dX8_score_8 : decode cX8_score 8 = .ok (.ireturn, 1) := by decide +kernel
set_option maxRecDepth 20000 in
theorem ggX8_scoreAnew_X8_requireWalker : GoodIn wsX8_scoreAnew wsX8_requireWalker := goodIn_ca (goodIn_r _ [6, 7, 8, 9, 10, 11, 12, 13, 14, 15, 16, 17, 18, 19, 20, 21, 22, 23, 24, 25, 26, 27, 28, 29, 30, 31, 32, 33, 54, 55, 56, 57, 58, 59, 60, 61, 62, 63, 64, 65, 66] (by decide +kernel) (by decide +kernel)) (goodIn_sub (fun _ h => List.mem_cons_of_mem _ (List.mem_append_right _ h)) (by decide +kernel))
set_option maxRecDepth 20000 in
theorem gX8_scoreAnew_X8_requireWalker : GoodIn wsX8_scoreAnew (wsV RX8 196 RX8 yX8_requireWalker wsX8_requireWalker) := goodIn_app (goodIn_of _ (by decide +kernel)) ggX8_scoreAnew_X8_requireWalker
set_option maxRecDepth 20000 in
theorem ggX8_scoreAnew_X0_scoreOf : GoodIn wsX8_scoreAnew wsX0_scoreOf := goodIn_r _ [38, 39, 40, 41, 37, 42, 43, 44, 45, 46, 47, 48, 5, 49, 50, 51, 52, 53, 67, 68] (by decide +kernel) (by decide +kernel)
set_option maxRecDepth 20000 in
theorem gX8_scoreAnew_X0_scoreOf : GoodIn wsX8_scoreAnew (wsV RX8 256 RX0 yX0_scoreOf wsX0_scoreOf) := goodIn_app (goodIn_of _ (by decide +kernel)) ggX8_scoreAnew_X0_scoreOf
theorem dX8_scoreAnew_0 : decode cX8_scoreAnew 0 = .ok (.aload_n 0, 1) := by decide +kernel
theorem dX8_scoreAnew_1 : decode cX8_scoreAnew 1 = .ok (.iload_n 1, 1) := by decide +kernel
theorem dX8_scoreAnew_2 : decode cX8_scoreAnew 2 = .ok (.invokevirtual 196, 3) := by decide +kernel
theorem dX8_scoreAnew_5 : decode cX8_scoreAnew 5 = .ok (.pop, 1) := by decide +kernel
theorem dX8_scoreAnew_6 : decode cX8_scoreAnew 6 = .ok (.aload_n 0, 1) := by decide +kernel
theorem dX8_scoreAnew_7 : decode cX8_scoreAnew 7 = .ok (.getfield 47, 3) := by decide +kernel
theorem dX8_scoreAnew_10 : decode cX8_scoreAnew 10 = .ok (.iload_n 1, 1) := by decide +kernel
theorem dX8_scoreAnew_11 : decode cX8_scoreAnew 11 = .ok (.invokevirtual 256, 3) := by decide +kernel
theorem dX8_scoreAnew_14 : decode cX8_scoreAnew 14 = .ok (.ireturn, 1) := by decide +kernel
set_option maxRecDepth 20000 in
theorem ggX8_walkerAt_Jx4a65c_size_8abf5 : GoodIn wsX8_walkerAt wsJx4a65c_size_8abf5 := goodIn_r _ [7, 8, 47, 48, 49] (by decide +kernel) (by decide +kernel)
set_option maxRecDepth 20000 in
theorem gX8_walkerAt_Jx4a65c_size_8abf5 : GoodIn wsX8_walkerAt (wsV RX8 79 RJx4a65c yJx4a65c_size_8abf5 wsJx4a65c_size_8abf5) := goodIn_app (goodIn_of _ (by decide +kernel)) ggX8_walkerAt_Jx4a65c_size_8abf5
set_option maxRecDepth 20000 in
theorem ggX8_walkerAt_Jx4a65c_get_915e3 : GoodIn wsX8_walkerAt wsJx4a65c_get_915e3 := goodIn_r _ [12, 8, 13, 14, 15, 16, 17, 18, 19, 20, 21, 22, 23, 6, 24, 25, 47, 48, 49] (by decide +kernel) (by decide +kernel)
set_option maxRecDepth 20000 in
theorem gX8_walkerAt_Jx4a65c_get_915e3 : GoodIn wsX8_walkerAt (wsV RX8 83 RJx4a65c yJx4a65c_get_915e3 wsJx4a65c_get_915e3) := goodIn_app (goodIn_of _ (by decide +kernel)) ggX8_walkerAt_Jx4a65c_get_915e3
set_option maxRecDepth 20000 in
theorem ggX8_walkerAt_X6_keptScore : GoodIn wsX8_walkerAt wsX6_keptScore := goodIn_r _ [30, 31, 50, 51, 52, 53, 54, 55, 56, 57, 58] (by decide +kernel) (by decide +kernel)
set_option maxRecDepth 20000 in
theorem gX8_walkerAt_X6_keptScore : GoodIn wsX8_walkerAt (wsV RX8 253 RX6 yX6_keptScore wsX6_keptScore) := goodIn_app (goodIn_of _ (by decide +kernel)) ggX8_walkerAt_X6_keptScore
set_option maxRecDepth 20000 in
theorem ggX8_walkerAt_X8_rankOf : GoodIn wsX8_walkerAt wsX8_rankOf := goodIn_r _ [36, 1, 2, 3, 4, 5, 6, 7, 8, 9, 10, 11, 12, 13, 14, 15, 16, 17, 18, 19, 20, 21, 22, 23, 24, 25, 26, 27, 28, 29, 30, 31, 37, 38, 39, 40, 41, 42, 43, 44, 45, 46, 47, 48, 49, 50, 51, 52, 53, 54, 55, 56, 57, 58] (by decide +kernel) (by decide +kernel)
set_option maxRecDepth 20000 in
theorem gX8_walkerAt_X8_rankOf : GoodIn wsX8_walkerAt (wsV RX8 259 RX8 yX8_rankOf wsX8_rankOf) := goodIn_app (goodIn_of _ (by decide +kernel)) ggX8_walkerAt_X8_rankOf
theorem dX8_walkerAt_0 : decode cX8_walkerAt 0 = .ok (.iconst 0, 1) := by decide +kernel
theorem dX8_walkerAt_1 : decode cX8_walkerAt 1 = .ok (.istore_n 2, 1) := by decide +kernel
theorem dX8_walkerAt_2 : decode cX8_walkerAt 2 = .ok (.iload_n 2, 1) := by decide +kernel
theorem dX8_walkerAt_3 : decode cX8_walkerAt 3 = .ok (.aload_n 0, 1) := by decide +kernel
theorem dX8_walkerAt_4 : decode cX8_walkerAt 4 = .ok (.getfield 37, 3) := by decide +kernel
theorem dX8_walkerAt_7 : decode cX8_walkerAt 7 = .ok (.invokevirtual 79, 3) := by decide +kernel
theorem dX8_walkerAt_10 : decode cX8_walkerAt 10 = .ok (.if_icmp .ge 34, 3) := by decide +kernel
theorem dX8_walkerAt_13 : decode cX8_walkerAt 13 = .ok (.aload_n 0, 1) := by decide +kernel
theorem dX8_walkerAt_14 : decode cX8_walkerAt 14 = .ok (.iload_n 2, 1) := by decide +kernel
theorem dX8_walkerAt_15 : decode cX8_walkerAt 15 = .ok (.aload_n 0, 1) := by decide +kernel
theorem dX8_walkerAt_16 : decode cX8_walkerAt 16 = .ok (.getfield 37, 3) := by decide +kernel
theorem dX8_walkerAt_19 : decode cX8_walkerAt 19 = .ok (.iload_n 2, 1) := by decide +kernel
theorem dX8_walkerAt_20 : decode cX8_walkerAt 20 = .ok (.invokevirtual 83, 3) := by decide +kernel
theorem dX8_walkerAt_23 : decode cX8_walkerAt 23 = .ok (.checkcast 188, 3) := by decide +kernel
theorem dX8_walkerAt_26 : decode cX8_walkerAt 26 = .ok (.invokevirtual 253, 3) := by decide +kernel
theorem dX8_walkerAt_29 : decode cX8_walkerAt 29 = .ok (.invokevirtual 259, 3) := by decide +kernel
theorem dX8_walkerAt_32 : decode cX8_walkerAt 32 = .ok (.iload_n 1, 1) := by decide +kernel
theorem dX8_walkerAt_33 : decode cX8_walkerAt 33 = .ok (.if_icmp .ne 5, 3) := by decide +kernel
theorem dX8_walkerAt_36 : decode cX8_walkerAt 36 = .ok (.iload_n 2, 1) := by decide +kernel
theorem dX8_walkerAt_37 : decode cX8_walkerAt 37 = .ok (.ireturn, 1) := by decide +kernel
theorem dX8_walkerAt_38 : decode cX8_walkerAt 38 = .ok (.iinc 2 1, 3) := by decide +kernel
theorem dX8_walkerAt_41 : decode cX8_walkerAt 41 = .ok (.goto (-39), 3) := by decide +kernel
theorem dX8_walkerAt_44 : decode cX8_walkerAt 44 = .ok (.iconst (-1), 1) := by decide +kernel
theorem dX8_walkerAt_45 : decode cX8_walkerAt 45 = .ok (.ireturn, 1) := by decide +kernel
set_option maxRecDepth 20000 in
theorem ggX8_requirePlace_X3_isPlace : GoodIn wsX8_requirePlace wsX3_isPlace := goodIn_r _ [6] (by decide +kernel) (by decide +kernel)
set_option maxRecDepth 20000 in
theorem gX8_requirePlace_X3_isPlace : GoodIn wsX8_requirePlace (va_wsS RX8 262 yX3_isPlace wsX3_isPlace) := goodIn_app (goodIn_of _ (by decide +kernel)) ggX8_requirePlace_X3_isPlace
theorem dX8_requirePlace_0 : decode cX8_requirePlace 0 = .ok (.iload_n 0, 1) := by decide +kernel
theorem dX8_requirePlace_1 : decode cX8_requirePlace 1 = .ok (.invokestatic 262, 3) := by decide +kernel
theorem dX8_requirePlace_4 : decode cX8_requirePlace 4 = .ok (.ifCond .ne 11, 3) := by decide +kernel
theorem dX8_requirePlace_7 : decode cX8_requirePlace 7 = .ok (.new 161, 3) := by decide +kernel
theorem dX8_requirePlace_10 : decode cX8_requirePlace 10 = .ok (.dup, 1) := by decide +kernel
theorem dX8_requirePlace_11 : decode cX8_requirePlace 11 = .ok (.invokespecial 163, 3) := by decide +kernel
theorem dX8_requirePlace_14 : decode cX8_requirePlace 14 = .ok (.athrow, 1) := by decide +kernel
theorem dX8_requirePlace_15 : decode cX8_requirePlace 15 = .ok (.return_, 1) := by decide +kernel
set_option maxRecDepth 20000 in
theorem ggX8_requireStage_Jx4a65c_size_8abf5 : GoodIn wsX8_requireStage wsJx4a65c_size_8abf5 := goodIn_r _ [9, 10, 38, 39, 40] (by decide +kernel) (by decide +kernel)
set_option maxRecDepth 20000 in
theorem gX8_requireStage_Jx4a65c_size_8abf5 : GoodIn wsX8_requireStage (wsV RX8 79 RJx4a65c yJx4a65c_size_8abf5 wsJx4a65c_size_8abf5) := goodIn_app (goodIn_of _ (by decide +kernel)) ggX8_requireStage_Jx4a65c_size_8abf5
set_option maxRecDepth 20000 in
theorem ggX8_requireStage_Jx4a65c_get_915e3 : GoodIn wsX8_requireStage wsJx4a65c_get_915e3 := goodIn_r _ [14, 10, 15, 16, 17, 18, 19, 20, 21, 22, 23, 24, 25, 8, 26, 27, 38, 39, 40] (by decide +kernel) (by decide +kernel)
set_option maxRecDepth 20000 in
theorem gX8_requireStage_Jx4a65c_get_915e3 : GoodIn wsX8_requireStage (wsV RX8 83 RJx4a65c yJx4a65c_get_915e3 wsJx4a65c_get_915e3) := goodIn_app (goodIn_of _ (by decide +kernel)) ggX8_requireStage_Jx4a65c_get_915e3
theorem dX8_requireStage_0 : decode cX8_requireStage 0 = .ok (.iload_n 1, 1) := by decide +kernel
theorem dX8_requireStage_1 : decode cX8_requireStage 1 = .ok (.ifCond .lt 14, 3) := by decide +kernel
theorem dX8_requireStage_4 : decode cX8_requireStage 4 = .ok (.iload_n 1, 1) := by decide +kernel
theorem dX8_requireStage_5 : decode cX8_requireStage 5 = .ok (.aload_n 0, 1) := by decide +kernel
theorem dX8_requireStage_6 : decode cX8_requireStage 6 = .ok (.getfield 33, 3) := by decide +kernel
theorem dX8_requireStage_9 : decode cX8_requireStage 9 = .ok (.invokevirtual 79, 3) := by decide +kernel
theorem dX8_requireStage_12 : decode cX8_requireStage 12 = .ok (.if_icmp .lt 11, 3) := by decide +kernel
theorem dX8_requireStage_15 : decode cX8_requireStage 15 = .ok (.new 161, 3) := by decide +kernel
theorem dX8_requireStage_18 : decode cX8_requireStage 18 = .ok (.dup, 1) := by decide +kernel
theorem dX8_requireStage_19 : decode cX8_requireStage 19 = .ok (.invokespecial 163, 3) := by decide +kernel
theorem dX8_requireStage_22 : decode cX8_requireStage 22 = .ok (.athrow, 1) := by decide +kernel
theorem dX8_requireStage_23 : decode cX8_requireStage 23 = .ok (.aload_n 0, 1) := by decide +kernel
theorem dX8_requireStage_24 : decode cX8_requireStage 24 = .ok (.getfield 33, 3) := by decide +kernel
theorem dX8_requireStage_27 : decode cX8_requireStage 27 = .ok (.iload_n 1, 1) := by decide +kernel
theorem dX8_requireStage_28 : decode cX8_requireStage 28 = .ok (.invokevirtual 83, 3) := by decide +kernel
theorem dX8_requireStage_31 : decode cX8_requireStage 31 = .ok (.checkcast 87, 3) := by decide +kernel
theorem dX8_requireStage_34 : decode cX8_requireStage 34 = .ok (.areturn, 1) := by decide +kernel
set_option maxRecDepth 20000 in
theorem ggX8_requireWalker_Jx4a65c_size_8abf5 : GoodIn wsX8_requireWalker wsJx4a65c_size_8abf5 := goodIn_r _ [9, 10, 38, 39, 40] (by decide +kernel) (by decide +kernel)
set_option maxRecDepth 20000 in
theorem gX8_requireWalker_Jx4a65c_size_8abf5 : GoodIn wsX8_requireWalker (wsV RX8 79 RJx4a65c yJx4a65c_size_8abf5 wsJx4a65c_size_8abf5) := goodIn_app (goodIn_of _ (by decide +kernel)) ggX8_requireWalker_Jx4a65c_size_8abf5
set_option maxRecDepth 20000 in
theorem ggX8_requireWalker_Jx4a65c_get_915e3 : GoodIn wsX8_requireWalker wsJx4a65c_get_915e3 := goodIn_r _ [14, 10, 15, 16, 17, 18, 19, 20, 21, 22, 23, 24, 25, 8, 26, 27, 38, 39, 40] (by decide +kernel) (by decide +kernel)
set_option maxRecDepth 20000 in
theorem gX8_requireWalker_Jx4a65c_get_915e3 : GoodIn wsX8_requireWalker (wsV RX8 83 RJx4a65c yJx4a65c_get_915e3 wsJx4a65c_get_915e3) := goodIn_app (goodIn_of _ (by decide +kernel)) ggX8_requireWalker_Jx4a65c_get_915e3
theorem dX8_requireWalker_0 : decode cX8_requireWalker 0 = .ok (.iload_n 1, 1) := by decide +kernel
theorem dX8_requireWalker_1 : decode cX8_requireWalker 1 = .ok (.ifCond .lt 14, 3) := by decide +kernel
theorem dX8_requireWalker_4 : decode cX8_requireWalker 4 = .ok (.iload_n 1, 1) := by decide +kernel
theorem dX8_requireWalker_5 : decode cX8_requireWalker 5 = .ok (.aload_n 0, 1) := by decide +kernel
theorem dX8_requireWalker_6 : decode cX8_requireWalker 6 = .ok (.getfield 37, 3) := by decide +kernel
theorem dX8_requireWalker_9 : decode cX8_requireWalker 9 = .ok (.invokevirtual 79, 3) := by decide +kernel
theorem dX8_requireWalker_12 : decode cX8_requireWalker 12 = .ok (.if_icmp .lt 11, 3) := by decide +kernel
theorem dX8_requireWalker_15 : decode cX8_requireWalker 15 = .ok (.new 161, 3) := by decide +kernel
theorem dX8_requireWalker_18 : decode cX8_requireWalker 18 = .ok (.dup, 1) := by decide +kernel
theorem dX8_requireWalker_19 : decode cX8_requireWalker 19 = .ok (.invokespecial 163, 3) := by decide +kernel
theorem dX8_requireWalker_22 : decode cX8_requireWalker 22 = .ok (.athrow, 1) := by decide +kernel
theorem dX8_requireWalker_23 : decode cX8_requireWalker 23 = .ok (.aload_n 0, 1) := by decide +kernel
theorem dX8_requireWalker_24 : decode cX8_requireWalker 24 = .ok (.getfield 37, 3) := by decide +kernel
theorem dX8_requireWalker_27 : decode cX8_requireWalker 27 = .ok (.iload_n 1, 1) := by decide +kernel
theorem dX8_requireWalker_28 : decode cX8_requireWalker 28 = .ok (.invokevirtual 83, 3) := by decide +kernel
theorem dX8_requireWalker_31 : decode cX8_requireWalker 31 = .ok (.checkcast 188, 3) := by decide +kernel
theorem dX8_requireWalker_34 : decode cX8_requireWalker 34 = .ok (.areturn, 1) := by decide +kernel
set_option maxRecDepth 20000 in
theorem ggX8_comesToGoal_X6_isResting : GoodIn wsX8_comesToGoal wsX6_isResting := goodIn_r _ [7, 8, 9, 10, 11, 6, 12, 13, 121, 122, 123, 124, 125, 126, 127, 128, 129] (by decide +kernel) (by decide +kernel)
set_option maxRecDepth 20000 in
theorem gX8_comesToGoal_X6_isResting : GoodIn wsX8_comesToGoal (wsV RX8 211 RX6 yX6_isResting wsX6_isResting) := goodIn_app (goodIn_of _ (by decide +kernel)) ggX8_comesToGoal_X6_isResting
set_option maxRecDepth 20000 in
theorem ggX8_comesToGoal_X6_hasStep : GoodIn wsX8_comesToGoal wsX6_hasStep := goodIn_r _ [12, 13, 121, 122, 123, 124, 125, 126, 127, 128, 129] (by decide +kernel) (by decide +kernel)
set_option maxRecDepth 20000 in
theorem gX8_comesToGoal_X6_hasStep : GoodIn wsX8_comesToGoal (wsV RX8 265 RX6 yX6_hasStep wsX6_hasStep) := goodIn_app (goodIn_of _ (by decide +kernel)) ggX8_comesToGoal_X6_hasStep
set_option maxRecDepth 20000 in
theorem ggX8_comesToGoal_X6_aimsAt : GoodIn wsX8_comesToGoal wsX6_aimsAt := goodIn_r _ [18, 8, 121, 122, 123, 124, 125, 126, 127, 128, 129] (by decide +kernel) (by decide +kernel)
set_option maxRecDepth 20000 in
theorem gX8_comesToGoal_X6_aimsAt : GoodIn wsX8_comesToGoal (wsV RX8 268 RX6 yX6_aimsAt wsX6_aimsAt) := goodIn_app (goodIn_of _ (by decide +kernel)) ggX8_comesToGoal_X6_aimsAt
set_option maxRecDepth 20000 in
theorem ggX8_comesToGoal_X7_measureNearestFirst : GoodIn wsX8_comesToGoal wsX7_measureNearestFirst := goodIn_r _ [23, 24, 25, 26, 27, 22, 28, 29, 30, 31, 32, 33, 34, 35, 36, 37, 38, 39, 40, 41, 42, 43, 44, 45, 46, 47, 48, 49, 50, 51, 52, 53, 54, 55, 56, 57, 58, 59, 60, 61, 62, 63, 64, 65, 66, 67, 68, 69, 70, 71, 72, 73, 74, 75, 76, 77, 78, 79, 80, 81, 130, 131, 132, 133] (by decide +kernel) (by decide +kernel)
set_option maxRecDepth 20000 in
theorem gX8_comesToGoal_X7_measureNearestFirst : GoodIn wsX8_comesToGoal (wsV RX8 203 RX7 yX7_measureNearestFirst wsX7_measureNearestFirst) := goodIn_app (goodIn_of _ (by decide +kernel)) ggX8_comesToGoal_X7_measureNearestFirst
set_option maxRecDepth 20000 in
theorem ggX8_comesToGoal_X8_beginStep : GoodIn wsX8_comesToGoal wsX8_beginStep := goodIn_r _ [86, 1, 2, 87, 88, 89, 6, 90, 91, 92, 93, 94, 22, 95, 30, 53, 54, 37, 55, 56, 57, 58, 59, 60, 61, 62, 63, 64, 65, 49, 50, 51, 52, 39, 40, 41, 42, 43, 44, 36, 38, 66, 67, 68, 69, 70, 71, 72, 73, 74, 75, 76, 77, 78, 79, 80, 81, 29, 35, 96, 97, 98, 99, 8, 100, 101, 102, 103, 104, 13, 105, 106, 111, 112, 113, 114, 115, 116, 117, 118, 119, 120, 121, 122, 123, 124, 125, 126, 127, 128, 129, 132, 133, 130, 131] (by decide +kernel) (by decide +kernel)
set_option maxRecDepth 20000 in
theorem gX8_comesToGoal_X8_beginStep : GoodIn wsX8_comesToGoal (wsV RX8 271 RX8 yX8_beginStep wsX8_beginStep) := goodIn_app (goodIn_of _ (by decide +kernel)) ggX8_comesToGoal_X8_beginStep
set_option maxRecDepth 20000 in
theorem ggX8_comesToGoal_X6_spendMinute : GoodIn wsX8_comesToGoal wsX6_spendMinute := goodIn_r _ [110, 106, 13, 91, 8, 9, 10, 11, 6, 12, 121, 122, 123, 124, 125, 126, 127, 128, 129] (by decide +kernel) (by decide +kernel)
set_option maxRecDepth 20000 in
theorem gX8_comesToGoal_X6_spendMinute : GoodIn wsX8_comesToGoal (wsV RX8 275 RX6 yX6_spendMinute wsX6_spendMinute) := goodIn_app (goodIn_of _ (by decide +kernel)) ggX8_comesToGoal_X6_spendMinute
theorem dX8_comesToGoal_0 : decode cX8_comesToGoal 0 = .ok (.iconst 0, 1) := by decide +kernel
theorem dX8_comesToGoal_1 : decode cX8_comesToGoal 1 = .ok (.istore_n 3, 1) := by decide +kernel
theorem dX8_comesToGoal_2 : decode cX8_comesToGoal 2 = .ok (.iconst 0, 1) := by decide +kernel
theorem dX8_comesToGoal_3 : decode cX8_comesToGoal 3 = .ok (.istore 4, 2) := by decide +kernel
theorem dX8_comesToGoal_5 : decode cX8_comesToGoal 5 = .ok (.iload 4, 2) := by decide +kernel
theorem dX8_comesToGoal_7 : decode cX8_comesToGoal 7 = .ok (.iload_n 2, 1) := by decide +kernel
theorem dX8_comesToGoal_8 : decode cX8_comesToGoal 8 = .ok (.if_icmp .ge 58, 3) := by decide +kernel
theorem dX8_comesToGoal_11 : decode cX8_comesToGoal 11 = .ok (.aload_n 1, 1) := by decide +kernel
theorem dX8_comesToGoal_12 : decode cX8_comesToGoal 12 = .ok (.invokevirtual 211, 3) := by decide +kernel
theorem dX8_comesToGoal_15 : decode cX8_comesToGoal 15 = .ok (.ifCond .ne 51, 3) := by decide +kernel
theorem dX8_comesToGoal_18 : decode cX8_comesToGoal 18 = .ok (.aload_n 1, 1) := by decide +kernel
theorem dX8_comesToGoal_19 : decode cX8_comesToGoal 19 = .ok (.invokevirtual 265, 3) := by decide +kernel
theorem dX8_comesToGoal_22 : decode cX8_comesToGoal 22 = .ok (.ifCond .ne 29, 3) := by decide +kernel
theorem dX8_comesToGoal_25 : decode cX8_comesToGoal 25 = .ok (.iload_n 3, 1) := by decide +kernel
theorem dX8_comesToGoal_26 : decode cX8_comesToGoal 26 = .ok (.ifCond .ne 20, 3) := by decide +kernel
theorem dX8_comesToGoal_29 : decode cX8_comesToGoal 29 = .ok (.aload_n 0, 1) := by decide +kernel
theorem dX8_comesToGoal_30 : decode cX8_comesToGoal 30 = .ok (.getfield 19, 3) := by decide +kernel
theorem dX8_comesToGoal_33 : decode cX8_comesToGoal 33 = .ok (.aload_n 1, 1) := by decide +kernel
theorem dX8_comesToGoal_34 : decode cX8_comesToGoal 34 = .ok (.invokevirtual 268, 3) := by decide +kernel
theorem dX8_comesToGoal_37 : decode cX8_comesToGoal 37 = .ok (.aload_n 0, 1) := by decide +kernel
theorem dX8_comesToGoal_38 : decode cX8_comesToGoal 38 = .ok (.getfield 12, 3) := by decide +kernel
theorem dX8_comesToGoal_41 : decode cX8_comesToGoal 41 = .ok (.invokevirtual 203, 3) := by decide +kernel
theorem dX8_comesToGoal_44 : decode cX8_comesToGoal 44 = .ok (.iconst 1, 1) := by decide +kernel
theorem dX8_comesToGoal_45 : decode cX8_comesToGoal 45 = .ok (.istore_n 3, 1) := by decide +kernel
theorem dX8_comesToGoal_46 : decode cX8_comesToGoal 46 = .ok (.aload_n 0, 1) := by decide +kernel
theorem dX8_comesToGoal_47 : decode cX8_comesToGoal 47 = .ok (.aload_n 1, 1) := by decide +kernel
theorem dX8_comesToGoal_48 : decode cX8_comesToGoal 48 = .ok (.invokevirtual 271, 3) := by decide +kernel
theorem dX8_comesToGoal_51 : decode cX8_comesToGoal 51 = .ok (.aload_n 1, 1) := by decide +kernel
theorem dX8_comesToGoal_52 : decode cX8_comesToGoal 52 = .ok (.invokevirtual 275, 3) := by decide +kernel
theorem dX8_comesToGoal_55 : decode cX8_comesToGoal 55 = .ok (.ifCond .eq 5, 3) := by decide +kernel
theorem dX8_comesToGoal_58 : decode cX8_comesToGoal 58 = .ok (.iconst 1, 1) := by decide +kernel
theorem dX8_comesToGoal_59 : decode cX8_comesToGoal 59 = .ok (.ireturn, 1) := by decide +kernel
theorem dX8_comesToGoal_60 : decode cX8_comesToGoal 60 = .ok (.iinc 4 1, 3) := by decide +kernel
theorem dX8_comesToGoal_63 : decode cX8_comesToGoal 63 = .ok (.goto (-58), 3) := by decide +kernel
theorem dX8_comesToGoal_66 : decode cX8_comesToGoal 66 = .ok (.iconst 0, 1) := by decide +kernel
theorem dX8_comesToGoal_67 : decode cX8_comesToGoal 67 = .ok (.ireturn, 1) := by decide +kernel
set_option maxRecDepth 20000 in
theorem ggX8_beginStep_X6_standsAt : GoodIn wsX8_beginStep wsX6_standsAt := goodIn_r _ [7, 8, 82, 83, 84, 85, 86, 87, 88, 89, 90] (by decide +kernel) (by decide +kernel)
set_option maxRecDepth 20000 in
theorem gX8_beginStep_X6_standsAt : GoodIn wsX8_beginStep (wsV RX8 207 RX6 yX6_standsAt wsX6_standsAt) := goodIn_app (goodIn_of _ (by decide +kernel)) ggX8_beginStep_X6_standsAt
set_option maxRecDepth 20000 in
theorem ggX8_beginStep_X7_bestStepFrom : GoodIn wsX8_beginStep wsX7_bestStepFrom := goodIn_r _ [13, 14, 15, 16, 17, 18, 19, 20, 21, 22, 23, 24, 25, 26, 27, 12, 28, 29, 30, 31, 32, 33, 34, 35, 36, 37, 38, 39, 40, 41, 42, 43, 44, 45, 46, 47, 48, 49, 50, 51, 52, 53, 54, 55, 56, 57, 58, 91, 92, 93, 94] (by decide +kernel) (by decide +kernel)
set_option maxRecDepth 20000 in
theorem gX8_beginStep_X7_bestStepFrom : GoodIn wsX8_beginStep (wsV RX8 278 RX7 yX7_bestStepFrom wsX7_bestStepFrom) := goodIn_app (goodIn_of _ (by decide +kernel)) ggX8_beginStep_X7_bestStepFrom
set_option maxRecDepth 20000 in
theorem ggX8_beginStep_X6_giveUp : GoodIn wsX8_beginStep wsX6_giveUp := goodIn_r _ [62, 63, 82, 83, 84, 85, 86, 87, 88, 89, 90] (by decide +kernel) (by decide +kernel)
set_option maxRecDepth 20000 in
theorem gX8_beginStep_X6_giveUp : GoodIn wsX8_beginStep (wsV RX8 282 RX6 yX6_giveUp wsX6_giveUp) := goodIn_app (goodIn_of _ (by decide +kernel)) ggX8_beginStep_X6_giveUp
set_option maxRecDepth 20000 in
theorem ggX8_beginStep_X3_stepCost : GoodIn wsX8_beginStep wsX3_stepCost := goodIn_r _ [44, 45, 46, 31, 47, 48, 49, 50, 17, 51, 52, 91, 92] (by decide +kernel) (by decide +kernel)
set_option maxRecDepth 20000 in
theorem gX8_beginStep_X3_stepCost : GoodIn wsX8_beginStep (wsV RX8 285 RX3 yX3_stepCost wsX3_stepCost) := goodIn_app (goodIn_of _ (by decide +kernel)) ggX8_beginStep_X3_stepCost
set_option maxRecDepth 20000 in
theorem ggX8_beginStep_X6_begin : GoodIn wsX8_beginStep wsX6_begin := goodIn_r _ [68, 69, 70, 71, 82, 83, 84, 85, 86, 87, 88, 89, 90] (by decide +kernel) (by decide +kernel)
set_option maxRecDepth 20000 in
theorem gX8_beginStep_X6_begin : GoodIn wsX8_beginStep (wsV RX8 288 RX6 yX6_begin wsX6_begin) := goodIn_app (goodIn_of _ (by decide +kernel)) ggX8_beginStep_X6_begin
theorem dX8_beginStep_0 : decode cX8_beginStep 0 = .ok (.aload_n 0, 1) := by decide +kernel
theorem dX8_beginStep_1 : decode cX8_beginStep 1 = .ok (.getfield 19, 3) := by decide +kernel
theorem dX8_beginStep_4 : decode cX8_beginStep 4 = .ok (.aload_n 1, 1) := by decide +kernel
theorem dX8_beginStep_5 : decode cX8_beginStep 5 = .ok (.invokevirtual 207, 3) := by decide +kernel
theorem dX8_beginStep_8 : decode cX8_beginStep 8 = .ok (.aload_n 0, 1) := by decide +kernel
theorem dX8_beginStep_9 : decode cX8_beginStep 9 = .ok (.getfield 12, 3) := by decide +kernel
theorem dX8_beginStep_12 : decode cX8_beginStep 12 = .ok (.invokevirtual 278, 3) := by decide +kernel
theorem dX8_beginStep_15 : decode cX8_beginStep 15 = .ok (.istore_n 2, 1) := by decide +kernel
theorem dX8_beginStep_16 : decode cX8_beginStep 16 = .ok (.iload_n 2, 1) := by decide +kernel
theorem dX8_beginStep_17 : decode cX8_beginStep 17 = .ok (.iconst (-1), 1) := by decide +kernel
theorem dX8_beginStep_18 : decode cX8_beginStep 18 = .ok (.if_icmp .ne 10, 3) := by decide +kernel
theorem dX8_beginStep_21 : decode cX8_beginStep 21 = .ok (.aload_n 1, 1) := by decide +kernel
theorem dX8_beginStep_22 : decode cX8_beginStep 22 = .ok (.invokevirtual 282, 3) := by decide +kernel
theorem dX8_beginStep_25 : decode cX8_beginStep 25 = .ok (.goto 20, 3) := by decide +kernel
theorem dX8_beginStep_28 : decode cX8_beginStep 28 = .ok (.aload_n 1, 1) := by decide +kernel
theorem dX8_beginStep_29 : decode cX8_beginStep 29 = .ok (.iload_n 2, 1) := by decide +kernel
theorem dX8_beginStep_30 : decode cX8_beginStep 30 = .ok (.aload_n 0, 1) := by decide +kernel
theorem dX8_beginStep_31 : decode cX8_beginStep 31 = .ok (.getfield 12, 3) := by decide +kernel
theorem dX8_beginStep_34 : decode cX8_beginStep 34 = .ok (.aload_n 1, 1) := by decide +kernel
theorem dX8_beginStep_35 : decode cX8_beginStep 35 = .ok (.invokevirtual 207, 3) := by decide +kernel
theorem dX8_beginStep_38 : decode cX8_beginStep 38 = .ok (.iload_n 2, 1) := by decide +kernel
theorem dX8_beginStep_39 : decode cX8_beginStep 39 = .ok (.invokevirtual 285, 3) := by decide +kernel
theorem dX8_beginStep_42 : decode cX8_beginStep 42 = .ok (.invokevirtual 288, 3) := by decide +kernel
theorem dX8_beginStep_45 : decode cX8_beginStep 45 = .ok (.return_, 1) := by decide +kernel
set_option maxRecDepth 20000 in
theorem ggX8_rankOf_Jx4a65c_size_8abf5 : GoodIn wsX8_rankOf wsJx4a65c_size_8abf5 := goodIn_r _ [7, 8, 42, 43, 44] (by decide +kernel) (by decide +kernel)
set_option maxRecDepth 20000 in
theorem gX8_rankOf_Jx4a65c_size_8abf5 : GoodIn wsX8_rankOf (wsV RX8 79 RJx4a65c yJx4a65c_size_8abf5 wsJx4a65c_size_8abf5) := goodIn_app (goodIn_of _ (by decide +kernel)) ggX8_rankOf_Jx4a65c_size_8abf5
set_option maxRecDepth 20000 in
theorem ggX8_rankOf_Jx4a65c_get_915e3 : GoodIn wsX8_rankOf wsJx4a65c_get_915e3 := goodIn_r _ [12, 8, 13, 14, 15, 16, 17, 18, 19, 20, 21, 22, 23, 6, 24, 25, 42, 43, 44] (by decide +kernel) (by decide +kernel)
set_option maxRecDepth 20000 in
theorem gX8_rankOf_Jx4a65c_get_915e3 : GoodIn wsX8_rankOf (wsV RX8 83 RJx4a65c yJx4a65c_get_915e3 wsJx4a65c_get_915e3) := goodIn_app (goodIn_of _ (by decide +kernel)) ggX8_rankOf_Jx4a65c_get_915e3
set_option maxRecDepth 20000 in
theorem ggX8_rankOf_X6_keptScore : GoodIn wsX8_rankOf wsX6_keptScore := goodIn_r _ [30, 31, 45, 46, 47, 48, 49, 50, 51, 52, 53] (by decide +kernel) (by decide +kernel)
set_option maxRecDepth 20000 in
theorem gX8_rankOf_X6_keptScore : GoodIn wsX8_rankOf (wsV RX8 253 RX6 yX6_keptScore wsX6_keptScore) := goodIn_app (goodIn_of _ (by decide +kernel)) ggX8_rankOf_X6_keptScore
theorem dX8_rankOf_0 : decode cX8_rankOf 0 = .ok (.iconst 0, 1) := by decide +kernel
theorem dX8_rankOf_1 : decode cX8_rankOf 1 = .ok (.istore_n 3, 1) := by decide +kernel
theorem dX8_rankOf_2 : decode cX8_rankOf 2 = .ok (.iconst 0, 1) := by decide +kernel
theorem dX8_rankOf_3 : decode cX8_rankOf 3 = .ok (.istore 4, 2) := by decide +kernel
theorem dX8_rankOf_5 : decode cX8_rankOf 5 = .ok (.iload 4, 2) := by decide +kernel
theorem dX8_rankOf_7 : decode cX8_rankOf 7 = .ok (.aload_n 0, 1) := by decide +kernel
theorem dX8_rankOf_8 : decode cX8_rankOf 8 = .ok (.getfield 37, 3) := by decide +kernel
theorem dX8_rankOf_11 : decode cX8_rankOf 11 = .ok (.invokevirtual 79, 3) := by decide +kernel
theorem dX8_rankOf_14 : decode cX8_rankOf 14 = .ok (.if_icmp .ge 47, 3) := by decide +kernel
theorem dX8_rankOf_17 : decode cX8_rankOf 17 = .ok (.aload_n 0, 1) := by decide +kernel
theorem dX8_rankOf_18 : decode cX8_rankOf 18 = .ok (.getfield 37, 3) := by decide +kernel
theorem dX8_rankOf_21 : decode cX8_rankOf 21 = .ok (.iload 4, 2) := by decide +kernel
theorem dX8_rankOf_23 : decode cX8_rankOf 23 = .ok (.invokevirtual 83, 3) := by decide +kernel
theorem dX8_rankOf_26 : decode cX8_rankOf 26 = .ok (.checkcast 188, 3) := by decide +kernel
theorem dX8_rankOf_29 : decode cX8_rankOf 29 = .ok (.invokevirtual 253, 3) := by decide +kernel
theorem dX8_rankOf_32 : decode cX8_rankOf 32 = .ok (.istore 5, 2) := by decide +kernel
theorem dX8_rankOf_34 : decode cX8_rankOf 34 = .ok (.iload 5, 2) := by decide +kernel
theorem dX8_rankOf_36 : decode cX8_rankOf 36 = .ok (.iload_n 2, 1) := by decide +kernel
theorem dX8_rankOf_37 : decode cX8_rankOf 37 = .ok (.if_icmp .gt 15, 3) := by decide +kernel
theorem dX8_rankOf_40 : decode cX8_rankOf 40 = .ok (.iload 5, 2) := by decide +kernel
theorem dX8_rankOf_42 : decode cX8_rankOf 42 = .ok (.iload_n 2, 1) := by decide +kernel
theorem dX8_rankOf_43 : decode cX8_rankOf 43 = .ok (.if_icmp .ne 12, 3) := by decide +kernel
theorem dX8_rankOf_46 : decode cX8_rankOf 46 = .ok (.iload 4, 2) := by decide +kernel
theorem dX8_rankOf_48 : decode cX8_rankOf 48 = .ok (.iload_n 1, 1) := by decide +kernel
theorem dX8_rankOf_49 : decode cX8_rankOf 49 = .ok (.if_icmp .ge 6, 3) := by decide +kernel
theorem dX8_rankOf_52 : decode cX8_rankOf 52 = .ok (.iinc 3 1, 3) := by decide +kernel
theorem dX8_rankOf_55 : decode cX8_rankOf 55 = .ok (.iinc 4 1, 3) := by decide +kernel
theorem dX8_rankOf_58 : decode cX8_rankOf 58 = .ok (.goto (-53), 3) := by decide +kernel
theorem dX8_rankOf_61 : decode cX8_rankOf 61 = .ok (.iload_n 3, 1) := by decide +kernel
theorem dX8_rankOf_62 : decode cX8_rankOf 62 = .ok (.ireturn, 1) := by decide +kernel
theorem dX8_charsOf_0 : decode cX8_charsOf 0 = .ok (.iload_n 0, 1) := by decide +kernel
theorem dX8_charsOf_1 : decode cX8_charsOf 1 = .ok (.bipush 26, 2) := by decide +kernel
theorem dX8_charsOf_3 : decode cX8_charsOf 3 = .ok (.if_icmp .ne 7, 3) := by decide +kernel
theorem dX8_charsOf_6 : decode cX8_charsOf 6 = .ok (.iconst 2, 1) := by decide +kernel
theorem dX8_charsOf_7 : decode cX8_charsOf 7 = .ok (.goto 4, 3) := by decide +kernel
theorem dX8_charsOf_10 : decode cX8_charsOf 10 = .ok (.iconst 1, 1) := by decide +kernel
theorem dX8_charsOf_11 : decode cX8_charsOf 11 = .ok (.ireturn, 1) := by decide +kernel
theorem dX8_charOf_0 : decode cX8_charOf 0 = .ok (.iload_n 0, 1) := by decide +kernel
theorem dX8_charOf_1 : decode cX8_charOf 1 = .ok (.bipush 26, 2) := by decide +kernel
theorem dX8_charOf_3 : decode cX8_charOf 3 = .ok (.if_icmp .eq 9, 3) := by decide +kernel
theorem dX8_charOf_6 : decode cX8_charOf 6 = .ok (.bipush 97, 2) := by decide +kernel
theorem dX8_charOf_8 : decode cX8_charOf 8 = .ok (.iload_n 0, 1) := by decide +kernel
theorem dX8_charOf_9 : decode cX8_charOf 9 = .ok (.iadd, 1) := by decide +kernel
theorem dX8_charOf_10 : decode cX8_charOf 10 = .ok (.i2c, 1) := by decide +kernel
theorem dX8_charOf_11 : decode cX8_charOf 11 = .ok (.ireturn, 1) := by decide +kernel
theorem dX8_charOf_12 : decode cX8_charOf 12 = .ok (.iload_n 1, 1) := by decide +kernel
theorem dX8_charOf_13 : decode cX8_charOf 13 = .ok (.ifCond .ne 9, 3) := by decide +kernel
theorem dX8_charOf_16 : decode cX8_charOf 16 = .ok (.ldc_w 291, 3) := by decide +kernel
theorem dX8_charOf_19 : decode cX8_charOf 19 = .ok (.goto 6, 3) := by decide +kernel
theorem dX8_charOf_22 : decode cX8_charOf 22 = .ok (.ldc_w 292, 3) := by decide +kernel
theorem dX8_charOf_25 : decode cX8_charOf 25 = .ok (.ireturn, 1) := by decide +kernel
theorem dX8_pointsFor_0 : decode cX8_pointsFor 0 = .ok (.bipush 10, 2) := by decide +kernel
theorem dX8_pointsFor_2 : decode cX8_pointsFor 2 = .ok (.bipush 100, 2) := by decide +kernel
theorem dX8_pointsFor_4 : decode cX8_pointsFor 4 = .ok (.bipush 10, 2) := by decide +kernel
theorem dX8_pointsFor_6 : decode cX8_pointsFor 6 = .ok (.iload_n 0, 1) := by decide +kernel
theorem dX8_pointsFor_7 : decode cX8_pointsFor 7 = .ok (.imul, 1) := by decide +kernel
theorem dX8_pointsFor_8 : decode cX8_pointsFor 8 = .ok (.isub, 1) := by decide +kernel
theorem dX8_pointsFor_9 : decode cX8_pointsFor 9 = .ok (.invokestatic 293, 3) := by decide +kernel
theorem dX8_pointsFor_12 : decode cX8_pointsFor 12 = .ok (.istore_n 2, 1) := by decide +kernel
theorem dX8_pointsFor_13 : decode cX8_pointsFor 13 = .ok (.iload_n 1, 1) := by decide +kernel
theorem dX8_pointsFor_14 : decode cX8_pointsFor 14 = .ok (.ifCond .eq 9, 3) := by decide +kernel
theorem dX8_pointsFor_17 : decode cX8_pointsFor 17 = .ok (.iload_n 2, 1) := by decide +kernel
theorem dX8_pointsFor_18 : decode cX8_pointsFor 18 = .ok (.iconst 2, 1) := by decide +kernel
theorem dX8_pointsFor_19 : decode cX8_pointsFor 19 = .ok (.idiv, 1) := by decide +kernel
theorem dX8_pointsFor_20 : decode cX8_pointsFor 20 = .ok (.goto 4, 3) := by decide +kernel
theorem dX8_pointsFor_23 : decode cX8_pointsFor 23 = .ok (.iload_n 2, 1) := by decide +kernel
theorem dX8_pointsFor_24 : decode cX8_pointsFor 24 = .ok (.ireturn, 1) := by decide +kernel
theorem dX8_onlyPlaceIn_0 : decode cX8_onlyPlaceIn 0 = .ok (.iconst 0, 1) := by decide +kernel
theorem dX8_onlyPlaceIn_1 : decode cX8_onlyPlaceIn 1 = .ok (.istore_n 2, 1) := by decide +kernel
theorem dX8_onlyPlaceIn_2 : decode cX8_onlyPlaceIn 2 = .ok (.iload_n 2, 1) := by decide +kernel
theorem dX8_onlyPlaceIn_3 : decode cX8_onlyPlaceIn 3 = .ok (.bipush 64, 2) := by decide +kernel
theorem dX8_onlyPlaceIn_5 : decode cX8_onlyPlaceIn 5 = .ok (.if_icmp .ge 19, 3) := by decide +kernel
theorem dX8_onlyPlaceIn_8 : decode cX8_onlyPlaceIn 8 = .ok (.lload_n 0, 1) := by decide +kernel
theorem dX8_onlyPlaceIn_9 : decode cX8_onlyPlaceIn 9 = .ok (.lconst 1, 1) := by decide +kernel
theorem dX8_onlyPlaceIn_10 : decode cX8_onlyPlaceIn 10 = .ok (.iload_n 2, 1) := by decide +kernel
theorem dX8_onlyPlaceIn_11 : decode cX8_onlyPlaceIn 11 = .ok (.lshl, 1) := by decide +kernel
theorem dX8_onlyPlaceIn_12 : decode cX8_onlyPlaceIn 12 = .ok (.lcmp, 1) := by decide +kernel
theorem dX8_onlyPlaceIn_13 : decode cX8_onlyPlaceIn 13 = .ok (.ifCond .ne 5, 3) := by decide +kernel
theorem dX8_onlyPlaceIn_16 : decode cX8_onlyPlaceIn 16 = .ok (.iload_n 2, 1) := by decide +kernel
theorem dX8_onlyPlaceIn_17 : decode cX8_onlyPlaceIn 17 = .ok (.ireturn, 1) := by decide +kernel
theorem dX8_onlyPlaceIn_18 : decode cX8_onlyPlaceIn 18 = .ok (.iinc 2 1, 3) := by decide +kernel
theorem dX8_onlyPlaceIn_21 : decode cX8_onlyPlaceIn 21 = .ok (.goto (-19), 3) := by decide +kernel
theorem dX8_onlyPlaceIn_24 : decode cX8_onlyPlaceIn 24 = .ok (.iconst (-1), 1) := by decide +kernel
theorem dX8_onlyPlaceIn_25 : decode cX8_onlyPlaceIn 25 = .ok (.ireturn, 1) := by decide +kernel
theorem dJ13_bitCount_95d88_0 : decode cJ13_bitCount_95d88 0 = .ok (.lload_n 0, 1) := by decide +kernel
theorem dJ13_bitCount_95d88_1 : decode cJ13_bitCount_95d88 1 = .ok (.lload_n 0, 1) := by decide +kernel
theorem dJ13_bitCount_95d88_2 : decode cJ13_bitCount_95d88 2 = .ok (.iconst 1, 1) := by decide +kernel
theorem dJ13_bitCount_95d88_3 : decode cJ13_bitCount_95d88 3 = .ok (.lushr, 1) := by decide +kernel
theorem dJ13_bitCount_95d88_4 : decode cJ13_bitCount_95d88 4 = .ok (.ldc2_w 314, 3) := by decide +kernel
theorem dJ13_bitCount_95d88_7 : decode cJ13_bitCount_95d88 7 = .ok (.land, 1) := by decide +kernel
theorem dJ13_bitCount_95d88_8 : decode cJ13_bitCount_95d88 8 = .ok (.lsub, 1) := by decide +kernel
theorem dJ13_bitCount_95d88_9 : decode cJ13_bitCount_95d88 9 = .ok (.lstore_n 0, 1) := by decide +kernel
theorem dJ13_bitCount_95d88_10 : decode cJ13_bitCount_95d88 10 = .ok (.lload_n 0, 1) := by decide +kernel
theorem dJ13_bitCount_95d88_11 : decode cJ13_bitCount_95d88 11 = .ok (.ldc2_w 316, 3) := by decide +kernel
theorem dJ13_bitCount_95d88_14 : decode cJ13_bitCount_95d88 14 = .ok (.land, 1) := by decide +kernel
theorem dJ13_bitCount_95d88_15 : decode cJ13_bitCount_95d88 15 = .ok (.lload_n 0, 1) := by decide +kernel
theorem dJ13_bitCount_95d88_16 : decode cJ13_bitCount_95d88 16 = .ok (.iconst 2, 1) := by decide +kernel
theorem dJ13_bitCount_95d88_17 : decode cJ13_bitCount_95d88 17 = .ok (.lushr, 1) := by decide +kernel
theorem dJ13_bitCount_95d88_18 : decode cJ13_bitCount_95d88 18 = .ok (.ldc2_w 316, 3) := by decide +kernel
theorem dJ13_bitCount_95d88_21 : decode cJ13_bitCount_95d88 21 = .ok (.land, 1) := by decide +kernel
theorem dJ13_bitCount_95d88_22 : decode cJ13_bitCount_95d88 22 = .ok (.ladd, 1) := by decide +kernel
theorem dJ13_bitCount_95d88_23 : decode cJ13_bitCount_95d88 23 = .ok (.lstore_n 0, 1) := by decide +kernel
theorem dJ13_bitCount_95d88_24 : decode cJ13_bitCount_95d88 24 = .ok (.lload_n 0, 1) := by decide +kernel
theorem dJ13_bitCount_95d88_25 : decode cJ13_bitCount_95d88 25 = .ok (.lload_n 0, 1) := by decide +kernel
theorem dJ13_bitCount_95d88_26 : decode cJ13_bitCount_95d88 26 = .ok (.iconst 4, 1) := by decide +kernel
theorem dJ13_bitCount_95d88_27 : decode cJ13_bitCount_95d88 27 = .ok (.lushr, 1) := by decide +kernel
theorem dJ13_bitCount_95d88_28 : decode cJ13_bitCount_95d88 28 = .ok (.ladd, 1) := by decide +kernel
theorem dJ13_bitCount_95d88_29 : decode cJ13_bitCount_95d88 29 = .ok (.ldc2_w 318, 3) := by decide +kernel
theorem dJ13_bitCount_95d88_32 : decode cJ13_bitCount_95d88 32 = .ok (.land, 1) := by decide +kernel
theorem dJ13_bitCount_95d88_33 : decode cJ13_bitCount_95d88 33 = .ok (.lstore_n 0, 1) := by decide +kernel
theorem dJ13_bitCount_95d88_34 : decode cJ13_bitCount_95d88 34 = .ok (.lload_n 0, 1) := by decide +kernel
theorem dJ13_bitCount_95d88_35 : decode cJ13_bitCount_95d88 35 = .ok (.lload_n 0, 1) := by decide +kernel
theorem dJ13_bitCount_95d88_36 : decode cJ13_bitCount_95d88 36 = .ok (.bipush 8, 2) := by decide +kernel
theorem dJ13_bitCount_95d88_38 : decode cJ13_bitCount_95d88 38 = .ok (.lushr, 1) := by decide +kernel
theorem dJ13_bitCount_95d88_39 : decode cJ13_bitCount_95d88 39 = .ok (.ladd, 1) := by decide +kernel
theorem dJ13_bitCount_95d88_40 : decode cJ13_bitCount_95d88 40 = .ok (.lstore_n 0, 1) := by decide +kernel
theorem dJ13_bitCount_95d88_41 : decode cJ13_bitCount_95d88 41 = .ok (.lload_n 0, 1) := by decide +kernel
theorem dJ13_bitCount_95d88_42 : decode cJ13_bitCount_95d88 42 = .ok (.lload_n 0, 1) := by decide +kernel
theorem dJ13_bitCount_95d88_43 : decode cJ13_bitCount_95d88 43 = .ok (.bipush 16, 2) := by decide +kernel
theorem dJ13_bitCount_95d88_45 : decode cJ13_bitCount_95d88 45 = .ok (.lushr, 1) := by decide +kernel
theorem dJ13_bitCount_95d88_46 : decode cJ13_bitCount_95d88 46 = .ok (.ladd, 1) := by decide +kernel
theorem dJ13_bitCount_95d88_47 : decode cJ13_bitCount_95d88 47 = .ok (.lstore_n 0, 1) := by decide +kernel
theorem dJ13_bitCount_95d88_48 : decode cJ13_bitCount_95d88 48 = .ok (.lload_n 0, 1) := by decide +kernel
theorem dJ13_bitCount_95d88_49 : decode cJ13_bitCount_95d88 49 = .ok (.lload_n 0, 1) := by decide +kernel
theorem dJ13_bitCount_95d88_50 : decode cJ13_bitCount_95d88 50 = .ok (.bipush 32, 2) := by decide +kernel
theorem dJ13_bitCount_95d88_52 : decode cJ13_bitCount_95d88 52 = .ok (.lushr, 1) := by decide +kernel
theorem dJ13_bitCount_95d88_53 : decode cJ13_bitCount_95d88 53 = .ok (.ladd, 1) := by decide +kernel
theorem dJ13_bitCount_95d88_54 : decode cJ13_bitCount_95d88 54 = .ok (.lstore_n 0, 1) := by decide +kernel
theorem dJ13_bitCount_95d88_55 : decode cJ13_bitCount_95d88 55 = .ok (.lload_n 0, 1) := by decide +kernel
theorem dJ13_bitCount_95d88_56 : decode cJ13_bitCount_95d88 56 = .ok (.l2i, 1) := by decide +kernel
theorem dJ13_bitCount_95d88_57 : decode cJ13_bitCount_95d88 57 = .ok (.bipush 127, 2) := by decide +kernel
theorem dJ13_bitCount_95d88_59 : decode cJ13_bitCount_95d88 59 = .ok (.iand, 1) := by decide +kernel
theorem dJ13_bitCount_95d88_60 : decode cJ13_bitCount_95d88 60 = .ok (.ireturn, 1) := by decide +kernel
theorem dJ9_abs_0f7a4_0 : decode cJ9_abs_0f7a4 0 = .ok (.iload_n 0, 1) := by decide +kernel
theorem dJ9_abs_0f7a4_1 : decode cJ9_abs_0f7a4 1 = .ok (.ifCond .ge 8, 3) := by decide +kernel
theorem dJ9_abs_0f7a4_4 : decode cJ9_abs_0f7a4 4 = .ok (.iload_n 0, 1) := by decide +kernel
theorem dJ9_abs_0f7a4_5 : decode cJ9_abs_0f7a4 5 = .ok (.ineg, 1) := by decide +kernel
theorem dJ9_abs_0f7a4_6 : decode cJ9_abs_0f7a4 6 = .ok (.goto 4, 3) := by decide +kernel
theorem dJ9_abs_0f7a4_9 : decode cJ9_abs_0f7a4 9 = .ok (.iload_n 0, 1) := by decide +kernel
theorem dJ9_abs_0f7a4_10 : decode cJ9_abs_0f7a4 10 = .ok (.ireturn, 1) := by decide +kernel
theorem dJ9_max_7cf53_0 : decode cJ9_max_7cf53 0 = .ok (.iload_n 0, 1) := by decide +kernel
theorem dJ9_max_7cf53_1 : decode cJ9_max_7cf53 1 = .ok (.iload_n 1, 1) := by decide +kernel
theorem dJ9_max_7cf53_2 : decode cJ9_max_7cf53 2 = .ok (.if_icmp .lt 7, 3) := by decide +kernel
theorem dJ9_max_7cf53_5 : decode cJ9_max_7cf53 5 = .ok (.iload_n 0, 1) := by decide +kernel
theorem dJ9_max_7cf53_6 : decode cJ9_max_7cf53 6 = .ok (.goto 4, 3) := by decide +kernel
theorem dJ9_max_7cf53_9 : decode cJ9_max_7cf53 9 = .ok (.iload_n 1, 1) := by decide +kernel
theorem dJ9_max_7cf53_10 : decode cJ9_max_7cf53 10 = .ok (.ireturn, 1) := by decide +kernel
theorem dJ9_min_7cf53_0 : decode cJ9_min_7cf53 0 = .ok (.iload_n 0, 1) := by decide +kernel
theorem dJ9_min_7cf53_1 : decode cJ9_min_7cf53 1 = .ok (.iload_n 1, 1) := by decide +kernel
theorem dJ9_min_7cf53_2 : decode cJ9_min_7cf53 2 = .ok (.if_icmp .gt 7, 3) := by decide +kernel
theorem dJ9_min_7cf53_5 : decode cJ9_min_7cf53 5 = .ok (.iload_n 0, 1) := by decide +kernel
theorem dJ9_min_7cf53_6 : decode cJ9_min_7cf53 6 = .ok (.goto 4, 3) := by decide +kernel
theorem dJ9_min_7cf53_9 : decode cJ9_min_7cf53 9 = .ok (.iload_n 1, 1) := by decide +kernel
theorem dJ9_min_7cf53_10 : decode cJ9_min_7cf53 10 = .ok (.ireturn, 1) := by decide +kernel
theorem dJxa1e45_init_da8c8_0 : decode cJxa1e45_init_da8c8 0 = .ok (.aload_n 0, 1) := by decide +kernel
theorem dJxa1e45_init_da8c8_1 : decode cJxa1e45_init_da8c8 1 = .ok (.invokespecial 1, 3) := by decide +kernel
theorem dJxa1e45_init_da8c8_4 : decode cJxa1e45_init_da8c8 4 = .ok (.return_, 1) := by decide +kernel
set_option maxRecDepth 20000 in
theorem ggJxc12de_init_da8c8_Jxa1e45_init_da8c8 : GoodIn wsJxc12de_init_da8c8 wsJxa1e45_init_da8c8 := goodIn_r _ [5, 6, 7, 8] (by decide +kernel) (by decide +kernel)
set_option maxRecDepth 20000 in
theorem gJxc12de_init_da8c8_Jxa1e45_init_da8c8 : GoodIn wsJxc12de_init_da8c8 (wsJxa1e45_init_da8c8) := ggJxc12de_init_da8c8_Jxa1e45_init_da8c8
theorem dJxc12de_init_da8c8_0 : decode cJxc12de_init_da8c8 0 = .ok (.aload_n 0, 1) := by decide +kernel
theorem dJxc12de_init_da8c8_1 : decode cJxc12de_init_da8c8 1 = .ok (.invokespecial 1, 3) := by decide +kernel
theorem dJxc12de_init_da8c8_4 : decode cJxc12de_init_da8c8 4 = .ok (.aload_n 0, 1) := by decide +kernel
theorem dJxc12de_init_da8c8_5 : decode cJxc12de_init_da8c8 5 = .ok (.iconst 0, 1) := by decide +kernel
theorem dJxc12de_init_da8c8_6 : decode cJxc12de_init_da8c8 6 = .ok (.putfield 7, 3) := by decide +kernel
theorem dJxc12de_init_da8c8_9 : decode cJxc12de_init_da8c8 9 = .ok (.return_, 1) := by decide +kernel
set_option maxRecDepth 20000 in
theorem ggJx4a65c_init_da8c8_Jxc12de_init_da8c8 : GoodIn wsJx4a65c_init_da8c8 wsJxc12de_init_da8c8 := goodIn_r _ [6, 7, 8, 9, 10, 11, 12, 13, 14, 15, 16, 17] (by decide +kernel) (by decide +kernel)
set_option maxRecDepth 20000 in
theorem gJx4a65c_init_da8c8_Jxc12de_init_da8c8 : GoodIn wsJx4a65c_init_da8c8 (wsJxc12de_init_da8c8) := ggJx4a65c_init_da8c8_Jxc12de_init_da8c8
theorem dJx4a65c_init_da8c8_0 : decode cJx4a65c_init_da8c8 0 = .ok (.aload_n 0, 1) := by decide +kernel
theorem dJx4a65c_init_da8c8_1 : decode cJx4a65c_init_da8c8 1 = .ok (.invokespecial 1, 3) := by decide +kernel
theorem dJx4a65c_init_da8c8_4 : decode cJx4a65c_init_da8c8 4 = .ok (.aload_n 0, 1) := by decide +kernel
theorem dJx4a65c_init_da8c8_5 : decode cJx4a65c_init_da8c8 5 = .ok (.getstatic 39, 3) := by decide +kernel
theorem dJx4a65c_init_da8c8_8 : decode cJx4a65c_init_da8c8 8 = .ok (.putfield 9, 3) := by decide +kernel
theorem dJx4a65c_init_da8c8_11 : decode cJx4a65c_init_da8c8 11 = .ok (.return_, 1) := by decide +kernel
set_option maxRecDepth 20000 in
theorem ggJx4a65c_grow_92f84_J8_newLength_cabcc : GoodIn wsJx4a65c_grow_92f84 wsJ8_newLength_cabcc := goodIn_r _ [11, 12, 4, 5, 6, 13, 14, 15, 10, 16] (by decide +kernel) (by decide +kernel)
set_option maxRecDepth 20000 in
theorem gJx4a65c_grow_92f84_J8_newLength_cabcc : GoodIn wsJx4a65c_grow_92f84 (va_wsS RJx4a65c 73 yJ8_newLength_cabcc wsJ8_newLength_cabcc) := goodIn_app (goodIn_of _ (by decide +kernel)) ggJx4a65c_grow_92f84_J8_newLength_cabcc
set_option maxRecDepth 20000 in
theorem ggJx4a65c_grow_92f84_J7_copyOf_1904c : GoodIn wsJx4a65c_grow_92f84 wsJ7_copyOf_1904c := goodIn_r _ [20, 21, 22, 23, 24, 25, 26, 19, 27, 28, 29, 30, 31, 5, 32, 33, 34, 35, 36] (by decide +kernel) (by decide +kernel)
set_option maxRecDepth 20000 in
theorem gJx4a65c_grow_92f84_J7_copyOf_1904c : GoodIn wsJx4a65c_grow_92f84 (va_wsS RJx4a65c 66 yJ7_copyOf_1904c wsJ7_copyOf_1904c) := goodIn_app (goodIn_of _ (by decide +kernel)) ggJx4a65c_grow_92f84_J7_copyOf_1904c
theorem dJx4a65c_grow_92f84_0 : decode cJx4a65c_grow_92f84 0 = .ok (.aload_n 0, 1) := by decide +kernel
theorem dJx4a65c_grow_92f84_1 : decode cJx4a65c_grow_92f84 1 = .ok (.getfield 9, 3) := by decide +kernel
theorem dJx4a65c_grow_92f84_4 : decode cJx4a65c_grow_92f84 4 = .ok (.arraylength, 1) := by decide +kernel
theorem dJx4a65c_grow_92f84_5 : decode cJx4a65c_grow_92f84 5 = .ok (.istore_n 2, 1) := by decide +kernel
theorem dJx4a65c_grow_92f84_6 : decode cJx4a65c_grow_92f84 6 = .ok (.iload_n 2, 1) := by decide +kernel
theorem dJx4a65c_grow_92f84_7 : decode cJx4a65c_grow_92f84 7 = .ok (.ifCond .gt 13, 3) := by decide +kernel
theorem dJx4a65c_grow_92f84_10 : decode cJx4a65c_grow_92f84 10 = .ok (.aload_n 0, 1) := by decide +kernel
theorem dJx4a65c_grow_92f84_11 : decode cJx4a65c_grow_92f84 11 = .ok (.getfield 9, 3) := by decide +kernel
theorem dJx4a65c_grow_92f84_14 : decode cJx4a65c_grow_92f84 14 = .ok (.getstatic 39, 3) := by decide +kernel
theorem dJx4a65c_grow_92f84_17 : decode cJx4a65c_grow_92f84 17 = .ok (.if_acmp .eq 28, 3) := by decide +kernel
theorem dJx4a65c_grow_92f84_20 : decode cJx4a65c_grow_92f84 20 = .ok (.iload_n 2, 1) := by decide +kernel
theorem dJx4a65c_grow_92f84_21 : decode cJx4a65c_grow_92f84 21 = .ok (.iload_n 1, 1) := by decide +kernel
theorem dJx4a65c_grow_92f84_22 : decode cJx4a65c_grow_92f84 22 = .ok (.iload_n 2, 1) := by decide +kernel
theorem dJx4a65c_grow_92f84_23 : decode cJx4a65c_grow_92f84 23 = .ok (.isub, 1) := by decide +kernel
theorem dJx4a65c_grow_92f84_24 : decode cJx4a65c_grow_92f84 24 = .ok (.iload_n 2, 1) := by decide +kernel
theorem dJx4a65c_grow_92f84_25 : decode cJx4a65c_grow_92f84 25 = .ok (.iconst 1, 1) := by decide +kernel
theorem dJx4a65c_grow_92f84_26 : decode cJx4a65c_grow_92f84 26 = .ok (.ishr, 1) := by decide +kernel
theorem dJx4a65c_grow_92f84_27 : decode cJx4a65c_grow_92f84 27 = .ok (.invokestatic 73, 3) := by decide +kernel
theorem dJx4a65c_grow_92f84_30 : decode cJx4a65c_grow_92f84 30 = .ok (.istore_n 3, 1) := by decide +kernel
theorem dJx4a65c_grow_92f84_31 : decode cJx4a65c_grow_92f84 31 = .ok (.aload_n 0, 1) := by decide +kernel
theorem dJx4a65c_grow_92f84_32 : decode cJx4a65c_grow_92f84 32 = .ok (.aload_n 0, 1) := by decide +kernel
theorem dJx4a65c_grow_92f84_33 : decode cJx4a65c_grow_92f84 33 = .ok (.getfield 9, 3) := by decide +kernel
theorem dJx4a65c_grow_92f84_36 : decode cJx4a65c_grow_92f84 36 = .ok (.iload_n 3, 1) := by decide +kernel
theorem dJx4a65c_grow_92f84_37 : decode cJx4a65c_grow_92f84 37 = .ok (.invokestatic 66, 3) := by decide +kernel
theorem dJx4a65c_grow_92f84_40 : decode cJx4a65c_grow_92f84 40 = .ok (.dup_x1, 1) := by decide +kernel
theorem dJx4a65c_grow_92f84_41 : decode cJx4a65c_grow_92f84 41 = .ok (.putfield 9, 3) := by decide +kernel
theorem dJx4a65c_grow_92f84_44 : decode cJx4a65c_grow_92f84 44 = .ok (.areturn, 1) := by decide +kernel
theorem dJx4a65c_grow_92f84_45 : decode cJx4a65c_grow_92f84 45 = .ok (.aload_n 0, 1) := by decide +kernel
theorem dJx4a65c_grow_92f84_46 : decode cJx4a65c_grow_92f84 46 = .ok (.bipush 10, 2) := by decide +kernel
theorem dJx4a65c_grow_92f84_48 : decode cJx4a65c_grow_92f84 48 = .ok (.iload_n 1, 1) := by decide +kernel
theorem dJx4a65c_grow_92f84_49 : decode cJx4a65c_grow_92f84 49 = .ok (.invokestatic 79, 3) := by decide +kernel
theorem dJx4a65c_grow_92f84_52 : decode cJx4a65c_grow_92f84 52 = .ok (.anewarray 7, 3) := by decide +kernel
theorem dJx4a65c_grow_92f84_55 : decode cJx4a65c_grow_92f84 55 = .ok (.dup_x1, 1) := by decide +kernel
theorem dJx4a65c_grow_92f84_56 : decode cJx4a65c_grow_92f84 56 = .ok (.putfield 9, 3) := by decide +kernel
theorem dJx4a65c_grow_92f84_59 : decode cJx4a65c_grow_92f84 59 = .ok (.areturn, 1) := by decide +kernel
set_option maxRecDepth 20000 in
theorem ggJx4a65c_grow_d5877_Jx4a65c_grow_92f84 : GoodIn wsJx4a65c_grow_d5877 wsJx4a65c_grow_92f84 := goodIn_r _ [6, 7, 8, 9, 10, 11, 12, 13, 14, 15, 16, 17, 18, 19, 20, 21, 22, 23, 24, 25, 26, 27, 28, 29, 30, 31, 32, 33, 34, 35, 36, 37, 38, 39, 40, 41, 42, 43, 44, 45] (by decide +kernel) (by decide +kernel)
set_option maxRecDepth 20000 in
theorem gJx4a65c_grow_d5877_Jx4a65c_grow_92f84 : GoodIn wsJx4a65c_grow_d5877 (wsV RJx4a65c 69 RJx4a65c yJx4a65c_grow_92f84 wsJx4a65c_grow_92f84) := goodIn_app (goodIn_of _ (by decide +kernel)) ggJx4a65c_grow_d5877_Jx4a65c_grow_92f84
theorem dJx4a65c_grow_d5877_0 : decode cJx4a65c_grow_d5877 0 = .ok (.aload_n 0, 1) := by decide +kernel
theorem dJx4a65c_grow_d5877_1 : decode cJx4a65c_grow_d5877 1 = .ok (.aload_n 0, 1) := by decide +kernel
theorem dJx4a65c_grow_d5877_2 : decode cJx4a65c_grow_d5877 2 = .ok (.getfield 48, 3) := by decide +kernel
theorem dJx4a65c_grow_d5877_5 : decode cJx4a65c_grow_d5877 5 = .ok (.iconst 1, 1) := by decide +kernel
theorem dJx4a65c_grow_d5877_6 : decode cJx4a65c_grow_d5877 6 = .ok (.iadd, 1) := by decide +kernel
theorem dJx4a65c_grow_d5877_7 : decode cJx4a65c_grow_d5877 7 = .ok (.invokevirtual 69, 3) := by decide +kernel
theorem dJx4a65c_grow_d5877_10 : decode cJx4a65c_grow_d5877 10 = .ok (.areturn, 1) := by decide +kernel
theorem dJx4a65c_size_8abf5_0 : decode cJx4a65c_size_8abf5 0 = .ok (.aload_n 0, 1) := by decide +kernel
theorem dJx4a65c_size_8abf5_1 : decode cJx4a65c_size_8abf5 1 = .ok (.getfield 48, 3) := by decide +kernel
theorem dJx4a65c_size_8abf5_4 : decode cJx4a65c_size_8abf5 4 = .ok (.ireturn, 1) := by decide +kernel
theorem dJx4a65c_elementData_915e3_0 : decode cJx4a65c_elementData_915e3 0 = .ok (.aload_n 0, 1) := by decide +kernel
theorem dJx4a65c_elementData_915e3_1 : decode cJx4a65c_elementData_915e3 1 = .ok (.getfield 9, 3) := by decide +kernel
theorem dJx4a65c_elementData_915e3_4 : decode cJx4a65c_elementData_915e3 4 = .ok (.iload_n 1, 1) := by decide +kernel
theorem dJx4a65c_elementData_915e3_5 : decode cJx4a65c_elementData_915e3 5 = .ok (.aaload, 1) := by decide +kernel
theorem dJx4a65c_elementData_915e3_6 : decode cJx4a65c_elementData_915e3 6 = .ok (.areturn, 1) := by decide +kernel
set_option maxRecDepth 20000 in
theorem ggJx4a65c_get_915e3_J15_checkIndex_7cf53 : GoodIn wsJx4a65c_get_915e3 wsJ15_checkIndex_7cf53 := goodIn_r _ [5, 6, 7, 8, 9] (by decide +kernel) (by decide +kernel)
set_option maxRecDepth 20000 in
theorem gJx4a65c_get_915e3_J15_checkIndex_7cf53 : GoodIn wsJx4a65c_get_915e3 (va_wsS RJx4a65c 118 yJ15_checkIndex_7cf53 wsJ15_checkIndex_7cf53) := goodIn_app (goodIn_of _ (by decide +kernel)) ggJx4a65c_get_915e3_J15_checkIndex_7cf53
set_option maxRecDepth 20000 in
theorem ggJx4a65c_get_915e3_Jx4a65c_elementData_915e3 : GoodIn wsJx4a65c_get_915e3 wsJx4a65c_elementData_915e3 := goodIn_r _ [14, 15, 16, 17, 18] (by decide +kernel) (by decide +kernel)
set_option maxRecDepth 20000 in
theorem gJx4a65c_get_915e3_Jx4a65c_elementData_915e3 : GoodIn wsJx4a65c_get_915e3 (wsV RJx4a65c 123 RJx4a65c yJx4a65c_elementData_915e3 wsJx4a65c_elementData_915e3) := goodIn_app (goodIn_of _ (by decide +kernel)) ggJx4a65c_get_915e3_Jx4a65c_elementData_915e3
theorem dJx4a65c_get_915e3_0 : decode cJx4a65c_get_915e3 0 = .ok (.iload_n 1, 1) := by decide +kernel
theorem dJx4a65c_get_915e3_1 : decode cJx4a65c_get_915e3 1 = .ok (.aload_n 0, 1) := by decide +kernel
theorem dJx4a65c_get_915e3_2 : decode cJx4a65c_get_915e3 2 = .ok (.getfield 48, 3) := by decide +kernel
theorem dJx4a65c_get_915e3_5 : decode cJx4a65c_get_915e3 5 = .ok (.invokestatic 118, 3) := by decide +kernel
theorem dJx4a65c_get_915e3_8 : decode cJx4a65c_get_915e3 8 = .ok (.pop, 1) := by decide +kernel
theorem dJx4a65c_get_915e3_9 : decode cJx4a65c_get_915e3 9 = .ok (.aload_n 0, 1) := by decide +kernel
theorem dJx4a65c_get_915e3_10 : decode cJx4a65c_get_915e3 10 = .ok (.iload_n 1, 1) := by decide +kernel
theorem dJx4a65c_get_915e3_11 : decode cJx4a65c_get_915e3 11 = .ok (.invokevirtual 123, 3) := by decide +kernel
theorem dJx4a65c_get_915e3_14 : decode cJx4a65c_get_915e3 14 = .ok (.areturn, 1) := by decide +kernel
set_option maxRecDepth 20000 in
theorem ggJx4a65c_add_72be8_Jx4a65c_grow_d5877 : GoodIn wsJx4a65c_add_72be8 wsJx4a65c_grow_d5877 := goodIn_r _ [6, 1, 7, 8, 9, 5, 10, 11, 12, 13, 14, 15, 16, 17, 18, 19, 20, 21, 22, 23, 24, 25, 26, 27, 28, 29, 30, 31, 32, 33, 34, 35, 36, 37, 38, 39, 40, 41, 42, 43, 44, 45, 46, 47, 48, 49] (by decide +kernel) (by decide +kernel)
set_option maxRecDepth 20000 in
theorem gJx4a65c_add_72be8_Jx4a65c_grow_d5877 : GoodIn wsJx4a65c_add_72be8 (wsV RJx4a65c 129 RJx4a65c yJx4a65c_grow_d5877 wsJx4a65c_grow_d5877) := goodIn_app (goodIn_of _ (by decide +kernel)) ggJx4a65c_add_72be8_Jx4a65c_grow_d5877
theorem dJx4a65c_add_72be8_0 : decode cJx4a65c_add_72be8 0 = .ok (.iload_n 3, 1) := by decide +kernel
theorem dJx4a65c_add_72be8_1 : decode cJx4a65c_add_72be8 1 = .ok (.aload_n 2, 1) := by decide +kernel
theorem dJx4a65c_add_72be8_2 : decode cJx4a65c_add_72be8 2 = .ok (.arraylength, 1) := by decide +kernel
theorem dJx4a65c_add_72be8_3 : decode cJx4a65c_add_72be8 3 = .ok (.if_icmp .ne 8, 3) := by decide +kernel
theorem dJx4a65c_add_72be8_6 : decode cJx4a65c_add_72be8 6 = .ok (.aload_n 0, 1) := by decide +kernel
theorem dJx4a65c_add_72be8_7 : decode cJx4a65c_add_72be8 7 = .ok (.invokevirtual 129, 3) := by decide +kernel
theorem dJx4a65c_add_72be8_10 : decode cJx4a65c_add_72be8 10 = .ok (.astore_n 2, 1) := by decide +kernel
theorem dJx4a65c_add_72be8_11 : decode cJx4a65c_add_72be8 11 = .ok (.aload_n 2, 1) := by decide +kernel
theorem dJx4a65c_add_72be8_12 : decode cJx4a65c_add_72be8 12 = .ok (.iload_n 3, 1) := by decide +kernel
theorem dJx4a65c_add_72be8_13 : decode cJx4a65c_add_72be8 13 = .ok (.aload_n 1, 1) := by decide +kernel
theorem dJx4a65c_add_72be8_14 : decode cJx4a65c_add_72be8 14 = .ok (.aastore, 1) := by decide +kernel
theorem dJx4a65c_add_72be8_15 : decode cJx4a65c_add_72be8 15 = .ok (.aload_n 0, 1) := by decide +kernel
theorem dJx4a65c_add_72be8_16 : decode cJx4a65c_add_72be8 16 = .ok (.iload_n 3, 1) := by decide +kernel
theorem dJx4a65c_add_72be8_17 : decode cJx4a65c_add_72be8 17 = .ok (.iconst 1, 1) := by decide +kernel
theorem dJx4a65c_add_72be8_18 : decode cJx4a65c_add_72be8 18 = .ok (.iadd, 1) := by decide +kernel
theorem dJx4a65c_add_72be8_19 : decode cJx4a65c_add_72be8 19 = .ok (.putfield 48, 3) := by decide +kernel
theorem dJx4a65c_add_72be8_22 : decode cJx4a65c_add_72be8 22 = .ok (.return_, 1) := by decide +kernel
set_option maxRecDepth 20000 in
theorem ggJx4a65c_add_9ea2d_Jx4a65c_add_72be8 : GoodIn wsJx4a65c_add_9ea2d wsJx4a65c_add_72be8 := goodIn_r _ [9, 4, 10, 11, 12, 8, 13, 14, 15, 16, 17, 3, 18, 19, 20, 21, 22, 23, 24, 25, 26, 27, 28, 29, 30, 31, 32, 33, 34, 35, 36, 37, 38, 39, 40, 41, 42, 43, 44, 45, 46, 47, 48, 49, 50, 51, 52, 53, 54, 55] (by decide +kernel) (by decide +kernel)
set_option maxRecDepth 20000 in
theorem gJx4a65c_add_9ea2d_Jx4a65c_add_72be8 : GoodIn wsJx4a65c_add_9ea2d (wsV RJx4a65c 131 RJx4a65c yJx4a65c_add_72be8 wsJx4a65c_add_72be8) := goodIn_app (goodIn_of _ (by decide +kernel)) ggJx4a65c_add_9ea2d_Jx4a65c_add_72be8
theorem dJx4a65c_add_9ea2d_0 : decode cJx4a65c_add_9ea2d 0 = .ok (.aload_n 0, 1) := by decide +kernel
theorem dJx4a65c_add_9ea2d_1 : decode cJx4a65c_add_9ea2d 1 = .ok (.dup, 1) := by decide +kernel
theorem dJx4a65c_add_9ea2d_2 : decode cJx4a65c_add_9ea2d 2 = .ok (.getfield 63, 3) := by decide +kernel
theorem dJx4a65c_add_9ea2d_5 : decode cJx4a65c_add_9ea2d 5 = .ok (.iconst 1, 1) := by decide +kernel
theorem dJx4a65c_add_9ea2d_6 : decode cJx4a65c_add_9ea2d 6 = .ok (.iadd, 1) := by decide +kernel
theorem dJx4a65c_add_9ea2d_7 : decode cJx4a65c_add_9ea2d 7 = .ok (.putfield 63, 3) := by decide +kernel
theorem dJx4a65c_add_9ea2d_10 : decode cJx4a65c_add_9ea2d 10 = .ok (.aload_n 0, 1) := by decide +kernel
theorem dJx4a65c_add_9ea2d_11 : decode cJx4a65c_add_9ea2d 11 = .ok (.aload_n 1, 1) := by decide +kernel
theorem dJx4a65c_add_9ea2d_12 : decode cJx4a65c_add_9ea2d 12 = .ok (.aload_n 0, 1) := by decide +kernel
theorem dJx4a65c_add_9ea2d_13 : decode cJx4a65c_add_9ea2d 13 = .ok (.getfield 9, 3) := by decide +kernel
theorem dJx4a65c_add_9ea2d_16 : decode cJx4a65c_add_9ea2d 16 = .ok (.aload_n 0, 1) := by decide +kernel
theorem dJx4a65c_add_9ea2d_17 : decode cJx4a65c_add_9ea2d 17 = .ok (.getfield 48, 3) := by decide +kernel
theorem dJx4a65c_add_9ea2d_20 : decode cJx4a65c_add_9ea2d 20 = .ok (.invokevirtual 131, 3) := by decide +kernel
theorem dJx4a65c_add_9ea2d_23 : decode cJx4a65c_add_9ea2d 23 = .ok (.iconst 1, 1) := by decide +kernel
theorem dJx4a65c_add_9ea2d_24 : decode cJx4a65c_add_9ea2d 24 = .ok (.ireturn, 1) := by decide +kernel
theorem dJx4a65c_clear_da8c8_0 : decode cJx4a65c_clear_da8c8 0 = .ok (.aload_n 0, 1) := by decide +kernel
theorem dJx4a65c_clear_da8c8_1 : decode cJx4a65c_clear_da8c8 1 = .ok (.dup, 1) := by decide +kernel
theorem dJx4a65c_clear_da8c8_2 : decode cJx4a65c_clear_da8c8 2 = .ok (.getfield 63, 3) := by decide +kernel
theorem dJx4a65c_clear_da8c8_5 : decode cJx4a65c_clear_da8c8 5 = .ok (.iconst 1, 1) := by decide +kernel
theorem dJx4a65c_clear_da8c8_6 : decode cJx4a65c_clear_da8c8 6 = .ok (.iadd, 1) := by decide +kernel
theorem dJx4a65c_clear_da8c8_7 : decode cJx4a65c_clear_da8c8 7 = .ok (.putfield 63, 3) := by decide +kernel
theorem dJx4a65c_clear_da8c8_10 : decode cJx4a65c_clear_da8c8 10 = .ok (.aload_n 0, 1) := by decide +kernel
theorem dJx4a65c_clear_da8c8_11 : decode cJx4a65c_clear_da8c8 11 = .ok (.getfield 9, 3) := by decide +kernel
theorem dJx4a65c_clear_da8c8_14 : decode cJx4a65c_clear_da8c8 14 = .ok (.astore_n 1, 1) := by decide +kernel
theorem dJx4a65c_clear_da8c8_15 : decode cJx4a65c_clear_da8c8 15 = .ok (.aload_n 0, 1) := by decide +kernel
theorem dJx4a65c_clear_da8c8_16 : decode cJx4a65c_clear_da8c8 16 = .ok (.getfield 48, 3) := by decide +kernel
theorem dJx4a65c_clear_da8c8_19 : decode cJx4a65c_clear_da8c8 19 = .ok (.istore_n 2, 1) := by decide +kernel
theorem dJx4a65c_clear_da8c8_20 : decode cJx4a65c_clear_da8c8 20 = .ok (.aload_n 0, 1) := by decide +kernel
theorem dJx4a65c_clear_da8c8_21 : decode cJx4a65c_clear_da8c8 21 = .ok (.iconst 0, 1) := by decide +kernel
theorem dJx4a65c_clear_da8c8_22 : decode cJx4a65c_clear_da8c8 22 = .ok (.dup_x1, 1) := by decide +kernel
theorem dJx4a65c_clear_da8c8_23 : decode cJx4a65c_clear_da8c8 23 = .ok (.putfield 48, 3) := by decide +kernel
theorem dJx4a65c_clear_da8c8_26 : decode cJx4a65c_clear_da8c8 26 = .ok (.istore_n 3, 1) := by decide +kernel
theorem dJx4a65c_clear_da8c8_27 : decode cJx4a65c_clear_da8c8 27 = .ok (.iload_n 3, 1) := by decide +kernel
theorem dJx4a65c_clear_da8c8_28 : decode cJx4a65c_clear_da8c8 28 = .ok (.iload_n 2, 1) := by decide +kernel
theorem dJx4a65c_clear_da8c8_29 : decode cJx4a65c_clear_da8c8 29 = .ok (.if_icmp .ge 13, 3) := by decide +kernel
theorem dJx4a65c_clear_da8c8_32 : decode cJx4a65c_clear_da8c8 32 = .ok (.aload_n 1, 1) := by decide +kernel
theorem dJx4a65c_clear_da8c8_33 : decode cJx4a65c_clear_da8c8 33 = .ok (.iload_n 3, 1) := by decide +kernel
theorem dJx4a65c_clear_da8c8_34 : decode cJx4a65c_clear_da8c8 34 = .ok (.aconst_null, 1) := by decide +kernel
theorem dJx4a65c_clear_da8c8_35 : decode cJx4a65c_clear_da8c8 35 = .ok (.aastore, 1) := by decide +kernel
theorem dJx4a65c_clear_da8c8_36 : decode cJx4a65c_clear_da8c8 36 = .ok (.iinc 3 1, 3) := by decide +kernel
theorem dJx4a65c_clear_da8c8_39 : decode cJx4a65c_clear_da8c8 39 = .ok (.goto (-12), 3) := by decide +kernel
theorem dJx4a65c_clear_da8c8_42 : decode cJx4a65c_clear_da8c8 42 = .ok (.return_, 1) := by decide +kernel
set_option maxRecDepth 20000 in
theorem ggJ7_copyOf_1904c_J7_copyOf_6403c : GoodIn wsJ7_copyOf_1904c wsJ7_copyOf_6403c := goodIn_r _ [8, 9, 10, 11, 12, 13, 14, 15, 16, 17, 18] (by decide +kernel) (by decide +kernel)
set_option maxRecDepth 20000 in
theorem gJ7_copyOf_1904c_J7_copyOf_6403c : GoodIn wsJ7_copyOf_1904c (va_wsS RJ7 300 yJ7_copyOf_6403c wsJ7_copyOf_6403c) := goodIn_app (goodIn_of _ (by decide +kernel)) ggJ7_copyOf_1904c_J7_copyOf_6403c
theorem dJ7_copyOf_1904c_0 : decode cJ7_copyOf_1904c 0 = .ok (.aload_n 0, 1) := by decide +kernel
theorem dJ7_copyOf_1904c_1 : decode cJ7_copyOf_1904c 1 = .ok (.iload_n 1, 1) := by decide +kernel
theorem dJ7_copyOf_1904c_2 : decode cJ7_copyOf_1904c 2 = .ok (.aload_n 0, 1) := by decide +kernel
theorem dJ7_copyOf_1904c_3 : decode cJ7_copyOf_1904c 3 = .ok (.invokevirtual 86, 3) := by decide +kernel
theorem dJ7_copyOf_1904c_6 : decode cJ7_copyOf_1904c 6 = .ok (.invokestatic 300, 3) := by decide +kernel
theorem dJ7_copyOf_1904c_9 : decode cJ7_copyOf_1904c 9 = .ok (.areturn, 1) := by decide +kernel
theorem dJ7_copyOf_6403c_0 : decode cJ7_copyOf_6403c 0 = .ok (.aload_n 2, 1) := by decide +kernel
theorem dJ7_copyOf_6403c_1 : decode cJ7_copyOf_6403c 1 = .ok (.ldc 110, 2) := by decide +kernel
theorem dJ7_copyOf_6403c_3 : decode cJ7_copyOf_6403c 3 = .ok (.if_acmp .ne 10, 3) := by decide +kernel
theorem dJ7_copyOf_6403c_6 : decode cJ7_copyOf_6403c 6 = .ok (.iload_n 1, 1) := by decide +kernel
theorem dJ7_copyOf_6403c_7 : decode cJ7_copyOf_6403c 7 = .ok (.anewarray 2, 3) := by decide +kernel
theorem dJ7_copyOf_6403c_10 : decode cJ7_copyOf_6403c 10 = .ok (.goto 14, 3) := by decide +kernel
theorem dJ7_copyOf_6403c_13 : decode cJ7_copyOf_6403c 13 = .ok (.aload_n 2, 1) := by decide +kernel
theorem dJ7_copyOf_6403c_14 : decode cJ7_copyOf_6403c 14 = .ok (.invokevirtual 90, 3) := by decide +kernel
theorem dJ7_copyOf_6403c_17 : decode cJ7_copyOf_6403c 17 = .ok (.iload_n 1, 1) := by decide +kernel
theorem dJ7_copyOf_6403c_18 : decode cJ7_copyOf_6403c 18 = .ok (.invokestatic 95, 3) := by decide +kernel
theorem dJ7_copyOf_6403c_21 : decode cJ7_copyOf_6403c 21 = .ok (.checkcast 110, 3) := by decide +kernel
theorem dJ7_copyOf_6403c_24 : decode cJ7_copyOf_6403c 24 = .ok (.astore_n 3, 1) := by decide +kernel
theorem dJ7_copyOf_6403c_25 : decode cJ7_copyOf_6403c 25 = .ok (.aload_n 0, 1) := by decide +kernel
theorem dJ7_copyOf_6403c_26 : decode cJ7_copyOf_6403c 26 = .ok (.iconst 0, 1) := by decide +kernel
theorem dJ7_copyOf_6403c_27 : decode cJ7_copyOf_6403c 27 = .ok (.aload_n 3, 1) := by decide +kernel
theorem dJ7_copyOf_6403c_28 : decode cJ7_copyOf_6403c 28 = .ok (.iconst 0, 1) := by decide +kernel
theorem dJ7_copyOf_6403c_29 : decode cJ7_copyOf_6403c 29 = .ok (.aload_n 0, 1) := by decide +kernel
theorem dJ7_copyOf_6403c_30 : decode cJ7_copyOf_6403c 30 = .ok (.arraylength, 1) := by decide +kernel
theorem dJ7_copyOf_6403c_31 : decode cJ7_copyOf_6403c 31 = .ok (.iload_n 1, 1) := by decide +kernel
theorem dJ7_copyOf_6403c_32 : decode cJ7_copyOf_6403c 32 = .ok (.invokestatic 304, 3) := by decide +kernel
theorem dJ7_copyOf_6403c_35 : decode cJ7_copyOf_6403c 35 = .ok (.invokestatic 150, 3) := by decide +kernel
theorem dJ7_copyOf_6403c_38 : decode cJ7_copyOf_6403c 38 = .ok (.aload_n 3, 1) := by decide +kernel
theorem dJ7_copyOf_6403c_39 : decode cJ7_copyOf_6403c 39 = .ok (.areturn, 1) := by decide +kernel
set_option maxRecDepth 20000 in
theorem ggJ15_checkIndex_7cf53_J3_checkIndex_8e157 : GoodIn wsJ15_checkIndex_7cf53 wsJ3_checkIndex_8e157 := goodIn_r _ [4] (by decide +kernel) (by decide +kernel)
set_option maxRecDepth 20000 in
theorem gJ15_checkIndex_7cf53_J3_checkIndex_8e157 : GoodIn wsJ15_checkIndex_7cf53 (va_wsS RJ15 105 yJ3_checkIndex_8e157 wsJ3_checkIndex_8e157) := goodIn_app (goodIn_of _ (by decide +kernel)) ggJ15_checkIndex_7cf53_J3_checkIndex_8e157
theorem dJ15_checkIndex_7cf53_0 : decode cJ15_checkIndex_7cf53 0 = .ok (.iload_n 0, 1) := by decide +kernel
theorem dJ15_checkIndex_7cf53_1 : decode cJ15_checkIndex_7cf53 1 = .ok (.iload_n 1, 1) := by decide +kernel
theorem dJ15_checkIndex_7cf53_2 : decode cJ15_checkIndex_7cf53 2 = .ok (.aconst_null, 1) := by decide +kernel
theorem dJ15_checkIndex_7cf53_3 : decode cJ15_checkIndex_7cf53 3 = .ok (.invokestatic 105, 3) := by decide +kernel
theorem dJ15_checkIndex_7cf53_6 : decode cJ15_checkIndex_7cf53 6 = .ok (.ireturn, 1) := by decide +kernel
set_option maxRecDepth 20000 in
theorem ggJ8_newLength_cabcc_J8_hugeLength_7cf53 : GoodIn wsJ8_newLength_cabcc wsJ8_hugeLength_7cf53 := goodIn_r _ [9, 5] (by decide +kernel) (by decide +kernel)
set_option maxRecDepth 20000 in
theorem gJ8_newLength_cabcc_J8_hugeLength_7cf53 : GoodIn wsJ8_newLength_cabcc (va_wsS RJ8 201 yJ8_hugeLength_7cf53 wsJ8_hugeLength_7cf53) := goodIn_app (goodIn_of _ (by decide +kernel)) ggJ8_newLength_cabcc_J8_hugeLength_7cf53
theorem dJ8_newLength_cabcc_0 : decode cJ8_newLength_cabcc 0 = .ok (.iload_n 0, 1) := by decide +kernel
theorem dJ8_newLength_cabcc_1 : decode cJ8_newLength_cabcc 1 = .ok (.iload_n 1, 1) := by decide +kernel
theorem dJ8_newLength_cabcc_2 : decode cJ8_newLength_cabcc 2 = .ok (.iload_n 2, 1) := by decide +kernel
theorem dJ8_newLength_cabcc_3 : decode cJ8_newLength_cabcc 3 = .ok (.invokestatic 194, 3) := by decide +kernel
theorem dJ8_newLength_cabcc_6 : decode cJ8_newLength_cabcc 6 = .ok (.iadd, 1) := by decide +kernel
theorem dJ8_newLength_cabcc_7 : decode cJ8_newLength_cabcc 7 = .ok (.istore_n 3, 1) := by decide +kernel
theorem dJ8_newLength_cabcc_8 : decode cJ8_newLength_cabcc 8 = .ok (.iconst 0, 1) := by decide +kernel
theorem dJ8_newLength_cabcc_9 : decode cJ8_newLength_cabcc 9 = .ok (.iload_n 3, 1) := by decide +kernel
theorem dJ8_newLength_cabcc_10 : decode cJ8_newLength_cabcc 10 = .ok (.if_icmp .ge 11, 3) := by decide +kernel
theorem dJ8_newLength_cabcc_13 : decode cJ8_newLength_cabcc 13 = .ok (.iload_n 3, 1) := by decide +kernel
theorem dJ8_newLength_cabcc_14 : decode cJ8_newLength_cabcc 14 = .ok (.ldc 200, 2) := by decide +kernel
theorem dJ8_newLength_cabcc_16 : decode cJ8_newLength_cabcc 16 = .ok (.if_icmp .gt 5, 3) := by decide +kernel
theorem dJ8_newLength_cabcc_19 : decode cJ8_newLength_cabcc 19 = .ok (.iload_n 3, 1) := by decide +kernel
theorem dJ8_newLength_cabcc_20 : decode cJ8_newLength_cabcc 20 = .ok (.ireturn, 1) := by decide +kernel
theorem dJ8_newLength_cabcc_21 : decode cJ8_newLength_cabcc 21 = .ok (.iload_n 0, 1) := by decide +kernel
theorem dJ8_newLength_cabcc_22 : decode cJ8_newLength_cabcc 22 = .ok (.iload_n 1, 1) := by decide +kernel
theorem dJ8_newLength_cabcc_23 : decode cJ8_newLength_cabcc 23 = .ok (.invokestatic 201, 3) := by decide +kernel
theorem dJ8_newLength_cabcc_26 : decode cJ8_newLength_cabcc 26 = .ok (.ireturn, 1) := by decide +kernel
theorem dJ8_hugeLength_7cf53_0 : decode cJ8_hugeLength_7cf53 0 = .ok (.iload_n 0, 1) := by decide +kernel
theorem dJ8_hugeLength_7cf53_1 : decode cJ8_hugeLength_7cf53 1 = .ok (.iload_n 1, 1) := by decide +kernel
theorem dJ8_hugeLength_7cf53_2 : decode cJ8_hugeLength_7cf53 2 = .ok (.iadd, 1) := by decide +kernel
theorem dJ8_hugeLength_7cf53_3 : decode cJ8_hugeLength_7cf53 3 = .ok (.istore_n 2, 1) := by decide +kernel
theorem dJ8_hugeLength_7cf53_4 : decode cJ8_hugeLength_7cf53 4 = .ok (.iload_n 2, 1) := by decide +kernel
theorem dJ8_hugeLength_7cf53_5 : decode cJ8_hugeLength_7cf53 5 = .ok (.ifCond .ge 44, 3) := by decide +kernel
theorem dJ8_hugeLength_7cf53_8 : decode cJ8_hugeLength_7cf53 8 = .ok (.new 204, 3) := by decide +kernel
theorem dJ8_hugeLength_7cf53_11 : decode cJ8_hugeLength_7cf53 11 = .ok (.dup, 1) := by decide +kernel
theorem dJ8_hugeLength_7cf53_12 : decode cJ8_hugeLength_7cf53 12 = .ok (.new 89, 3) := by decide +kernel
theorem dJ8_hugeLength_7cf53_15 : decode cJ8_hugeLength_7cf53 15 = .ok (.dup, 1) := by decide +kernel
theorem dJ8_hugeLength_7cf53_16 : decode cJ8_hugeLength_7cf53 16 = .ok (.invokespecial 91, 3) := by decide +kernel
theorem dJ8_hugeLength_7cf53_19 : decode cJ8_hugeLength_7cf53 19 = .ok (.ldc 206, 2) := by decide +kernel
theorem dJ8_hugeLength_7cf53_21 : decode cJ8_hugeLength_7cf53 21 = .ok (.invokevirtual 94, 3) := by decide +kernel
theorem dJ8_hugeLength_7cf53_24 : decode cJ8_hugeLength_7cf53 24 = .ok (.iload_n 0, 1) := by decide +kernel
theorem dJ8_hugeLength_7cf53_25 : decode cJ8_hugeLength_7cf53 25 = .ok (.invokevirtual 98, 3) := by decide +kernel
theorem dJ8_hugeLength_7cf53_28 : decode cJ8_hugeLength_7cf53 28 = .ok (.ldc 208, 2) := by decide +kernel
theorem dJ8_hugeLength_7cf53_30 : decode cJ8_hugeLength_7cf53 30 = .ok (.invokevirtual 94, 3) := by decide +kernel
theorem dJ8_hugeLength_7cf53_33 : decode cJ8_hugeLength_7cf53 33 = .ok (.iload_n 1, 1) := by decide +kernel
theorem dJ8_hugeLength_7cf53_34 : decode cJ8_hugeLength_7cf53 34 = .ok (.invokevirtual 98, 3) := by decide +kernel
theorem dJ8_hugeLength_7cf53_37 : decode cJ8_hugeLength_7cf53 37 = .ok (.ldc 210, 2) := by decide +kernel
theorem dJ8_hugeLength_7cf53_39 : decode cJ8_hugeLength_7cf53 39 = .ok (.invokevirtual 94, 3) := by decide +kernel
theorem dJ8_hugeLength_7cf53_42 : decode cJ8_hugeLength_7cf53 42 = .ok (.invokevirtual 101, 3) := by decide +kernel
theorem dJ8_hugeLength_7cf53_45 : decode cJ8_hugeLength_7cf53 45 = .ok (.invokespecial 212, 3) := by decide +kernel
theorem dJ8_hugeLength_7cf53_48 : decode cJ8_hugeLength_7cf53 48 = .ok (.athrow, 1) := by decide +kernel
theorem dJ8_hugeLength_7cf53_49 : decode cJ8_hugeLength_7cf53 49 = .ok (.iload_n 2, 1) := by decide +kernel
theorem dJ8_hugeLength_7cf53_50 : decode cJ8_hugeLength_7cf53 50 = .ok (.ldc 200, 2) := by decide +kernel
theorem dJ8_hugeLength_7cf53_52 : decode cJ8_hugeLength_7cf53 52 = .ok (.if_icmp .gt 6, 3) := by decide +kernel
theorem dJ8_hugeLength_7cf53_55 : decode cJ8_hugeLength_7cf53 55 = .ok (.ldc 200, 2) := by decide +kernel
theorem dJ8_hugeLength_7cf53_57 : decode cJ8_hugeLength_7cf53 57 = .ok (.ireturn, 1) := by decide +kernel
theorem dJ8_hugeLength_7cf53_58 : decode cJ8_hugeLength_7cf53 58 = .ok (.iload_n 2, 1) := by decide +kernel
theorem dJ8_hugeLength_7cf53_59 : decode cJ8_hugeLength_7cf53 59 = .ok (.ireturn, 1) := by decide +kernel
theorem dJ3_checkIndex_8e157_0 : decode cJ3_checkIndex_8e157 0 = .ok (.iload_n 0, 1) := by decide +kernel
theorem dJ3_checkIndex_8e157_1 : decode cJ3_checkIndex_8e157 1 = .ok (.ifCond .lt 8, 3) := by decide +kernel
theorem dJ3_checkIndex_8e157_4 : decode cJ3_checkIndex_8e157 4 = .ok (.iload_n 0, 1) := by decide +kernel
theorem dJ3_checkIndex_8e157_5 : decode cJ3_checkIndex_8e157 5 = .ok (.iload_n 1, 1) := by decide +kernel
theorem dJ3_checkIndex_8e157_6 : decode cJ3_checkIndex_8e157 6 = .ok (.if_icmp .lt 10, 3) := by decide +kernel
theorem dJ3_checkIndex_8e157_9 : decode cJ3_checkIndex_8e157 9 = .ok (.aload_n 2, 1) := by decide +kernel
theorem dJ3_checkIndex_8e157_10 : decode cJ3_checkIndex_8e157 10 = .ok (.iload_n 0, 1) := by decide +kernel
theorem dJ3_checkIndex_8e157_11 : decode cJ3_checkIndex_8e157 11 = .ok (.iload_n 1, 1) := by decide +kernel
theorem dJ3_checkIndex_8e157_12 : decode cJ3_checkIndex_8e157 12 = .ok (.invokestatic 95, 3) := by decide +kernel
theorem dJ3_checkIndex_8e157_15 : decode cJ3_checkIndex_8e157 15 = .ok (.athrow, 1) := by decide +kernel
theorem dJ3_checkIndex_8e157_16 : decode cJ3_checkIndex_8e157 16 = .ok (.iload_n 0, 1) := by decide +kernel
theorem dJ3_checkIndex_8e157_17 : decode cJ3_checkIndex_8e157 17 = .ok (.ireturn, 1) := by decide +kernel
abbrev vwCl : List vw_C := [(RJx4a65c, TJx4a65c, 3), (RX0, TX0, 2), (RX1, TX1, 5), (RX2, TX2, 1), (RX3, TX3, 2), (RX4, TX4, 4), (RX5, TX5, 2), (RX6, TX6, 9), (RX7, TX7, 2), (RX8, TX8, 10)]
