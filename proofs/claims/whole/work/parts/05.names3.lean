set_option maxRecDepth 20000 in
theorem ggX8_beginStep_X7_bestStepFrom : GoodIn wsX8_beginStep wsX7_bestStepFrom := goodIn_r _ [13, 14, 15, 16, 17, 18, 19, 20, 21, 22, 23, 24, 25, 26, 27, 12, 28, 29, 30, 31, 32, 33, 34, 35, 36, 37, 38, 39, 40, 41, 42, 43, 44, 45, 46, 47, 48, 49, 50, 51, 52, 53, 54, 55, 56, 57, 58, 91, 92, 93, 94] (by decide +kernel) (by decide +kernel)
set_option maxRecDepth 20000 in
theorem gX8_beginStep_X7_bestStepFrom : GoodIn wsX8_beginStep (wsV RX8 278 RX7 yX7_bestStepFrom wsX7_bestStepFrom) := goodIn_app (goodIn_of _ (by decide +kernel)) ggX8_beginStep_X7_bestStepFrom
set_option maxRecDepth 20000 in
theorem ggX8_beginStep_X6_giveUp : GoodIn wsX8_beginStep wsX6_giveUp := goodIn_r _ [62, 63, 82, 83, 84, 85, 86, 87, 88, 89, 90] (by decide +kernel) (by decide +kernel)
set_option maxRecDepth 20000 in
theorem gX8_beginStep_X6_giveUp : GoodIn wsX8_beginStep (wsV RX8 282 RX6 yX6_giveUp wsX6_giveUp) := goodIn_app (goodIn_of _ (by decide +kernel)) ggX8_beginStep_X6_giveUp
set_option maxRecDepth 20000 in
theorem ggX8_beginStep_X3_stepCost : GoodIn wsX8_beginStep wsX3_stepCost := goodIn_r _ [44, 45, 46, 31, 47, 48, 49, 50, 17, 51, 52, 91, 92] (by decide +kernel) (by decide +kernel)
set_option maxRecDepth 20000 in
theorem gX8_beginStep_X3_stepCost : GoodIn wsX8_beginStep (wsV RX8 285 RX3 yX3_stepCost wsX3_stepCost) := goodIn_app (goodIn_of _ (by decide +kernel)) ggX8_beginStep_X3_stepCost
set_option maxRecDepth 20000 in
theorem ggX8_beginStep_X6_begin : GoodIn wsX8_beginStep wsX6_begin := goodIn_r _ [68, 69, 70, 71, 82, 83, 84, 85, 86, 87, 88, 89, 90] (by decide +kernel) (by decide +kernel)
set_option maxRecDepth 20000 in
theorem gX8_beginStep_X6_begin : GoodIn wsX8_beginStep (wsV RX8 288 RX6 yX6_begin wsX6_begin) := goodIn_app (goodIn_of _ (by decide +kernel)) ggX8_beginStep_X6_begin
theorem dX8_beginStep_0 : decode cX8_beginStep 0 = .ok (.aload_n 0, 1) := by decide +kernel
theorem dX8_beginStep_1 : decode cX8_beginStep 1 = .ok (.getfield 19, 3) := by decide +kernel
theorem dX8_beginStep_4 : decode cX8_beginStep 4 = .ok (.aload_n 1, 1) := by decide +kernel
theorem dX8_beginStep_5 : decode cX8_beginStep 5 = .ok (.invokevirtual 207, 3) := by decide +kernel
theorem dX8_beginStep_8 : decode cX8_beginStep 8 = .ok (.aload_n 0, 1) := by decide +kernel
theorem dX8_beginStep_9 : decode cX8_beginStep 9 = .ok (.getfield 12, 3) := by decide +kernel
theorem dX8_beginStep_12 : decode cX8_beginStep 12 = .ok (.invokevirtual 278, 3) := by decide +kernel
theorem dX8_beginStep_15 : decode cX8_beginStep 15 = .ok (.istore_n 2, 1) := by decide +kernel
theorem dX8_beginStep_16 : decode cX8_beginStep 16 = .ok (.iload_n 2, 1) := by decide +kernel
theorem dX8_beginStep_17 : decode cX8_beginStep 17 = .ok (.iconst (-1), 1) := by decide +kernel
theorem dX8_beginStep_18 : decode cX8_beginStep 18 = .ok (.if_icmp .ne 10, 3) := by decide +kernel
theorem dX8_beginStep_21 : decode cX8_beginStep 21 = .ok (.aload_n 1, 1) := by decide +kernel
theorem dX8_beginStep_22 : decode cX8_beginStep 22 = .ok (.invokevirtual 282, 3) := by decide +kernel
theorem dX8_beginStep_25 : decode cX8_beginStep 25 = .ok (.goto 20, 3) := by decide +kernel
theorem dX8_beginStep_28 : decode cX8_beginStep 28 = .ok (.aload_n 1, 1) := by decide +kernel
theorem dX8_beginStep_29 : decode cX8_beginStep 29 = .ok (.iload_n 2, 1) := by decide +kernel
theorem dX8_beginStep_30 : decode cX8_beginStep 30 = .ok (.aload_n 0, 1) := by decide +kernel
theorem dX8_beginStep_31 : decode cX8_beginStep 31 = .ok (.getfield 12, 3) := by decide +kernel
theorem dX8_beginStep_34 : decode cX8_beginStep 34 = .ok (.aload_n 1, 1) := by decide +kernel
theorem dX8_beginStep_35 : decode cX8_beginStep 35 = .ok (.invokevirtual 207, 3) := by decide +kernel
theorem dX8_beginStep_38 : decode cX8_beginStep 38 = .ok (.iload_n 2, 1) := by decide +kernel
theorem dX8_beginStep_39 : decode cX8_beginStep 39 = .ok (.invokevirtual 285, 3) := by decide +kernel
theorem dX8_beginStep_42 : decode cX8_beginStep 42 = .ok (.invokevirtual 288, 3) := by decide +kernel
theorem dX8_beginStep_45 : decode cX8_beginStep 45 = .ok (.return_, 1) := by decide +kernel
set_option maxRecDepth 20000 in
theorem ggX8_rankOf_Jx4a65c_size_8abf5 : GoodIn wsX8_rankOf wsJx4a65c_size_8abf5 := goodIn_r _ [7, 8, 42, 43, 44] (by decide +kernel) (by decide +kernel)
set_option maxRecDepth 20000 in
theorem gX8_rankOf_Jx4a65c_size_8abf5 : GoodIn wsX8_rankOf (wsV RX8 79 RJx4a65c yJx4a65c_size_8abf5 wsJx4a65c_size_8abf5) := goodIn_app (goodIn_of _ (by decide +kernel)) ggX8_rankOf_Jx4a65c_size_8abf5
set_option maxRecDepth 20000 in
theorem ggX8_rankOf_Jx4a65c_get_915e3 : GoodIn wsX8_rankOf wsJx4a65c_get_915e3 := goodIn_r _ [12, 8, 13, 14, 15, 16, 17, 18, 19, 20, 21, 22, 23, 6, 24, 25, 42, 43, 44] (by decide +kernel) (by decide +kernel)
set_option maxRecDepth 20000 in
theorem gX8_rankOf_Jx4a65c_get_915e3 : GoodIn wsX8_rankOf (wsV RX8 83 RJx4a65c yJx4a65c_get_915e3 wsJx4a65c_get_915e3) := goodIn_app (goodIn_of _ (by decide +kernel)) ggX8_rankOf_Jx4a65c_get_915e3
set_option maxRecDepth 20000 in
theorem ggX8_rankOf_X6_keptScore : GoodIn wsX8_rankOf wsX6_keptScore := goodIn_r _ [30, 31, 45, 46, 47, 48, 49, 50, 51, 52, 53] (by decide +kernel) (by decide +kernel)
set_option maxRecDepth 20000 in
theorem gX8_rankOf_X6_keptScore : GoodIn wsX8_rankOf (wsV RX8 253 RX6 yX6_keptScore wsX6_keptScore) := goodIn_app (goodIn_of _ (by decide +kernel)) ggX8_rankOf_X6_keptScore
theorem dX8_rankOf_0 : decode cX8_rankOf 0 = .ok (.iconst 0, 1) := by decide +kernel
theorem dX8_rankOf_1 : decode cX8_rankOf 1 = .ok (.istore_n 3, 1) := by decide +kernel
theorem dX8_rankOf_2 : decode cX8_rankOf 2 = .ok (.iconst 0, 1) := by decide +kernel
theorem dX8_rankOf_3 : decode cX8_rankOf 3 = .ok (.istore 4, 2) := by decide +kernel
theorem dX8_rankOf_5 : decode cX8_rankOf 5 = .ok (.iload 4, 2) := by decide +kernel
theorem dX8_rankOf_7 : decode cX8_rankOf 7 = .ok (.aload_n 0, 1) := by decide +kernel
theorem dX8_rankOf_8 : decode cX8_rankOf 8 = .ok (.getfield 37, 3) := by decide +kernel
theorem dX8_rankOf_11 : decode cX8_rankOf 11 = .ok (.invokevirtual 79, 3) := by decide +kernel
theorem dX8_rankOf_14 : decode cX8_rankOf 14 = .ok (.if_icmp .ge 47, 3) := by decide +kernel
theorem dX8_rankOf_17 : decode cX8_rankOf 17 = .ok (.aload_n 0, 1) := by decide +kernel
theorem dX8_rankOf_18 : decode cX8_rankOf 18 = .ok (.getfield 37, 3) := by decide +kernel
theorem dX8_rankOf_21 : decode cX8_rankOf 21 = .ok (.iload 4, 2) := by decide +kernel
theorem dX8_rankOf_23 : decode cX8_rankOf 23 = .ok (.invokevirtual 83, 3) := by decide +kernel
theorem dX8_rankOf_26 : decode cX8_rankOf 26 = .ok (.checkcast 188, 3) := by decide +kernel
theorem dX8_rankOf_29 : decode cX8_rankOf 29 = .ok (.invokevirtual 253, 3) := by decide +kernel
theorem dX8_rankOf_32 : decode cX8_rankOf 32 = .ok (.istore 5, 2) := by decide +kernel
theorem dX8_rankOf_34 : decode cX8_rankOf 34 = .ok (.iload 5, 2) := by decide +kernel
theorem dX8_rankOf_36 : decode cX8_rankOf 36 = .ok (.iload_n 2, 1) := by decide +kernel
theorem dX8_rankOf_37 : decode cX8_rankOf 37 = .ok (.if_icmp .gt 15, 3) := by decide +kernel
theorem dX8_rankOf_40 : decode cX8_rankOf 40 = .ok (.iload 5, 2) := by decide +kernel
theorem dX8_rankOf_42 : decode cX8_rankOf 42 = .ok (.iload_n 2, 1) := by decide +kernel
theorem dX8_rankOf_43 : decode cX8_rankOf 43 = .ok (.if_icmp .ne 12, 3) := by decide +kernel
theorem dX8_rankOf_46 : decode cX8_rankOf 46 = .ok (.iload 4, 2) := by decide +kernel
theorem dX8_rankOf_48 : decode cX8_rankOf 48 = .ok (.iload_n 1, 1) := by decide +kernel
theorem dX8_rankOf_49 : decode cX8_rankOf 49 = .ok (.if_icmp .ge 6, 3) := by decide +kernel
theorem dX8_rankOf_52 : decode cX8_rankOf 52 = .ok (.iinc 3 1, 3) := by decide +kernel
theorem dX8_rankOf_55 : decode cX8_rankOf 55 = .ok (.iinc 4 1, 3) := by decide +kernel
theorem dX8_rankOf_58 : decode cX8_rankOf 58 = .ok (.goto (-53), 3) := by decide +kernel
theorem dX8_rankOf_61 : decode cX8_rankOf 61 = .ok (.iload_n 3, 1) := by decide +kernel
theorem dX8_rankOf_62 : decode cX8_rankOf 62 = .ok (.ireturn, 1) := by decide +kernel
theorem dX8_charsOf_0 : decode cX8_charsOf 0 = .ok (.iload_n 0, 1) := by decide +kernel
theorem dX8_charsOf_1 : decode cX8_charsOf 1 = .ok (.bipush 26, 2) := by decide +kernel
theorem dX8_charsOf_3 : decode cX8_charsOf 3 = .ok (.if_icmp .ne 7, 3) := by decide +kernel
theorem dX8_charsOf_6 : decode cX8_charsOf 6 = .ok (.iconst 2, 1) := by decide +kernel
theorem dX8_charsOf_7 : decode cX8_charsOf 7 = .ok (.goto 4, 3) := by decide +kernel
theorem dX8_charsOf_10 : decode cX8_charsOf 10 = .ok (.iconst 1, 1) := by decide +kernel
theorem dX8_charsOf_11 : decode cX8_charsOf 11 = .ok (.ireturn, 1) := by decide +kernel
theorem dX8_charOf_0 : decode cX8_charOf 0 = .ok (.iload_n 0, 1) := by decide +kernel
theorem dX8_charOf_1 : decode cX8_charOf 1 = .ok (.bipush 26, 2) := by decide +kernel
theorem dX8_charOf_3 : decode cX8_charOf 3 = .ok (.if_icmp .eq 9, 3) := by decide +kernel
theorem dX8_charOf_6 : decode cX8_charOf 6 = .ok (.bipush 97, 2) := by decide +kernel
theorem dX8_charOf_8 : decode cX8_charOf 8 = .ok (.iload_n 0, 1) := by decide +kernel
theorem dX8_charOf_9 : decode cX8_charOf 9 = .ok (.iadd, 1) := by decide +kernel
theorem dX8_charOf_10 : decode cX8_charOf 10 = .ok (.i2c, 1) := by decide +kernel
theorem dX8_charOf_11 : decode cX8_charOf 11 = .ok (.ireturn, 1) := by decide +kernel
theorem dX8_charOf_12 : decode cX8_charOf 12 = .ok (.iload_n 1, 1) := by decide +kernel
theorem dX8_charOf_13 : decode cX8_charOf 13 = .ok (.ifCond .ne 9, 3) := by decide +kernel
theorem dX8_charOf_16 : decode cX8_charOf 16 = .ok (.ldc_w 291, 3) := by decide +kernel
theorem dX8_charOf_19 : decode cX8_charOf 19 = .ok (.goto 6, 3) := by decide +kernel
theorem dX8_charOf_22 : decode cX8_charOf 22 = .ok (.ldc_w 292, 3) := by decide +kernel
theorem dX8_charOf_25 : decode cX8_charOf 25 = .ok (.ireturn, 1) := by decide +kernel
theorem dX8_pointsFor_0 : decode cX8_pointsFor 0 = .ok (.bipush 10, 2) := by decide +kernel
theorem dX8_pointsFor_2 : decode cX8_pointsFor 2 = .ok (.bipush 100, 2) := by decide +kernel
theorem dX8_pointsFor_4 : decode cX8_pointsFor 4 = .ok (.bipush 10, 2) := by decide +kernel
theorem dX8_pointsFor_6 : decode cX8_pointsFor 6 = .ok (.iload_n 0, 1) := by decide +kernel
theorem dX8_pointsFor_7 : decode cX8_pointsFor 7 = .ok (.imul, 1) := by decide +kernel
theorem dX8_pointsFor_8 : decode cX8_pointsFor 8 = .ok (.isub, 1) := by decide +kernel
theorem dX8_pointsFor_9 : decode cX8_pointsFor 9 = .ok (.invokestatic 293, 3) := by decide +kernel
theorem dX8_pointsFor_12 : decode cX8_pointsFor 12 = .ok (.istore_n 2, 1) := by decide +kernel
theorem dX8_pointsFor_13 : decode cX8_pointsFor 13 = .ok (.iload_n 1, 1) := by decide +kernel
theorem dX8_pointsFor_14 : decode cX8_pointsFor 14 = .ok (.ifCond .eq 9, 3) := by decide +kernel
theorem dX8_pointsFor_17 : decode cX8_pointsFor 17 = .ok (.iload_n 2, 1) := by decide +kernel
theorem dX8_pointsFor_18 : decode cX8_pointsFor 18 = .ok (.iconst 2, 1) := by decide +kernel
theorem dX8_pointsFor_19 : decode cX8_pointsFor 19 = .ok (.idiv, 1) := by decide +kernel
theorem dX8_pointsFor_20 : decode cX8_pointsFor 20 = .ok (.goto 4, 3) := by decide +kernel
theorem dX8_pointsFor_23 : decode cX8_pointsFor 23 = .ok (.iload_n 2, 1) := by decide +kernel
theorem dX8_pointsFor_24 : decode cX8_pointsFor 24 = .ok (.ireturn, 1) := by decide +kernel
theorem dX8_onlyPlaceIn_0 : decode cX8_onlyPlaceIn 0 = .ok (.iconst 0, 1) := by decide +kernel
theorem dX8_onlyPlaceIn_1 : decode cX8_onlyPlaceIn 1 = .ok (.istore_n 2, 1) := by decide +kernel
theorem dX8_onlyPlaceIn_2 : decode cX8_onlyPlaceIn 2 = .ok (.iload_n 2, 1) := by decide +kernel
theorem dX8_onlyPlaceIn_3 : decode cX8_onlyPlaceIn 3 = .ok (.bipush 64, 2) := by decide +kernel
theorem dX8_onlyPlaceIn_5 : decode cX8_onlyPlaceIn 5 = .ok (.if_icmp .ge 19, 3) := by decide +kernel
theorem dX8_onlyPlaceIn_8 : decode cX8_onlyPlaceIn 8 = .ok (.lload_n 0, 1) := by decide +kernel
theorem dX8_onlyPlaceIn_9 : decode cX8_onlyPlaceIn 9 = .ok (.lconst 1, 1) := by decide +kernel
theorem dX8_onlyPlaceIn_10 : decode cX8_onlyPlaceIn 10 = .ok (.iload_n 2, 1) := by decide +kernel
theorem dX8_onlyPlaceIn_11 : decode cX8_onlyPlaceIn 11 = .ok (.lshl, 1) := by decide +kernel
theorem dX8_onlyPlaceIn_12 : decode cX8_onlyPlaceIn 12 = .ok (.lcmp, 1) := by decide +kernel
theorem dX8_onlyPlaceIn_13 : decode cX8_onlyPlaceIn 13 = .ok (.ifCond .ne 5, 3) := by decide +kernel
theorem dX8_onlyPlaceIn_16 : decode cX8_onlyPlaceIn 16 = .ok (.iload_n 2, 1) := by decide +kernel
theorem dX8_onlyPlaceIn_17 : decode cX8_onlyPlaceIn 17 = .ok (.ireturn, 1) := by decide +kernel
theorem dX8_onlyPlaceIn_18 : decode cX8_onlyPlaceIn 18 = .ok (.iinc 2 1, 3) := by decide +kernel
theorem dX8_onlyPlaceIn_21 : decode cX8_onlyPlaceIn 21 = .ok (.goto (-19), 3) := by decide +kernel
theorem dX8_onlyPlaceIn_24 : decode cX8_onlyPlaceIn 24 = .ok (.iconst (-1), 1) := by decide +kernel
theorem dX8_onlyPlaceIn_25 : decode cX8_onlyPlaceIn 25 = .ok (.ireturn, 1) := by decide +kernel
theorem dX9_init_0 : decode cX9_init 0 = .ok (.aload_n 0, 1) := by decide +kernel
theorem dX9_init_1 : decode cX9_init 1 = .ok (.invokespecial 1, 3) := by decide +kernel
theorem dX9_init_4 : decode cX9_init 4 = .ok (.aload_n 0, 1) := by decide +kernel
theorem dX9_init_5 : decode cX9_init 5 = .ok (.bipush 64, 2) := by decide +kernel
theorem dX9_init_7 : decode cX9_init 7 = .ok (.newarray .int, 2) := by decide +kernel
theorem dX9_init_9 : decode cX9_init 9 = .ok (.putfield 7, 3) := by decide +kernel
theorem dX9_init_12 : decode cX9_init 12 = .ok (.aload_n 0, 1) := by decide +kernel
theorem dX9_init_13 : decode cX9_init 13 = .ok (.bipush 64, 2) := by decide +kernel
theorem dX9_init_15 : decode cX9_init 15 = .ok (.newarray .boolean, 2) := by decide +kernel
theorem dX9_init_17 : decode cX9_init 17 = .ok (.putfield 13, 3) := by decide +kernel
theorem dX9_init_20 : decode cX9_init 20 = .ok (.aload_n 0, 1) := by decide +kernel
theorem dX9_init_21 : decode cX9_init 21 = .ok (.bipush 35, 2) := by decide +kernel
theorem dX9_init_23 : decode cX9_init 23 = .ok (.newarray .int, 2) := by decide +kernel
theorem dX9_init_25 : decode cX9_init 25 = .ok (.putfield 17, 3) := by decide +kernel
theorem dX9_init_28 : decode cX9_init 28 = .ok (.aload_n 0, 1) := by decide +kernel
theorem dX9_init_29 : decode cX9_init 29 = .ok (.bipush 35, 2) := by decide +kernel
theorem dX9_init_31 : decode cX9_init 31 = .ok (.newarray .int, 2) := by decide +kernel
theorem dX9_init_33 : decode cX9_init 33 = .ok (.putfield 20, 3) := by decide +kernel
theorem dX9_init_36 : decode cX9_init 36 = .ok (.aload_n 0, 1) := by decide +kernel
theorem dX9_init_37 : decode cX9_init 37 = .ok (.bipush 35, 2) := by decide +kernel
theorem dX9_init_39 : decode cX9_init 39 = .ok (.newarray .int, 2) := by decide +kernel
theorem dX9_init_41 : decode cX9_init 41 = .ok (.putfield 23, 3) := by decide +kernel
theorem dX9_init_44 : decode cX9_init 44 = .ok (.aload_n 0, 1) := by decide +kernel
theorem dX9_init_45 : decode cX9_init 45 = .ok (.bipush 35, 2) := by decide +kernel
theorem dX9_init_47 : decode cX9_init 47 = .ok (.newarray .boolean, 2) := by decide +kernel
theorem dX9_init_49 : decode cX9_init 49 = .ok (.putfield 26, 3) := by decide +kernel
theorem dX9_init_52 : decode cX9_init 52 = .ok (.aload_n 0, 1) := by decide +kernel
theorem dX9_init_53 : decode cX9_init 53 = .ok (.bipush 7, 2) := by decide +kernel
theorem dX9_init_55 : decode cX9_init 55 = .ok (.newarray .int, 2) := by decide +kernel
theorem dX9_init_57 : decode cX9_init 57 = .ok (.putfield 29, 3) := by decide +kernel
theorem dX9_init_60 : decode cX9_init 60 = .ok (.aload_n 0, 1) := by decide +kernel
theorem dX9_init_61 : decode cX9_init 61 = .ok (.bipush 6, 2) := by decide +kernel
theorem dX9_init_63 : decode cX9_init 63 = .ok (.newarray .int, 2) := by decide +kernel
theorem dX9_init_65 : decode cX9_init 65 = .ok (.putfield 32, 3) := by decide +kernel
theorem dX9_init_68 : decode cX9_init 68 = .ok (.aload_n 0, 1) := by decide +kernel
theorem dX9_init_69 : decode cX9_init 69 = .ok (.bipush 6, 2) := by decide +kernel
theorem dX9_init_71 : decode cX9_init 71 = .ok (.newarray .int, 2) := by decide +kernel
theorem dX9_init_73 : decode cX9_init 73 = .ok (.putfield 35, 3) := by decide +kernel
theorem dX9_init_76 : decode cX9_init 76 = .ok (.aload_n 0, 1) := by decide +kernel
theorem dX9_init_77 : decode cX9_init 77 = .ok (.bipush 35, 2) := by decide +kernel
theorem dX9_init_79 : decode cX9_init 79 = .ok (.newarray .int, 2) := by decide +kernel
theorem dX9_init_81 : decode cX9_init 81 = .ok (.putfield 38, 3) := by decide +kernel
theorem dX9_init_84 : decode cX9_init 84 = .ok (.aload_n 0, 1) := by decide +kernel
theorem dX9_init_85 : decode cX9_init 85 = .ok (.bipush 7, 2) := by decide +kernel
theorem dX9_init_87 : decode cX9_init 87 = .ok (.newarray .int, 2) := by decide +kernel
theorem dX9_init_89 : decode cX9_init 89 = .ok (.putfield 41, 3) := by decide +kernel
theorem dX9_init_92 : decode cX9_init 92 = .ok (.aload_n 0, 1) := by decide +kernel
theorem dX9_init_93 : decode cX9_init 93 = .ok (.bipush 6, 2) := by decide +kernel
theorem dX9_init_95 : decode cX9_init 95 = .ok (.newarray .int, 2) := by decide +kernel
theorem dX9_init_97 : decode cX9_init 97 = .ok (.putfield 44, 3) := by decide +kernel
theorem dX9_init_100 : decode cX9_init 100 = .ok (.aload_n 0, 1) := by decide +kernel
theorem dX9_init_101 : decode cX9_init 101 = .ok (.bipush 6, 2) := by decide +kernel
theorem dX9_init_103 : decode cX9_init 103 = .ok (.newarray .int, 2) := by decide +kernel
theorem dX9_init_105 : decode cX9_init 105 = .ok (.putfield 47, 3) := by decide +kernel
theorem dX9_init_108 : decode cX9_init 108 = .ok (.aload_n 0, 1) := by decide +kernel
theorem dX9_init_109 : decode cX9_init 109 = .ok (.bipush 6, 2) := by decide +kernel
theorem dX9_init_111 : decode cX9_init 111 = .ok (.newarray .int, 2) := by decide +kernel
theorem dX9_init_113 : decode cX9_init 113 = .ok (.putfield 50, 3) := by decide +kernel
theorem dX9_init_116 : decode cX9_init 116 = .ok (.aload_n 0, 1) := by decide +kernel
theorem dX9_init_117 : decode cX9_init 117 = .ok (.bipush 6, 2) := by decide +kernel
theorem dX9_init_119 : decode cX9_init 119 = .ok (.newarray .int, 2) := by decide +kernel
theorem dX9_init_121 : decode cX9_init 121 = .ok (.putfield 53, 3) := by decide +kernel
theorem dX9_init_124 : decode cX9_init 124 = .ok (.aload_n 0, 1) := by decide +kernel
theorem dX9_init_125 : decode cX9_init 125 = .ok (.bipush 6, 2) := by decide +kernel
theorem dX9_init_127 : decode cX9_init 127 = .ok (.newarray .int, 2) := by decide +kernel
theorem dX9_init_129 : decode cX9_init 129 = .ok (.putfield 56, 3) := by decide +kernel
theorem dX9_init_132 : decode cX9_init 132 = .ok (.aload_n 0, 1) := by decide +kernel
theorem dX9_init_133 : decode cX9_init 133 = .ok (.iconst 4, 1) := by decide +kernel
theorem dX9_init_134 : decode cX9_init 134 = .ok (.newarray .int, 2) := by decide +kernel
theorem dX9_init_136 : decode cX9_init 136 = .ok (.putfield 59, 3) := by decide +kernel
theorem dX9_init_139 : decode cX9_init 139 = .ok (.aload_n 0, 1) := by decide +kernel
theorem dX9_init_140 : decode cX9_init 140 = .ok (.bipush 36, 2) := by decide +kernel
theorem dX9_init_142 : decode cX9_init 142 = .ok (.newarray .boolean, 2) := by decide +kernel
theorem dX9_init_144 : decode cX9_init 144 = .ok (.putfield 62, 3) := by decide +kernel
theorem dX9_init_147 : decode cX9_init 147 = .ok (.aload_n 0, 1) := by decide +kernel
theorem dX9_init_148 : decode cX9_init 148 = .ok (.bipush 36, 2) := by decide +kernel
theorem dX9_init_150 : decode cX9_init 150 = .ok (.newarray .boolean, 2) := by decide +kernel
theorem dX9_init_152 : decode cX9_init 152 = .ok (.putfield 65, 3) := by decide +kernel
theorem dX9_init_155 : decode cX9_init 155 = .ok (.aload_n 0, 1) := by decide +kernel
theorem dX9_init_156 : decode cX9_init 156 = .ok (.bipush 36, 2) := by decide +kernel
theorem dX9_init_158 : decode cX9_init 158 = .ok (.newarray .int, 2) := by decide +kernel
theorem dX9_init_160 : decode cX9_init 160 = .ok (.putfield 68, 3) := by decide +kernel
theorem dX9_init_163 : decode cX9_init 163 = .ok (.aload_n 0, 1) := by decide +kernel
theorem dX9_init_164 : decode cX9_init 164 = .ok (.bipush 12, 2) := by decide +kernel
theorem dX9_init_166 : decode cX9_init 166 = .ok (.newarray .int, 2) := by decide +kernel
theorem dX9_init_168 : decode cX9_init 168 = .ok (.putfield 71, 3) := by decide +kernel
theorem dX9_init_171 : decode cX9_init 171 = .ok (.aload_n 0, 1) := by decide +kernel
theorem dX9_init_172 : decode cX9_init 172 = .ok (.bipush 64, 2) := by decide +kernel
theorem dX9_init_174 : decode cX9_init 174 = .ok (.newarray .int, 2) := by decide +kernel
theorem dX9_init_176 : decode cX9_init 176 = .ok (.putfield 74, 3) := by decide +kernel
theorem dX9_init_179 : decode cX9_init 179 = .ok (.aload_n 0, 1) := by decide +kernel
theorem dX9_init_180 : decode cX9_init 180 = .ok (.iconst 0, 1) := by decide +kernel
theorem dX9_init_181 : decode cX9_init 181 = .ok (.putfield 77, 3) := by decide +kernel
theorem dX9_init_184 : decode cX9_init 184 = .ok (.return_, 1) := by decide +kernel
theorem dX9_thrown_0 : decode cX9_thrown 0 = .ok (.aload_n 0, 1) := by decide +kernel
theorem dX9_thrown_1 : decode cX9_thrown 1 = .ok (.getfield 81, 3) := by decide +kernel
theorem dX9_thrown_4 : decode cX9_thrown 4 = .ok (.ireturn, 1) := by decide +kernel
theorem dX9_in_0 : decode cX9_in 0 = .ok (.iload_n 0, 1) := by decide +kernel
theorem dX9_in_1 : decode cX9_in 1 = .ok (.iload_n 1, 1) := by decide +kernel
theorem dX9_in_2 : decode cX9_in 2 = .ok (.if_icmp .lt 12, 3) := by decide +kernel
theorem dX9_in_5 : decode cX9_in 5 = .ok (.iload_n 0, 1) := by decide +kernel
theorem dX9_in_6 : decode cX9_in 6 = .ok (.iload_n 2, 1) := by decide +kernel
theorem dX9_in_7 : decode cX9_in 7 = .ok (.if_icmp .gt 7, 3) := by decide +kernel
theorem dX9_in_10 : decode cX9_in 10 = .ok (.iconst 1, 1) := by decide +kernel
theorem dX9_in_11 : decode cX9_in 11 = .ok (.goto 4, 3) := by decide +kernel
theorem dX9_in_14 : decode cX9_in 14 = .ok (.iconst 0, 1) := by decide +kernel
theorem dX9_in_15 : decode cX9_in 15 = .ok (.ireturn, 1) := by decide +kernel
set_option maxRecDepth 20000 in
theorem ggX9_isPlace_X9_in : GoodIn wsX9_isPlace wsX9_in := goodIn_r _ [4] (by decide +kernel) (by decide +kernel)
set_option maxRecDepth 20000 in
theorem gX9_isPlace_X9_in : GoodIn wsX9_isPlace (va_wsS RX9 84 yX9_in wsX9_in) := goodIn_app (goodIn_of _ (by decide +kernel)) ggX9_isPlace_X9_in
theorem dX9_isPlace_0 : decode cX9_isPlace 0 = .ok (.iload_n 0, 1) := by decide +kernel
theorem dX9_isPlace_1 : decode cX9_isPlace 1 = .ok (.iconst 0, 1) := by decide +kernel
theorem dX9_isPlace_2 : decode cX9_isPlace 2 = .ok (.bipush 63, 2) := by decide +kernel
theorem dX9_isPlace_4 : decode cX9_isPlace 4 = .ok (.invokestatic 84, 3) := by decide +kernel
theorem dX9_isPlace_7 : decode cX9_isPlace 7 = .ok (.ireturn, 1) := by decide +kernel
set_option maxRecDepth 20000 in
theorem ggX9_isStage_X9_in : GoodIn wsX9_isStage wsX9_in := goodIn_r _ [5] (by decide +kernel) (by decide +kernel)
set_option maxRecDepth 20000 in
theorem gX9_isStage_X9_in : GoodIn wsX9_isStage (va_wsS RX9 84 yX9_in wsX9_in) := goodIn_app (goodIn_of _ (by decide +kernel)) ggX9_isStage_X9_in
theorem dX9_isStage_0 : decode cX9_isStage 0 = .ok (.iload_n 1, 1) := by decide +kernel
theorem dX9_isStage_1 : decode cX9_isStage 1 = .ok (.iconst 0, 1) := by decide +kernel
theorem dX9_isStage_2 : decode cX9_isStage 2 = .ok (.aload_n 0, 1) := by decide +kernel
theorem dX9_isStage_3 : decode cX9_isStage 3 = .ok (.getfield 88, 3) := by decide +kernel
theorem dX9_isStage_6 : decode cX9_isStage 6 = .ok (.iconst 1, 1) := by decide +kernel
theorem dX9_isStage_7 : decode cX9_isStage 7 = .ok (.isub, 1) := by decide +kernel
theorem dX9_isStage_8 : decode cX9_isStage 8 = .ok (.invokestatic 84, 3) := by decide +kernel
theorem dX9_isStage_11 : decode cX9_isStage 11 = .ok (.ireturn, 1) := by decide +kernel
set_option maxRecDepth 20000 in
theorem ggX9_isWalker_X9_in : GoodIn wsX9_isWalker wsX9_in := goodIn_r _ [5] (by decide +kernel) (by decide +kernel)
set_option maxRecDepth 20000 in
theorem gX9_isWalker_X9_in : GoodIn wsX9_isWalker (va_wsS RX9 84 yX9_in wsX9_in) := goodIn_app (goodIn_of _ (by decide +kernel)) ggX9_isWalker_X9_in
theorem dX9_isWalker_0 : decode cX9_isWalker 0 = .ok (.iload_n 1, 1) := by decide +kernel
theorem dX9_isWalker_1 : decode cX9_isWalker 1 = .ok (.iconst 0, 1) := by decide +kernel
theorem dX9_isWalker_2 : decode cX9_isWalker 2 = .ok (.aload_n 0, 1) := by decide +kernel
theorem dX9_isWalker_3 : decode cX9_isWalker 3 = .ok (.getfield 91, 3) := by decide +kernel
theorem dX9_isWalker_6 : decode cX9_isWalker 6 = .ok (.iconst 1, 1) := by decide +kernel
theorem dX9_isWalker_7 : decode cX9_isWalker 7 = .ok (.isub, 1) := by decide +kernel
theorem dX9_isWalker_8 : decode cX9_isWalker 8 = .ok (.invokestatic 84, 3) := by decide +kernel
theorem dX9_isWalker_11 : decode cX9_isWalker 11 = .ok (.ireturn, 1) := by decide +kernel
theorem dX9_apart_0 : decode cX9_apart 0 = .ok (.iload_n 0, 1) := by decide +kernel
theorem dX9_apart_1 : decode cX9_apart 1 = .ok (.iload_n 1, 1) := by decide +kernel
theorem dX9_apart_2 : decode cX9_apart 2 = .ok (.if_icmp .ge 9, 3) := by decide +kernel
theorem dX9_apart_5 : decode cX9_apart 5 = .ok (.iload_n 1, 1) := by decide +kernel
theorem dX9_apart_6 : decode cX9_apart 6 = .ok (.iload_n 0, 1) := by decide +kernel
theorem dX9_apart_7 : decode cX9_apart 7 = .ok (.isub, 1) := by decide +kernel
theorem dX9_apart_8 : decode cX9_apart 8 = .ok (.goto 6, 3) := by decide +kernel
theorem dX9_apart_11 : decode cX9_apart 11 = .ok (.iload_n 0, 1) := by decide +kernel
theorem dX9_apart_12 : decode cX9_apart 12 = .ok (.iload_n 1, 1) := by decide +kernel
theorem dX9_apart_13 : decode cX9_apart 13 = .ok (.isub, 1) := by decide +kernel
theorem dX9_apart_14 : decode cX9_apart 14 = .ok (.ireturn, 1) := by decide +kernel
set_option maxRecDepth 20000 in
theorem ggX9_distance_X9_apart : GoodIn wsX9_distance wsX9_apart := goodIn_r _ [4] (by decide +kernel) (by decide +kernel)
set_option maxRecDepth 20000 in
theorem gX9_distance_X9_apart : GoodIn wsX9_distance (va_wsS RX9 94 yX9_apart wsX9_apart) := goodIn_app (goodIn_of _ (by decide +kernel)) ggX9_distance_X9_apart
theorem dX9_distance_0 : decode cX9_distance 0 = .ok (.iload_n 0, 1) := by decide +kernel
theorem dX9_distance_1 : decode cX9_distance 1 = .ok (.bipush 8, 2) := by decide +kernel
theorem dX9_distance_3 : decode cX9_distance 3 = .ok (.idiv, 1) := by decide +kernel
theorem dX9_distance_4 : decode cX9_distance 4 = .ok (.iload_n 1, 1) := by decide +kernel
theorem dX9_distance_5 : decode cX9_distance 5 = .ok (.bipush 8, 2) := by decide +kernel
theorem dX9_distance_7 : decode cX9_distance 7 = .ok (.idiv, 1) := by decide +kernel
theorem dX9_distance_8 : decode cX9_distance 8 = .ok (.invokestatic 94, 3) := by decide +kernel
theorem dX9_distance_11 : decode cX9_distance 11 = .ok (.iload_n 0, 1) := by decide +kernel
theorem dX9_distance_12 : decode cX9_distance 12 = .ok (.bipush 8, 2) := by decide +kernel
theorem dX9_distance_14 : decode cX9_distance 14 = .ok (.irem, 1) := by decide +kernel
theorem dX9_distance_15 : decode cX9_distance 15 = .ok (.iload_n 1, 1) := by decide +kernel
theorem dX9_distance_16 : decode cX9_distance 16 = .ok (.bipush 8, 2) := by decide +kernel
theorem dX9_distance_18 : decode cX9_distance 18 = .ok (.irem, 1) := by decide +kernel
theorem dX9_distance_19 : decode cX9_distance 19 = .ok (.invokestatic 94, 3) := by decide +kernel
theorem dX9_distance_22 : decode cX9_distance 22 = .ok (.iadd, 1) := by decide +kernel
theorem dX9_distance_23 : decode cX9_distance 23 = .ok (.ireturn, 1) := by decide +kernel
set_option maxRecDepth 20000 in
theorem ggX9_holds_X9_distance : GoodIn wsX9_holds wsX9_distance := goodIn_r _ [9, 10, 11, 8, 12] (by decide +kernel) (by decide +kernel)
set_option maxRecDepth 20000 in
theorem gX9_holds_X9_distance : GoodIn wsX9_holds (va_wsS RX9 98 yX9_distance wsX9_distance) := goodIn_app (goodIn_of _ (by decide +kernel)) ggX9_holds_X9_distance
theorem dX9_holds_0 : decode cX9_holds 0 = .ok (.aload_n 0, 1) := by decide +kernel
theorem dX9_holds_1 : decode cX9_holds 1 = .ok (.getfield 17, 3) := by decide +kernel
theorem dX9_holds_4 : decode cX9_holds 4 = .ok (.iload_n 1, 1) := by decide +kernel
theorem dX9_holds_5 : decode cX9_holds 5 = .ok (.iaload, 1) := by decide +kernel
theorem dX9_holds_6 : decode cX9_holds 6 = .ok (.istore_n 3, 1) := by decide +kernel
theorem dX9_holds_7 : decode cX9_holds 7 = .ok (.aload_n 0, 1) := by decide +kernel
theorem dX9_holds_8 : decode cX9_holds 8 = .ok (.getfield 20, 3) := by decide +kernel
theorem dX9_holds_11 : decode cX9_holds 11 = .ok (.iload_n 1, 1) := by decide +kernel
theorem dX9_holds_12 : decode cX9_holds 12 = .ok (.iaload, 1) := by decide +kernel
theorem dX9_holds_13 : decode cX9_holds 13 = .ok (.istore 4, 2) := by decide +kernel
theorem dX9_holds_15 : decode cX9_holds 15 = .ok (.iload_n 3, 1) := by decide +kernel
theorem dX9_holds_16 : decode cX9_holds 16 = .ok (.ifCond .ne 20, 3) := by decide +kernel
theorem dX9_holds_19 : decode cX9_holds 19 = .ok (.iload_n 2, 1) := by decide +kernel
theorem dX9_holds_20 : decode cX9_holds 20 = .ok (.bipush 8, 2) := by decide +kernel
theorem dX9_holds_22 : decode cX9_holds 22 = .ok (.idiv, 1) := by decide +kernel
theorem dX9_holds_23 : decode cX9_holds 23 = .ok (.iload 4, 2) := by decide +kernel
theorem dX9_holds_25 : decode cX9_holds 25 = .ok (.if_icmp .ge 7, 3) := by decide +kernel
theorem dX9_holds_28 : decode cX9_holds 28 = .ok (.iconst 1, 1) := by decide +kernel
theorem dX9_holds_29 : decode cX9_holds 29 = .ok (.goto 102, 3) := by decide +kernel
theorem dX9_holds_32 : decode cX9_holds 32 = .ok (.iconst 0, 1) := by decide +kernel
theorem dX9_holds_33 : decode cX9_holds 33 = .ok (.goto 98, 3) := by decide +kernel
theorem dX9_holds_36 : decode cX9_holds 36 = .ok (.iload_n 3, 1) := by decide +kernel
theorem dX9_holds_37 : decode cX9_holds 37 = .ok (.iconst 1, 1) := by decide +kernel
theorem dX9_holds_38 : decode cX9_holds 38 = .ok (.if_icmp .ne 20, 3) := by decide +kernel
theorem dX9_holds_41 : decode cX9_holds 41 = .ok (.iload_n 2, 1) := by decide +kernel
theorem dX9_holds_42 : decode cX9_holds 42 = .ok (.bipush 8, 2) := by decide +kernel
theorem dX9_holds_44 : decode cX9_holds 44 = .ok (.irem, 1) := by decide +kernel
theorem dX9_holds_45 : decode cX9_holds 45 = .ok (.iload 4, 2) := by decide +kernel
theorem dX9_holds_47 : decode cX9_holds 47 = .ok (.if_icmp .ge 7, 3) := by decide +kernel
theorem dX9_holds_50 : decode cX9_holds 50 = .ok (.iconst 1, 1) := by decide +kernel
theorem dX9_holds_51 : decode cX9_holds 51 = .ok (.goto 80, 3) := by decide +kernel
theorem dX9_holds_54 : decode cX9_holds 54 = .ok (.iconst 0, 1) := by decide +kernel
theorem dX9_holds_55 : decode cX9_holds 55 = .ok (.goto 76, 3) := by decide +kernel
theorem dX9_holds_58 : decode cX9_holds 58 = .ok (.iload_n 3, 1) := by decide +kernel
theorem dX9_holds_59 : decode cX9_holds 59 = .ok (.iconst 2, 1) := by decide +kernel
theorem dX9_holds_60 : decode cX9_holds 60 = .ok (.if_icmp .ne 22, 3) := by decide +kernel
theorem dX9_holds_63 : decode cX9_holds 63 = .ok (.aload_n 0, 1) := by decide +kernel
theorem dX9_holds_64 : decode cX9_holds 64 = .ok (.getfield 7, 3) := by decide +kernel
theorem dX9_holds_67 : decode cX9_holds 67 = .ok (.iload_n 2, 1) := by decide +kernel
theorem dX9_holds_68 : decode cX9_holds 68 = .ok (.iaload, 1) := by decide +kernel
theorem dX9_holds_69 : decode cX9_holds 69 = .ok (.iload 4, 2) := by decide +kernel
theorem dX9_holds_71 : decode cX9_holds 71 = .ok (.if_icmp .lt 7, 3) := by decide +kernel
theorem dX9_holds_74 : decode cX9_holds 74 = .ok (.iconst 1, 1) := by decide +kernel
theorem dX9_holds_75 : decode cX9_holds 75 = .ok (.goto 56, 3) := by decide +kernel
theorem dX9_holds_78 : decode cX9_holds 78 = .ok (.iconst 0, 1) := by decide +kernel
theorem dX9_holds_79 : decode cX9_holds 79 = .ok (.goto 52, 3) := by decide +kernel
theorem dX9_holds_82 : decode cX9_holds 82 = .ok (.iload_n 3, 1) := by decide +kernel
theorem dX9_holds_83 : decode cX9_holds 83 = .ok (.iconst 3, 1) := by decide +kernel
theorem dX9_holds_84 : decode cX9_holds 84 = .ok (.if_icmp .ne 26, 3) := by decide +kernel
theorem dX9_holds_87 : decode cX9_holds 87 = .ok (.iload_n 2, 1) := by decide +kernel
theorem dX9_holds_88 : decode cX9_holds 88 = .ok (.aload_n 0, 1) := by decide +kernel
theorem dX9_holds_89 : decode cX9_holds 89 = .ok (.getfield 23, 3) := by decide +kernel
theorem dX9_holds_92 : decode cX9_holds 92 = .ok (.iload_n 1, 1) := by decide +kernel
theorem dX9_holds_93 : decode cX9_holds 93 = .ok (.iaload, 1) := by decide +kernel
theorem dX9_holds_94 : decode cX9_holds 94 = .ok (.invokestatic 98, 3) := by decide +kernel
theorem dX9_holds_97 : decode cX9_holds 97 = .ok (.iload 4, 2) := by decide +kernel
theorem dX9_holds_99 : decode cX9_holds 99 = .ok (.if_icmp .gt 7, 3) := by decide +kernel
theorem dX9_holds_102 : decode cX9_holds 102 = .ok (.iconst 1, 1) := by decide +kernel
theorem dX9_holds_103 : decode cX9_holds 103 = .ok (.goto 28, 3) := by decide +kernel
theorem dX9_holds_106 : decode cX9_holds 106 = .ok (.iconst 0, 1) := by decide +kernel
theorem dX9_holds_107 : decode cX9_holds 107 = .ok (.goto 24, 3) := by decide +kernel
theorem dX9_holds_110 : decode cX9_holds 110 = .ok (.iload_n 2, 1) := by decide +kernel
theorem dX9_holds_111 : decode cX9_holds 111 = .ok (.bipush 8, 2) := by decide +kernel
theorem dX9_holds_113 : decode cX9_holds 113 = .ok (.idiv, 1) := by decide +kernel
theorem dX9_holds_114 : decode cX9_holds 114 = .ok (.iload_n 2, 1) := by decide +kernel
theorem dX9_holds_115 : decode cX9_holds 115 = .ok (.bipush 8, 2) := by decide +kernel
theorem dX9_holds_117 : decode cX9_holds 117 = .ok (.irem, 1) := by decide +kernel
theorem dX9_holds_118 : decode cX9_holds 118 = .ok (.iadd, 1) := by decide +kernel
theorem dX9_holds_119 : decode cX9_holds 119 = .ok (.iconst 2, 1) := by decide +kernel
theorem dX9_holds_120 : decode cX9_holds 120 = .ok (.irem, 1) := by decide +kernel
theorem dX9_holds_121 : decode cX9_holds 121 = .ok (.iload 4, 2) := by decide +kernel
theorem dX9_holds_123 : decode cX9_holds 123 = .ok (.if_icmp .ne 7, 3) := by decide +kernel
theorem dX9_holds_126 : decode cX9_holds 126 = .ok (.iconst 1, 1) := by decide +kernel
theorem dX9_holds_127 : decode cX9_holds 127 = .ok (.goto 4, 3) := by decide +kernel
theorem dX9_holds_130 : decode cX9_holds 130 = .ok (.iconst 0, 1) := by decide +kernel
theorem dX9_holds_131 : decode cX9_holds 131 = .ok (.istore 5, 2) := by decide +kernel
theorem dX9_holds_133 : decode cX9_holds 133 = .ok (.iload 5, 2) := by decide +kernel
theorem dX9_holds_135 : decode cX9_holds 135 = .ok (.aload_n 0, 1) := by decide +kernel
theorem dX9_holds_136 : decode cX9_holds 136 = .ok (.getfield 26, 3) := by decide +kernel
theorem dX9_holds_139 : decode cX9_holds 139 = .ok (.iload_n 1, 1) := by decide +kernel
theorem dX9_holds_140 : decode cX9_holds 140 = .ok (.baload, 1) := by decide +kernel
theorem dX9_holds_141 : decode cX9_holds 141 = .ok (.if_icmp .eq 7, 3) := by decide +kernel
theorem dX9_holds_144 : decode cX9_holds 144 = .ok (.iconst 1, 1) := by decide +kernel
theorem dX9_holds_145 : decode cX9_holds 145 = .ok (.goto 4, 3) := by decide +kernel
theorem dX9_holds_148 : decode cX9_holds 148 = .ok (.iconst 0, 1) := by decide +kernel
theorem dX9_holds_149 : decode cX9_holds 149 = .ok (.ireturn, 1) := by decide +kernel
set_option maxRecDepth 20000 in
theorem ggX9_fitting_X9_holds : GoodIn wsX9_fitting wsX9_holds := goodIn_r _ [7, 8, 9, 10, 11, 12, 13, 14, 6, 15, 16, 17, 18, 19, 20, 21, 22, 23, 24, 25, 26, 27, 28, 29, 30, 31, 32, 33, 34, 35, 36, 37, 38, 39, 40, 41, 42, 43, 44, 45, 46, 47] (by decide +kernel) (by decide +kernel)
set_option maxRecDepth 20000 in
theorem gX9_fitting_X9_holds : GoodIn wsX9_fitting (wsV RX9 104 RX9 yX9_holds wsX9_holds) := goodIn_app (goodIn_of _ (by decide +kernel)) ggX9_fitting_X9_holds
theorem dX9_fitting_0 : decode cX9_fitting 0 = .ok (.iconst 0, 1) := by decide +kernel
theorem dX9_fitting_1 : decode cX9_fitting 1 = .ok (.istore_n 3, 1) := by decide +kernel
theorem dX9_fitting_2 : decode cX9_fitting 2 = .ok (.aload_n 0, 1) := by decide +kernel
theorem dX9_fitting_3 : decode cX9_fitting 3 = .ok (.iconst (-1), 1) := by decide +kernel
theorem dX9_fitting_4 : decode cX9_fitting 4 = .ok (.putfield 101, 3) := by decide +kernel
theorem dX9_fitting_7 : decode cX9_fitting 7 = .ok (.iconst 0, 1) := by decide +kernel
theorem dX9_fitting_8 : decode cX9_fitting 8 = .ok (.istore 4, 2) := by decide +kernel
theorem dX9_fitting_10 : decode cX9_fitting 10 = .ok (.iload 4, 2) := by decide +kernel
theorem dX9_fitting_12 : decode cX9_fitting 12 = .ok (.bipush 64, 2) := by decide +kernel
theorem dX9_fitting_14 : decode cX9_fitting 14 = .ok (.if_icmp .ge 96, 3) := by decide +kernel
theorem dX9_fitting_17 : decode cX9_fitting 17 = .ok (.iconst 1, 1) := by decide +kernel
theorem dX9_fitting_18 : decode cX9_fitting 18 = .ok (.istore 5, 2) := by decide +kernel
theorem dX9_fitting_20 : decode cX9_fitting 20 = .ok (.iconst 0, 1) := by decide +kernel
theorem dX9_fitting_21 : decode cX9_fitting 21 = .ok (.istore 6, 2) := by decide +kernel
theorem dX9_fitting_23 : decode cX9_fitting 23 = .ok (.iload 6, 2) := by decide +kernel
theorem dX9_fitting_25 : decode cX9_fitting 25 = .ok (.aload_n 0, 1) := by decide +kernel
theorem dX9_fitting_26 : decode cX9_fitting 26 = .ok (.getfield 29, 3) := by decide +kernel
theorem dX9_fitting_29 : decode cX9_fitting 29 = .ok (.iload_n 1, 1) := by decide +kernel
theorem dX9_fitting_30 : decode cX9_fitting 30 = .ok (.iaload, 1) := by decide +kernel
theorem dX9_fitting_31 : decode cX9_fitting 31 = .ok (.if_icmp .ge 42, 3) := by decide +kernel
theorem dX9_fitting_34 : decode cX9_fitting 34 = .ok (.iload 5, 2) := by decide +kernel
theorem dX9_fitting_36 : decode cX9_fitting 36 = .ok (.ifCond .eq 28, 3) := by decide +kernel
theorem dX9_fitting_39 : decode cX9_fitting 39 = .ok (.iload 6, 2) := by decide +kernel
theorem dX9_fitting_41 : decode cX9_fitting 41 = .ok (.iload_n 2, 1) := by decide +kernel
theorem dX9_fitting_42 : decode cX9_fitting 42 = .ok (.if_icmp .eq 18, 3) := by decide +kernel
theorem dX9_fitting_45 : decode cX9_fitting 45 = .ok (.aload_n 0, 1) := by decide +kernel
theorem dX9_fitting_46 : decode cX9_fitting 46 = .ok (.iconst 5, 1) := by decide +kernel
theorem dX9_fitting_47 : decode cX9_fitting 47 = .ok (.iload_n 1, 1) := by decide +kernel
theorem dX9_fitting_48 : decode cX9_fitting 48 = .ok (.imul, 1) := by decide +kernel
theorem dX9_fitting_49 : decode cX9_fitting 49 = .ok (.iload 6, 2) := by decide +kernel
theorem dX9_fitting_51 : decode cX9_fitting 51 = .ok (.iadd, 1) := by decide +kernel
theorem dX9_fitting_52 : decode cX9_fitting 52 = .ok (.iload 4, 2) := by decide +kernel
theorem dX9_fitting_54 : decode cX9_fitting 54 = .ok (.invokevirtual 104, 3) := by decide +kernel
theorem dX9_fitting_57 : decode cX9_fitting 57 = .ok (.ifCond .eq 7, 3) := by decide +kernel
theorem dX9_fitting_60 : decode cX9_fitting 60 = .ok (.iconst 1, 1) := by decide +kernel
theorem dX9_fitting_61 : decode cX9_fitting 61 = .ok (.goto 4, 3) := by decide +kernel
theorem dX9_fitting_64 : decode cX9_fitting 64 = .ok (.iconst 0, 1) := by decide +kernel
theorem dX9_fitting_65 : decode cX9_fitting 65 = .ok (.istore 5, 2) := by decide +kernel
theorem dX9_fitting_67 : decode cX9_fitting 67 = .ok (.iinc 6 1, 3) := by decide +kernel
theorem dX9_fitting_70 : decode cX9_fitting 70 = .ok (.goto (-47), 3) := by decide +kernel
theorem dX9_fitting_73 : decode cX9_fitting 73 = .ok (.iload_n 3, 1) := by decide +kernel
theorem dX9_fitting_74 : decode cX9_fitting 74 = .ok (.iload 5, 2) := by decide +kernel
theorem dX9_fitting_76 : decode cX9_fitting 76 = .ok (.ifCond .eq 7, 3) := by decide +kernel
theorem dX9_fitting_79 : decode cX9_fitting 79 = .ok (.iconst 1, 1) := by decide +kernel
theorem dX9_fitting_80 : decode cX9_fitting 80 = .ok (.goto 4, 3) := by decide +kernel
theorem dX9_fitting_83 : decode cX9_fitting 83 = .ok (.iconst 0, 1) := by decide +kernel
theorem dX9_fitting_84 : decode cX9_fitting 84 = .ok (.iadd, 1) := by decide +kernel
theorem dX9_fitting_85 : decode cX9_fitting 85 = .ok (.istore_n 3, 1) := by decide +kernel
theorem dX9_fitting_86 : decode cX9_fitting 86 = .ok (.aload_n 0, 1) := by decide +kernel
theorem dX9_fitting_87 : decode cX9_fitting 87 = .ok (.iload 5, 2) := by decide +kernel
theorem dX9_fitting_89 : decode cX9_fitting 89 = .ok (.ifCond .eq 8, 3) := by decide +kernel
theorem dX9_fitting_92 : decode cX9_fitting 92 = .ok (.iload 4, 2) := by decide +kernel
theorem dX9_fitting_94 : decode cX9_fitting 94 = .ok (.goto 7, 3) := by decide +kernel
theorem dX9_fitting_97 : decode cX9_fitting 97 = .ok (.aload_n 0, 1) := by decide +kernel
theorem dX9_fitting_98 : decode cX9_fitting 98 = .ok (.getfield 101, 3) := by decide +kernel
theorem dX9_fitting_101 : decode cX9_fitting 101 = .ok (.putfield 101, 3) := by decide +kernel
theorem dX9_fitting_104 : decode cX9_fitting 104 = .ok (.iinc 4 1, 3) := by decide +kernel
theorem dX9_fitting_107 : decode cX9_fitting 107 = .ok (.goto (-97), 3) := by decide +kernel
theorem dX9_fitting_110 : decode cX9_fitting 110 = .ok (.iload_n 3, 1) := by decide +kernel
theorem dX9_fitting_111 : decode cX9_fitting 111 = .ok (.ireturn, 1) := by decide +kernel
set_option maxRecDepth 20000 in
theorem ggX9_fixed_X9_fitting : GoodIn wsX9_fixed wsX9_fitting := goodIn_r _ [6, 1, 7, 8, 9, 10, 5, 11, 12, 13, 14, 15, 16, 17, 18, 19, 20, 21, 22, 23, 24, 25, 26, 27, 28, 29, 30, 31, 32, 33, 34, 35, 36, 37, 38, 39, 40, 41, 42, 43, 44, 45, 46, 47, 48, 49, 50, 51] (by decide +kernel) (by decide +kernel)
set_option maxRecDepth 20000 in
theorem gX9_fixed_X9_fitting : GoodIn wsX9_fixed (wsV RX9 108 RX9 yX9_fitting wsX9_fitting) := goodIn_app (goodIn_of _ (by decide +kernel)) ggX9_fixed_X9_fitting
theorem dX9_fixed_0 : decode cX9_fixed 0 = .ok (.aload_n 0, 1) := by decide +kernel
theorem dX9_fixed_1 : decode cX9_fixed 1 = .ok (.iload_n 1, 1) := by decide +kernel
theorem dX9_fixed_2 : decode cX9_fixed 2 = .ok (.iconst (-1), 1) := by decide +kernel
theorem dX9_fixed_3 : decode cX9_fixed 3 = .ok (.invokevirtual 108, 3) := by decide +kernel
theorem dX9_fixed_6 : decode cX9_fixed 6 = .ok (.iconst 1, 1) := by decide +kernel
theorem dX9_fixed_7 : decode cX9_fixed 7 = .ok (.if_icmp .ne 10, 3) := by decide +kernel
theorem dX9_fixed_10 : decode cX9_fixed 10 = .ok (.aload_n 0, 1) := by decide +kernel
theorem dX9_fixed_11 : decode cX9_fixed 11 = .ok (.getfield 101, 3) := by decide +kernel
theorem dX9_fixed_14 : decode cX9_fixed 14 = .ok (.goto 4, 3) := by decide +kernel
theorem dX9_fixed_17 : decode cX9_fixed 17 = .ok (.iconst (-1), 1) := by decide +kernel
theorem dX9_fixed_18 : decode cX9_fixed 18 = .ok (.ireturn, 1) := by decide +kernel
set_option maxRecDepth 20000 in
theorem ggX9_setHeight_X9_isPlace : GoodIn wsX9_setHeight wsX9_isPlace := goodIn_r _ [9, 10, 11, 8, 12] (by decide +kernel) (by decide +kernel)
set_option maxRecDepth 20000 in
theorem gX9_setHeight_X9_isPlace : GoodIn wsX9_setHeight (va_wsS RX9 111 yX9_isPlace wsX9_isPlace) := goodIn_app (goodIn_of _ (by decide +kernel)) ggX9_setHeight_X9_isPlace
set_option maxRecDepth 20000 in
theorem ggX9_setHeight_X9_in : GoodIn wsX9_setHeight wsX9_in := goodIn_r _ [12] (by decide +kernel) (by decide +kernel)
set_option maxRecDepth 20000 in
theorem gX9_setHeight_X9_in : GoodIn wsX9_setHeight (va_wsS RX9 84 yX9_in wsX9_in) := goodIn_app (goodIn_of _ (by decide +kernel)) ggX9_setHeight_X9_in
set_option maxRecDepth 20000 in
theorem ggX9_setHeight_X9_fixed : GoodIn wsX9_setHeight wsX9_fixed := goodIn_r _ [16, 17, 18, 19, 20, 8, 21, 22, 23, 24, 25, 26, 27, 28, 2, 29, 30, 31, 32, 33, 34, 35, 36, 37, 38, 39, 40, 41, 42, 43, 44, 45, 46, 47, 48, 49, 50, 51, 52, 53, 54, 55, 56, 57, 58, 59, 60, 61, 62, 63, 64, 65] (by decide +kernel) (by decide +kernel)
set_option maxRecDepth 20000 in
theorem gX9_setHeight_X9_fixed : GoodIn wsX9_setHeight (wsV RX9 115 RX9 yX9_fixed wsX9_fixed) := goodIn_app (goodIn_of _ (by decide +kernel)) ggX9_setHeight_X9_fixed
theorem dX9_setHeight_0 : decode cX9_setHeight 0 = .ok (.aload_n 0, 1) := by decide +kernel
theorem dX9_setHeight_1 : decode cX9_setHeight 1 = .ok (.iload_n 1, 1) := by decide +kernel
theorem dX9_setHeight_2 : decode cX9_setHeight 2 = .ok (.invokestatic 111, 3) := by decide +kernel
theorem dX9_setHeight_5 : decode cX9_setHeight 5 = .ok (.ifCond .ne 7, 3) := by decide +kernel
theorem dX9_setHeight_8 : decode cX9_setHeight 8 = .ok (.iconst 1, 1) := by decide +kernel
theorem dX9_setHeight_9 : decode cX9_setHeight 9 = .ok (.goto 18, 3) := by decide +kernel
theorem dX9_setHeight_12 : decode cX9_setHeight 12 = .ok (.iload_n 2, 1) := by decide +kernel
theorem dX9_setHeight_13 : decode cX9_setHeight 13 = .ok (.iconst 0, 1) := by decide +kernel
theorem dX9_setHeight_14 : decode cX9_setHeight 14 = .ok (.bipush 9, 2) := by decide +kernel
theorem dX9_setHeight_16 : decode cX9_setHeight 16 = .ok (.invokestatic 84, 3) := by decide +kernel
theorem dX9_setHeight_19 : decode cX9_setHeight 19 = .ok (.ifCond .ne 7, 3) := by decide +kernel
theorem dX9_setHeight_22 : decode cX9_setHeight 22 = .ok (.iconst 2, 1) := by decide +kernel
theorem dX9_setHeight_23 : decode cX9_setHeight 23 = .ok (.goto 4, 3) := by decide +kernel
theorem dX9_setHeight_26 : decode cX9_setHeight 26 = .ok (.iconst 0, 1) := by decide +kernel
theorem dX9_setHeight_27 : decode cX9_setHeight 27 = .ok (.putfield 81, 3) := by decide +kernel
theorem dX9_setHeight_30 : decode cX9_setHeight 30 = .ok (.aload_n 0, 1) := by decide +kernel
theorem dX9_setHeight_31 : decode cX9_setHeight 31 = .ok (.getfield 81, 3) := by decide +kernel
theorem dX9_setHeight_34 : decode cX9_setHeight 34 = .ok (.ifCond .le 5, 3) := by decide +kernel
theorem dX9_setHeight_37 : decode cX9_setHeight 37 = .ok (.iconst 0, 1) := by decide +kernel
theorem dX9_setHeight_38 : decode cX9_setHeight 38 = .ok (.ireturn, 1) := by decide +kernel
theorem dX9_setHeight_39 : decode cX9_setHeight 39 = .ok (.aload_n 0, 1) := by decide +kernel
theorem dX9_setHeight_40 : decode cX9_setHeight 40 = .ok (.getfield 7, 3) := by decide +kernel
theorem dX9_setHeight_43 : decode cX9_setHeight 43 = .ok (.iload_n 1, 1) := by decide +kernel
theorem dX9_setHeight_44 : decode cX9_setHeight 44 = .ok (.iload_n 2, 1) := by decide +kernel
theorem dX9_setHeight_45 : decode cX9_setHeight 45 = .ok (.iastore, 1) := by decide +kernel
theorem dX9_setHeight_46 : decode cX9_setHeight 46 = .ok (.iconst 0, 1) := by decide +kernel
theorem dX9_setHeight_47 : decode cX9_setHeight 47 = .ok (.istore_n 3, 1) := by decide +kernel
theorem dX9_setHeight_48 : decode cX9_setHeight 48 = .ok (.iconst 0, 1) := by decide +kernel
theorem dX9_setHeight_49 : decode cX9_setHeight 49 = .ok (.istore 4, 2) := by decide +kernel
theorem dX9_setHeight_51 : decode cX9_setHeight 51 = .ok (.iload 4, 2) := by decide +kernel
theorem dX9_setHeight_53 : decode cX9_setHeight 53 = .ok (.aload_n 0, 1) := by decide +kernel
theorem dX9_setHeight_54 : decode cX9_setHeight 54 = .ok (.getfield 88, 3) := by decide +kernel
theorem dX9_setHeight_57 : decode cX9_setHeight 57 = .ok (.if_icmp .ge 54, 3) := by decide +kernel
theorem dX9_setHeight_60 : decode cX9_setHeight 60 = .ok (.aload_n 0, 1) := by decide +kernel
theorem dX9_setHeight_61 : decode cX9_setHeight 61 = .ok (.iload 4, 2) := by decide +kernel
theorem dX9_setHeight_63 : decode cX9_setHeight 63 = .ok (.iconst 1, 1) := by decide +kernel
theorem dX9_setHeight_64 : decode cX9_setHeight 64 = .ok (.iadd, 1) := by decide +kernel
theorem dX9_setHeight_65 : decode cX9_setHeight 65 = .ok (.invokevirtual 115, 3) := by decide +kernel
theorem dX9_setHeight_68 : decode cX9_setHeight 68 = .ok (.istore 5, 2) := by decide +kernel
theorem dX9_setHeight_70 : decode cX9_setHeight 70 = .ok (.iload 5, 2) := by decide +kernel
theorem dX9_setHeight_72 : decode cX9_setHeight 72 = .ok (.aload_n 0, 1) := by decide +kernel
theorem dX9_setHeight_73 : decode cX9_setHeight 73 = .ok (.getfield 32, 3) := by decide +kernel
theorem dX9_setHeight_76 : decode cX9_setHeight 76 = .ok (.iload 4, 2) := by decide +kernel
theorem dX9_setHeight_78 : decode cX9_setHeight 78 = .ok (.iaload, 1) := by decide +kernel
theorem dX9_setHeight_79 : decode cX9_setHeight 79 = .ok (.if_icmp .eq 26, 3) := by decide +kernel
theorem dX9_setHeight_82 : decode cX9_setHeight 82 = .ok (.aload_n 0, 1) := by decide +kernel
theorem dX9_setHeight_83 : decode cX9_setHeight 83 = .ok (.getfield 32, 3) := by decide +kernel
theorem dX9_setHeight_86 : decode cX9_setHeight 86 = .ok (.iload 4, 2) := by decide +kernel
theorem dX9_setHeight_88 : decode cX9_setHeight 88 = .ok (.iload 5, 2) := by decide +kernel
theorem dX9_setHeight_90 : decode cX9_setHeight 90 = .ok (.iastore, 1) := by decide +kernel
theorem dX9_setHeight_91 : decode cX9_setHeight 91 = .ok (.aload_n 0, 1) := by decide +kernel
theorem dX9_setHeight_92 : decode cX9_setHeight 92 = .ok (.getfield 35, 3) := by decide +kernel
theorem dX9_setHeight_95 : decode cX9_setHeight 95 = .ok (.iload 4, 2) := by decide +kernel
theorem dX9_setHeight_97 : decode cX9_setHeight 97 = .ok (.dup2, 1) := by decide +kernel
theorem dX9_setHeight_98 : decode cX9_setHeight 98 = .ok (.iaload, 1) := by decide +kernel
theorem dX9_setHeight_99 : decode cX9_setHeight 99 = .ok (.iconst 1, 1) := by decide +kernel
theorem dX9_setHeight_100 : decode cX9_setHeight 100 = .ok (.iadd, 1) := by decide +kernel
theorem dX9_setHeight_101 : decode cX9_setHeight 101 = .ok (.iastore, 1) := by decide +kernel
theorem dX9_setHeight_102 : decode cX9_setHeight 102 = .ok (.iinc 3 1, 3) := by decide +kernel
theorem dX9_setHeight_105 : decode cX9_setHeight 105 = .ok (.iinc 4 1, 3) := by decide +kernel
theorem dX9_setHeight_108 : decode cX9_setHeight 108 = .ok (.goto (-57), 3) := by decide +kernel
theorem dX9_setHeight_111 : decode cX9_setHeight 111 = .ok (.iload_n 3, 1) := by decide +kernel
theorem dX9_setHeight_112 : decode cX9_setHeight 112 = .ok (.ireturn, 1) := by decide +kernel
set_option maxRecDepth 20000 in
theorem ggX9_close_X9_isPlace : GoodIn wsX9_close wsX9_isPlace := goodIn_r _ [6, 7, 8, 5, 9] (by decide +kernel) (by decide +kernel)
set_option maxRecDepth 20000 in
theorem gX9_close_X9_isPlace : GoodIn wsX9_close (va_wsS RX9 111 yX9_isPlace wsX9_isPlace) := goodIn_app (goodIn_of _ (by decide +kernel)) ggX9_close_X9_isPlace
theorem dX9_close_0 : decode cX9_close 0 = .ok (.aload_n 0, 1) := by decide +kernel
theorem dX9_close_1 : decode cX9_close 1 = .ok (.iload_n 1, 1) := by decide +kernel
theorem dX9_close_2 : decode cX9_close 2 = .ok (.invokestatic 111, 3) := by decide +kernel
theorem dX9_close_5 : decode cX9_close 5 = .ok (.ifCond .eq 7, 3) := by decide +kernel
theorem dX9_close_8 : decode cX9_close 8 = .ok (.iconst 0, 1) := by decide +kernel
theorem dX9_close_9 : decode cX9_close 9 = .ok (.goto 4, 3) := by decide +kernel
theorem dX9_close_12 : decode cX9_close 12 = .ok (.iconst 1, 1) := by decide +kernel
theorem dX9_close_13 : decode cX9_close 13 = .ok (.putfield 81, 3) := by decide +kernel
theorem dX9_close_16 : decode cX9_close 16 = .ok (.aload_n 0, 1) := by decide +kernel
theorem dX9_close_17 : decode cX9_close 17 = .ok (.getfield 81, 3) := by decide +kernel
theorem dX9_close_20 : decode cX9_close 20 = .ok (.ifCond .le 5, 3) := by decide +kernel
theorem dX9_close_23 : decode cX9_close 23 = .ok (.iconst 0, 1) := by decide +kernel
theorem dX9_close_24 : decode cX9_close 24 = .ok (.ireturn, 1) := by decide +kernel
theorem dX9_close_25 : decode cX9_close 25 = .ok (.aload_n 0, 1) := by decide +kernel
theorem dX9_close_26 : decode cX9_close 26 = .ok (.getfield 13, 3) := by decide +kernel
theorem dX9_close_29 : decode cX9_close 29 = .ok (.iload_n 1, 1) := by decide +kernel
theorem dX9_close_30 : decode cX9_close 30 = .ok (.aload_n 0, 1) := by decide +kernel
theorem dX9_close_31 : decode cX9_close 31 = .ok (.getfield 13, 3) := by decide +kernel
theorem dX9_close_34 : decode cX9_close 34 = .ok (.iload_n 1, 1) := by decide +kernel
theorem dX9_close_35 : decode cX9_close 35 = .ok (.baload, 1) := by decide +kernel
theorem dX9_close_36 : decode cX9_close 36 = .ok (.ifCond .ne 7, 3) := by decide +kernel
theorem dX9_close_39 : decode cX9_close 39 = .ok (.iconst 1, 1) := by decide +kernel
theorem dX9_close_40 : decode cX9_close 40 = .ok (.goto 4, 3) := by decide +kernel
theorem dX9_close_43 : decode cX9_close 43 = .ok (.iconst 0, 1) := by decide +kernel
theorem dX9_close_44 : decode cX9_close 44 = .ok (.bastore, 1) := by decide +kernel
theorem dX9_close_45 : decode cX9_close 45 = .ok (.aload_n 0, 1) := by decide +kernel
theorem dX9_close_46 : decode cX9_close 46 = .ok (.getfield 13, 3) := by decide +kernel
theorem dX9_close_49 : decode cX9_close 49 = .ok (.iload_n 1, 1) := by decide +kernel
theorem dX9_close_50 : decode cX9_close 50 = .ok (.baload, 1) := by decide +kernel
theorem dX9_close_51 : decode cX9_close 51 = .ok (.ireturn, 1) := by decide +kernel
set_option maxRecDepth 20000 in
theorem ggX9_hint_X9_isPlace : GoodIn wsX9_hint wsX9_isPlace := goodIn_r _ [10, 11, 12, 9, 13] (by decide +kernel) (by decide +kernel)
set_option maxRecDepth 20000 in
theorem gX9_hint_X9_isPlace : GoodIn wsX9_hint (va_wsS RX9 111 yX9_isPlace wsX9_isPlace) := goodIn_app (goodIn_of _ (by decide +kernel)) ggX9_hint_X9_isPlace
set_option maxRecDepth 20000 in
theorem ggX9_hint_X9_in : GoodIn wsX9_hint wsX9_in := goodIn_r _ [13] (by decide +kernel) (by decide +kernel)
set_option maxRecDepth 20000 in
theorem gX9_hint_X9_in : GoodIn wsX9_hint (va_wsS RX9 84 yX9_in wsX9_in) := goodIn_app (goodIn_of _ (by decide +kernel)) ggX9_hint_X9_in
set_option maxRecDepth 20000 in
theorem ggX9_hint_X9_fitting : GoodIn wsX9_hint wsX9_fitting := goodIn_r _ [17, 18, 1, 19, 20, 21, 9, 22, 3, 4, 23, 5, 6, 24, 25, 26, 27, 28, 29, 30, 31, 32, 33, 34, 35, 36, 37, 38, 39, 40, 41, 42, 43, 44, 45, 46, 47, 48, 49, 50, 51, 52, 53, 54, 55, 56, 57, 58] (by decide +kernel) (by decide +kernel)
set_option maxRecDepth 20000 in
theorem gX9_hint_X9_fitting : GoodIn wsX9_hint (wsV RX9 108 RX9 yX9_fitting wsX9_fitting) := goodIn_app (goodIn_of _ (by decide +kernel)) ggX9_hint_X9_fitting
theorem dX9_hint_0 : decode cX9_hint 0 = .ok (.aload_n 0, 1) := by decide +kernel
theorem dX9_hint_1 : decode cX9_hint 1 = .ok (.iload_n 3, 1) := by decide +kernel
theorem dX9_hint_2 : decode cX9_hint 2 = .ok (.invokestatic 111, 3) := by decide +kernel
theorem dX9_hint_5 : decode cX9_hint 5 = .ok (.ifCond .ne 7, 3) := by decide +kernel
theorem dX9_hint_8 : decode cX9_hint 8 = .ok (.iconst 1, 1) := by decide +kernel
theorem dX9_hint_9 : decode cX9_hint 9 = .ok (.goto 41, 3) := by decide +kernel
theorem dX9_hint_12 : decode cX9_hint 12 = .ok (.iload_n 1, 1) := by decide +kernel
theorem dX9_hint_13 : decode cX9_hint 13 = .ok (.iconst 0, 1) := by decide +kernel
theorem dX9_hint_14 : decode cX9_hint 14 = .ok (.iconst 4, 1) := by decide +kernel
theorem dX9_hint_15 : decode cX9_hint 15 = .ok (.invokestatic 84, 3) := by decide +kernel
theorem dX9_hint_18 : decode cX9_hint 18 = .ok (.ifCond .eq 13, 3) := by decide +kernel
theorem dX9_hint_21 : decode cX9_hint 21 = .ok (.iload_n 2, 1) := by decide +kernel
theorem dX9_hint_22 : decode cX9_hint 22 = .ok (.iconst 0, 1) := by decide +kernel
theorem dX9_hint_23 : decode cX9_hint 23 = .ok (.bipush 14, 2) := by decide +kernel
theorem dX9_hint_25 : decode cX9_hint 25 = .ok (.invokestatic 84, 3) := by decide +kernel
theorem dX9_hint_28 : decode cX9_hint 28 = .ok (.ifCond .ne 7, 3) := by decide +kernel
theorem dX9_hint_31 : decode cX9_hint 31 = .ok (.iconst 2, 1) := by decide +kernel
theorem dX9_hint_32 : decode cX9_hint 32 = .ok (.goto 18, 3) := by decide +kernel
theorem dX9_hint_35 : decode cX9_hint 35 = .ok (.aload_n 0, 1) := by decide +kernel
theorem dX9_hint_36 : decode cX9_hint 36 = .ok (.getfield 29, 3) := by decide +kernel
theorem dX9_hint_39 : decode cX9_hint 39 = .ok (.iconst 0, 1) := by decide +kernel
theorem dX9_hint_40 : decode cX9_hint 40 = .ok (.iaload, 1) := by decide +kernel
theorem dX9_hint_41 : decode cX9_hint 41 = .ok (.iconst 5, 1) := by decide +kernel
theorem dX9_hint_42 : decode cX9_hint 42 = .ok (.if_icmp .ne 7, 3) := by decide +kernel
theorem dX9_hint_45 : decode cX9_hint 45 = .ok (.iconst 3, 1) := by decide +kernel
theorem dX9_hint_46 : decode cX9_hint 46 = .ok (.goto 4, 3) := by decide +kernel
theorem dX9_hint_49 : decode cX9_hint 49 = .ok (.iconst 0, 1) := by decide +kernel
theorem dX9_hint_50 : decode cX9_hint 50 = .ok (.putfield 81, 3) := by decide +kernel
theorem dX9_hint_53 : decode cX9_hint 53 = .ok (.aload_n 0, 1) := by decide +kernel
theorem dX9_hint_54 : decode cX9_hint 54 = .ok (.getfield 81, 3) := by decide +kernel
theorem dX9_hint_57 : decode cX9_hint 57 = .ok (.ifCond .le 5, 3) := by decide +kernel
theorem dX9_hint_60 : decode cX9_hint 60 = .ok (.iconst 0, 1) := by decide +kernel
theorem dX9_hint_61 : decode cX9_hint 61 = .ok (.ireturn, 1) := by decide +kernel
theorem dX9_hint_62 : decode cX9_hint 62 = .ok (.aload_n 0, 1) := by decide +kernel
theorem dX9_hint_63 : decode cX9_hint 63 = .ok (.getfield 17, 3) := by decide +kernel
theorem dX9_hint_66 : decode cX9_hint 66 = .ok (.aload_n 0, 1) := by decide +kernel
theorem dX9_hint_67 : decode cX9_hint 67 = .ok (.getfield 29, 3) := by decide +kernel
theorem dX9_hint_70 : decode cX9_hint 70 = .ok (.iconst 0, 1) := by decide +kernel
theorem dX9_hint_71 : decode cX9_hint 71 = .ok (.iaload, 1) := by decide +kernel
theorem dX9_hint_72 : decode cX9_hint 72 = .ok (.iload_n 1, 1) := by decide +kernel
theorem dX9_hint_73 : decode cX9_hint 73 = .ok (.iastore, 1) := by decide +kernel
theorem dX9_hint_74 : decode cX9_hint 74 = .ok (.aload_n 0, 1) := by decide +kernel
theorem dX9_hint_75 : decode cX9_hint 75 = .ok (.getfield 20, 3) := by decide +kernel
theorem dX9_hint_78 : decode cX9_hint 78 = .ok (.aload_n 0, 1) := by decide +kernel
theorem dX9_hint_79 : decode cX9_hint 79 = .ok (.getfield 29, 3) := by decide +kernel
theorem dX9_hint_82 : decode cX9_hint 82 = .ok (.iconst 0, 1) := by decide +kernel
theorem dX9_hint_83 : decode cX9_hint 83 = .ok (.iaload, 1) := by decide +kernel
theorem dX9_hint_84 : decode cX9_hint 84 = .ok (.iload_n 2, 1) := by decide +kernel
theorem dX9_hint_85 : decode cX9_hint 85 = .ok (.iastore, 1) := by decide +kernel
theorem dX9_hint_86 : decode cX9_hint 86 = .ok (.aload_n 0, 1) := by decide +kernel
theorem dX9_hint_87 : decode cX9_hint 87 = .ok (.getfield 23, 3) := by decide +kernel
theorem dX9_hint_90 : decode cX9_hint 90 = .ok (.aload_n 0, 1) := by decide +kernel
theorem dX9_hint_91 : decode cX9_hint 91 = .ok (.getfield 29, 3) := by decide +kernel
theorem dX9_hint_94 : decode cX9_hint 94 = .ok (.iconst 0, 1) := by decide +kernel
theorem dX9_hint_95 : decode cX9_hint 95 = .ok (.iaload, 1) := by decide +kernel
theorem dX9_hint_96 : decode cX9_hint 96 = .ok (.iload_n 3, 1) := by decide +kernel
theorem dX9_hint_97 : decode cX9_hint 97 = .ok (.iastore, 1) := by decide +kernel
theorem dX9_hint_98 : decode cX9_hint 98 = .ok (.aload_n 0, 1) := by decide +kernel
theorem dX9_hint_99 : decode cX9_hint 99 = .ok (.getfield 26, 3) := by decide +kernel
theorem dX9_hint_102 : decode cX9_hint 102 = .ok (.aload_n 0, 1) := by decide +kernel
theorem dX9_hint_103 : decode cX9_hint 103 = .ok (.getfield 29, 3) := by decide +kernel
theorem dX9_hint_106 : decode cX9_hint 106 = .ok (.iconst 0, 1) := by decide +kernel
theorem dX9_hint_107 : decode cX9_hint 107 = .ok (.iaload, 1) := by decide +kernel
theorem dX9_hint_108 : decode cX9_hint 108 = .ok (.iload 4, 2) := by decide +kernel
theorem dX9_hint_110 : decode cX9_hint 110 = .ok (.bastore, 1) := by decide +kernel
theorem dX9_hint_111 : decode cX9_hint 111 = .ok (.aload_n 0, 1) := by decide +kernel
theorem dX9_hint_112 : decode cX9_hint 112 = .ok (.getfield 29, 3) := by decide +kernel
theorem dX9_hint_115 : decode cX9_hint 115 = .ok (.iconst 0, 1) := by decide +kernel
theorem dX9_hint_116 : decode cX9_hint 116 = .ok (.dup2, 1) := by decide +kernel
theorem dX9_hint_117 : decode cX9_hint 117 = .ok (.iaload, 1) := by decide +kernel
theorem dX9_hint_118 : decode cX9_hint 118 = .ok (.iconst 1, 1) := by decide +kernel
theorem dX9_hint_119 : decode cX9_hint 119 = .ok (.iadd, 1) := by decide +kernel
theorem dX9_hint_120 : decode cX9_hint 120 = .ok (.iastore, 1) := by decide +kernel
theorem dX9_hint_121 : decode cX9_hint 121 = .ok (.aload_n 0, 1) := by decide +kernel
theorem dX9_hint_122 : decode cX9_hint 122 = .ok (.iconst 0, 1) := by decide +kernel
theorem dX9_hint_123 : decode cX9_hint 123 = .ok (.iconst (-1), 1) := by decide +kernel
theorem dX9_hint_124 : decode cX9_hint 124 = .ok (.invokevirtual 108, 3) := by decide +kernel
theorem dX9_hint_127 : decode cX9_hint 127 = .ok (.ireturn, 1) := by decide +kernel
theorem dX9_clearDraft_0 : decode cX9_clearDraft 0 = .ok (.aload_n 0, 1) := by decide +kernel
theorem dX9_clearDraft_1 : decode cX9_clearDraft 1 = .ok (.iconst 0, 1) := by decide +kernel
theorem dX9_clearDraft_2 : decode cX9_clearDraft 2 = .ok (.putfield 81, 3) := by decide +kernel
theorem dX9_clearDraft_5 : decode cX9_clearDraft 5 = .ok (.aload_n 0, 1) := by decide +kernel
theorem dX9_clearDraft_6 : decode cX9_clearDraft 6 = .ok (.getfield 29, 3) := by decide +kernel
theorem dX9_clearDraft_9 : decode cX9_clearDraft 9 = .ok (.iconst 0, 1) := by decide +kernel
theorem dX9_clearDraft_10 : decode cX9_clearDraft 10 = .ok (.iaload, 1) := by decide +kernel
theorem dX9_clearDraft_11 : decode cX9_clearDraft 11 = .ok (.istore_n 1, 1) := by decide +kernel
theorem dX9_clearDraft_12 : decode cX9_clearDraft 12 = .ok (.aload_n 0, 1) := by decide +kernel
theorem dX9_clearDraft_13 : decode cX9_clearDraft 13 = .ok (.getfield 29, 3) := by decide +kernel
theorem dX9_clearDraft_16 : decode cX9_clearDraft 16 = .ok (.iconst 0, 1) := by decide +kernel
theorem dX9_clearDraft_17 : decode cX9_clearDraft 17 = .ok (.iconst 0, 1) := by decide +kernel
theorem dX9_clearDraft_18 : decode cX9_clearDraft 18 = .ok (.iastore, 1) := by decide +kernel
theorem dX9_clearDraft_19 : decode cX9_clearDraft 19 = .ok (.iload_n 1, 1) := by decide +kernel
theorem dX9_clearDraft_20 : decode cX9_clearDraft 20 = .ok (.ireturn, 1) := by decide +kernel
set_option maxRecDepth 20000 in
theorem ggX9_stage_X9_fixed : GoodIn wsX9_stage wsX9_fixed := goodIn_r _ [15, 16, 17, 18, 19, 14, 20, 3, 21, 22, 23, 24, 5, 6, 25, 7, 8, 26, 27, 28, 29, 30, 31, 32, 33, 34, 35, 36, 37, 38, 39, 40, 41, 42, 43, 44, 45, 46, 47, 48, 49, 50, 51, 52, 53, 54, 55, 56, 57, 58, 59, 60] (by decide +kernel) (by decide +kernel)
set_option maxRecDepth 20000 in
theorem gX9_stage_X9_fixed : GoodIn wsX9_stage (wsV RX9 115 RX9 yX9_fixed wsX9_fixed) := goodIn_app (goodIn_of _ (by decide +kernel)) ggX9_stage_X9_fixed
set_option maxRecDepth 20000 in
theorem ggX9_stage_X9_fitting : GoodIn wsX9_stage wsX9_fitting := goodIn_r _ [20, 16, 3, 21, 22, 23, 14, 24, 5, 6, 25, 7, 8, 26, 27, 28, 29, 30, 31, 32, 33, 34, 35, 36, 37, 38, 39, 40, 41, 42, 43, 44, 45, 46, 47, 48, 49, 50, 51, 52, 53, 54, 55, 56, 57, 58, 59, 60] (by decide +kernel) (by decide +kernel)
set_option maxRecDepth 20000 in
theorem gX9_stage_X9_fitting : GoodIn wsX9_stage (wsV RX9 108 RX9 yX9_fitting wsX9_fitting) := goodIn_app (goodIn_of _ (by decide +kernel)) ggX9_stage_X9_fitting
theorem dX9_stage_0 : decode cX9_stage 0 = .ok (.aload_n 0, 1) := by decide +kernel
theorem dX9_stage_1 : decode cX9_stage 1 = .ok (.iconst 0, 1) := by decide +kernel
theorem dX9_stage_2 : decode cX9_stage 2 = .ok (.invokevirtual 115, 3) := by decide +kernel
theorem dX9_stage_5 : decode cX9_stage 5 = .ok (.iconst (-1), 1) := by decide +kernel
theorem dX9_stage_6 : decode cX9_stage 6 = .ok (.if_icmp .eq 25, 3) := by decide +kernel
theorem dX9_stage_9 : decode cX9_stage 9 = .ok (.aload_n 0, 1) := by decide +kernel
theorem dX9_stage_10 : decode cX9_stage 10 = .ok (.getfield 41, 3) := by decide +kernel
theorem dX9_stage_13 : decode cX9_stage 13 = .ok (.iconst 0, 1) := by decide +kernel
theorem dX9_stage_14 : decode cX9_stage 14 = .ok (.iaload, 1) := by decide +kernel
theorem dX9_stage_15 : decode cX9_stage 15 = .ok (.ifCond .le 16, 3) := by decide +kernel
theorem dX9_stage_18 : decode cX9_stage 18 = .ok (.aload_n 0, 1) := by decide +kernel
theorem dX9_stage_19 : decode cX9_stage 19 = .ok (.getfield 88, 3) := by decide +kernel
theorem dX9_stage_22 : decode cX9_stage 22 = .ok (.bipush 6, 2) := by decide +kernel
theorem dX9_stage_24 : decode cX9_stage 24 = .ok (.if_icmp .ge 7, 3) := by decide +kernel
theorem dX9_stage_27 : decode cX9_stage 27 = .ok (.iconst 1, 1) := by decide +kernel
theorem dX9_stage_28 : decode cX9_stage 28 = .ok (.goto 4, 3) := by decide +kernel
theorem dX9_stage_31 : decode cX9_stage 31 = .ok (.iconst 0, 1) := by decide +kernel
theorem dX9_stage_32 : decode cX9_stage 32 = .ok (.istore_n 1, 1) := by decide +kernel
theorem dX9_stage_33 : decode cX9_stage 33 = .ok (.iconst 0, 1) := by decide +kernel
theorem dX9_stage_34 : decode cX9_stage 34 = .ok (.istore_n 2, 1) := by decide +kernel
theorem dX9_stage_35 : decode cX9_stage 35 = .ok (.iload_n 2, 1) := by decide +kernel
theorem dX9_stage_36 : decode cX9_stage 36 = .ok (.aload_n 0, 1) := by decide +kernel
theorem dX9_stage_37 : decode cX9_stage 37 = .ok (.getfield 29, 3) := by decide +kernel
theorem dX9_stage_40 : decode cX9_stage 40 = .ok (.iconst 0, 1) := by decide +kernel
theorem dX9_stage_41 : decode cX9_stage 41 = .ok (.iaload, 1) := by decide +kernel
theorem dX9_stage_42 : decode cX9_stage 42 = .ok (.if_icmp .ge 29, 3) := by decide +kernel
theorem dX9_stage_45 : decode cX9_stage 45 = .ok (.iload_n 1, 1) := by decide +kernel
theorem dX9_stage_46 : decode cX9_stage 46 = .ok (.ifCond .eq 17, 3) := by decide +kernel
theorem dX9_stage_49 : decode cX9_stage 49 = .ok (.aload_n 0, 1) := by decide +kernel
theorem dX9_stage_50 : decode cX9_stage 50 = .ok (.iconst 0, 1) := by decide +kernel
theorem dX9_stage_51 : decode cX9_stage 51 = .ok (.iload_n 2, 1) := by decide +kernel
theorem dX9_stage_52 : decode cX9_stage 52 = .ok (.invokevirtual 108, 3) := by decide +kernel
theorem dX9_stage_55 : decode cX9_stage 55 = .ok (.iconst 1, 1) := by decide +kernel
theorem dX9_stage_56 : decode cX9_stage 56 = .ok (.if_icmp .eq 7, 3) := by decide +kernel
theorem dX9_stage_59 : decode cX9_stage 59 = .ok (.iconst 1, 1) := by decide +kernel
theorem dX9_stage_60 : decode cX9_stage 60 = .ok (.goto 4, 3) := by decide +kernel
theorem dX9_stage_63 : decode cX9_stage 63 = .ok (.iconst 0, 1) := by decide +kernel
theorem dX9_stage_64 : decode cX9_stage 64 = .ok (.istore_n 1, 1) := by decide +kernel
theorem dX9_stage_65 : decode cX9_stage 65 = .ok (.iinc 2 1, 3) := by decide +kernel
theorem dX9_stage_68 : decode cX9_stage 68 = .ok (.goto (-33), 3) := by decide +kernel
theorem dX9_stage_71 : decode cX9_stage 71 = .ok (.aload_n 0, 1) := by decide +kernel
theorem dX9_stage_72 : decode cX9_stage 72 = .ok (.iload_n 1, 1) := by decide +kernel
theorem dX9_stage_73 : decode cX9_stage 73 = .ok (.ifCond .eq 7, 3) := by decide +kernel
theorem dX9_stage_76 : decode cX9_stage 76 = .ok (.iconst 0, 1) := by decide +kernel
theorem dX9_stage_77 : decode cX9_stage 77 = .ok (.goto 4, 3) := by decide +kernel
theorem dX9_stage_80 : decode cX9_stage 80 = .ok (.iconst 1, 1) := by decide +kernel
theorem dX9_stage_81 : decode cX9_stage 81 = .ok (.putfield 81, 3) := by decide +kernel
theorem dX9_stage_84 : decode cX9_stage 84 = .ok (.aload_n 0, 1) := by decide +kernel
theorem dX9_stage_85 : decode cX9_stage 85 = .ok (.getfield 81, 3) := by decide +kernel
theorem dX9_stage_88 : decode cX9_stage 88 = .ok (.ifCond .le 5, 3) := by decide +kernel
theorem dX9_stage_91 : decode cX9_stage 91 = .ok (.iconst 0, 1) := by decide +kernel
theorem dX9_stage_92 : decode cX9_stage 92 = .ok (.ireturn, 1) := by decide +kernel
theorem dX9_stage_93 : decode cX9_stage 93 = .ok (.aload_n 0, 1) := by decide +kernel
theorem dX9_stage_94 : decode cX9_stage 94 = .ok (.getfield 88, 3) := by decide +kernel
theorem dX9_stage_97 : decode cX9_stage 97 = .ok (.iconst 1, 1) := by decide +kernel
theorem dX9_stage_98 : decode cX9_stage 98 = .ok (.iadd, 1) := by decide +kernel
theorem dX9_stage_99 : decode cX9_stage 99 = .ok (.istore_n 2, 1) := by decide +kernel
theorem dX9_stage_100 : decode cX9_stage 100 = .ok (.aload_n 0, 1) := by decide +kernel
theorem dX9_stage_101 : decode cX9_stage 101 = .ok (.getfield 29, 3) := by decide +kernel
theorem dX9_stage_104 : decode cX9_stage 104 = .ok (.iload_n 2, 1) := by decide +kernel
theorem dX9_stage_105 : decode cX9_stage 105 = .ok (.aload_n 0, 1) := by decide +kernel
theorem dX9_stage_106 : decode cX9_stage 106 = .ok (.getfield 29, 3) := by decide +kernel
theorem dX9_stage_109 : decode cX9_stage 109 = .ok (.iconst 0, 1) := by decide +kernel
theorem dX9_stage_110 : decode cX9_stage 110 = .ok (.iaload, 1) := by decide +kernel
theorem dX9_stage_111 : decode cX9_stage 111 = .ok (.iastore, 1) := by decide +kernel
theorem dX9_stage_112 : decode cX9_stage 112 = .ok (.aload_n 0, 1) := by decide +kernel
theorem dX9_stage_113 : decode cX9_stage 113 = .ok (.getfield 41, 3) := by decide +kernel
theorem dX9_stage_116 : decode cX9_stage 116 = .ok (.iload_n 2, 1) := by decide +kernel
theorem dX9_stage_117 : decode cX9_stage 117 = .ok (.aload_n 0, 1) := by decide +kernel
theorem dX9_stage_118 : decode cX9_stage 118 = .ok (.getfield 41, 3) := by decide +kernel
theorem dX9_stage_121 : decode cX9_stage 121 = .ok (.iconst 0, 1) := by decide +kernel
theorem dX9_stage_122 : decode cX9_stage 122 = .ok (.iaload, 1) := by decide +kernel
theorem dX9_stage_123 : decode cX9_stage 123 = .ok (.iastore, 1) := by decide +kernel
theorem dX9_stage_124 : decode cX9_stage 124 = .ok (.iconst 0, 1) := by decide +kernel
theorem dX9_stage_125 : decode cX9_stage 125 = .ok (.istore_n 3, 1) := by decide +kernel
theorem dX9_stage_126 : decode cX9_stage 126 = .ok (.iload_n 3, 1) := by decide +kernel
theorem dX9_stage_127 : decode cX9_stage 127 = .ok (.iconst 5, 1) := by decide +kernel
theorem dX9_stage_128 : decode cX9_stage 128 = .ok (.if_icmp .ge 89, 3) := by decide +kernel
theorem dX9_stage_131 : decode cX9_stage 131 = .ok (.aload_n 0, 1) := by decide +kernel
theorem dX9_stage_132 : decode cX9_stage 132 = .ok (.getfield 17, 3) := by decide +kernel
theorem dX9_stage_135 : decode cX9_stage 135 = .ok (.iconst 5, 1) := by decide +kernel
theorem dX9_stage_136 : decode cX9_stage 136 = .ok (.iload_n 2, 1) := by decide +kernel
theorem dX9_stage_137 : decode cX9_stage 137 = .ok (.imul, 1) := by decide +kernel
theorem dX9_stage_138 : decode cX9_stage 138 = .ok (.iload_n 3, 1) := by decide +kernel
theorem dX9_stage_139 : decode cX9_stage 139 = .ok (.iadd, 1) := by decide +kernel
theorem dX9_stage_140 : decode cX9_stage 140 = .ok (.aload_n 0, 1) := by decide +kernel
theorem dX9_stage_141 : decode cX9_stage 141 = .ok (.getfield 17, 3) := by decide +kernel
theorem dX9_stage_144 : decode cX9_stage 144 = .ok (.iload_n 3, 1) := by decide +kernel
theorem dX9_stage_145 : decode cX9_stage 145 = .ok (.iaload, 1) := by decide +kernel
theorem dX9_stage_146 : decode cX9_stage 146 = .ok (.iastore, 1) := by decide +kernel
theorem dX9_stage_147 : decode cX9_stage 147 = .ok (.aload_n 0, 1) := by decide +kernel
theorem dX9_stage_148 : decode cX9_stage 148 = .ok (.getfield 20, 3) := by decide +kernel
theorem dX9_stage_151 : decode cX9_stage 151 = .ok (.iconst 5, 1) := by decide +kernel
theorem dX9_stage_152 : decode cX9_stage 152 = .ok (.iload_n 2, 1) := by decide +kernel
theorem dX9_stage_153 : decode cX9_stage 153 = .ok (.imul, 1) := by decide +kernel
theorem dX9_stage_154 : decode cX9_stage 154 = .ok (.iload_n 3, 1) := by decide +kernel
theorem dX9_stage_155 : decode cX9_stage 155 = .ok (.iadd, 1) := by decide +kernel
theorem dX9_stage_156 : decode cX9_stage 156 = .ok (.aload_n 0, 1) := by decide +kernel
theorem dX9_stage_157 : decode cX9_stage 157 = .ok (.getfield 20, 3) := by decide +kernel
theorem dX9_stage_160 : decode cX9_stage 160 = .ok (.iload_n 3, 1) := by decide +kernel
theorem dX9_stage_161 : decode cX9_stage 161 = .ok (.iaload, 1) := by decide +kernel
theorem dX9_stage_162 : decode cX9_stage 162 = .ok (.iastore, 1) := by decide +kernel
theorem dX9_stage_163 : decode cX9_stage 163 = .ok (.aload_n 0, 1) := by decide +kernel
theorem dX9_stage_164 : decode cX9_stage 164 = .ok (.getfield 23, 3) := by decide +kernel
theorem dX9_stage_167 : decode cX9_stage 167 = .ok (.iconst 5, 1) := by decide +kernel
theorem dX9_stage_168 : decode cX9_stage 168 = .ok (.iload_n 2, 1) := by decide +kernel
theorem dX9_stage_169 : decode cX9_stage 169 = .ok (.imul, 1) := by decide +kernel
theorem dX9_stage_170 : decode cX9_stage 170 = .ok (.iload_n 3, 1) := by decide +kernel
theorem dX9_stage_171 : decode cX9_stage 171 = .ok (.iadd, 1) := by decide +kernel
theorem dX9_stage_172 : decode cX9_stage 172 = .ok (.aload_n 0, 1) := by decide +kernel
theorem dX9_stage_173 : decode cX9_stage 173 = .ok (.getfield 23, 3) := by decide +kernel
theorem dX9_stage_176 : decode cX9_stage 176 = .ok (.iload_n 3, 1) := by decide +kernel
theorem dX9_stage_177 : decode cX9_stage 177 = .ok (.iaload, 1) := by decide +kernel
theorem dX9_stage_178 : decode cX9_stage 178 = .ok (.iastore, 1) := by decide +kernel
theorem dX9_stage_179 : decode cX9_stage 179 = .ok (.aload_n 0, 1) := by decide +kernel
theorem dX9_stage_180 : decode cX9_stage 180 = .ok (.getfield 26, 3) := by decide +kernel
theorem dX9_stage_183 : decode cX9_stage 183 = .ok (.iconst 5, 1) := by decide +kernel
theorem dX9_stage_184 : decode cX9_stage 184 = .ok (.iload_n 2, 1) := by decide +kernel
theorem dX9_stage_185 : decode cX9_stage 185 = .ok (.imul, 1) := by decide +kernel
theorem dX9_stage_186 : decode cX9_stage 186 = .ok (.iload_n 3, 1) := by decide +kernel
theorem dX9_stage_187 : decode cX9_stage 187 = .ok (.iadd, 1) := by decide +kernel
theorem dX9_stage_188 : decode cX9_stage 188 = .ok (.aload_n 0, 1) := by decide +kernel
theorem dX9_stage_189 : decode cX9_stage 189 = .ok (.getfield 26, 3) := by decide +kernel
theorem dX9_stage_192 : decode cX9_stage 192 = .ok (.iload_n 3, 1) := by decide +kernel
theorem dX9_stage_193 : decode cX9_stage 193 = .ok (.baload, 1) := by decide +kernel
theorem dX9_stage_194 : decode cX9_stage 194 = .ok (.bastore, 1) := by decide +kernel
theorem dX9_stage_195 : decode cX9_stage 195 = .ok (.aload_n 0, 1) := by decide +kernel
theorem dX9_stage_196 : decode cX9_stage 196 = .ok (.getfield 38, 3) := by decide +kernel
theorem dX9_stage_199 : decode cX9_stage 199 = .ok (.iconst 5, 1) := by decide +kernel
theorem dX9_stage_200 : decode cX9_stage 200 = .ok (.iload_n 2, 1) := by decide +kernel
theorem dX9_stage_201 : decode cX9_stage 201 = .ok (.imul, 1) := by decide +kernel
theorem dX9_stage_202 : decode cX9_stage 202 = .ok (.iload_n 3, 1) := by decide +kernel
theorem dX9_stage_203 : decode cX9_stage 203 = .ok (.iadd, 1) := by decide +kernel
theorem dX9_stage_204 : decode cX9_stage 204 = .ok (.aload_n 0, 1) := by decide +kernel
theorem dX9_stage_205 : decode cX9_stage 205 = .ok (.getfield 38, 3) := by decide +kernel
theorem dX9_stage_208 : decode cX9_stage 208 = .ok (.iload_n 3, 1) := by decide +kernel
theorem dX9_stage_209 : decode cX9_stage 209 = .ok (.iaload, 1) := by decide +kernel
theorem dX9_stage_210 : decode cX9_stage 210 = .ok (.iastore, 1) := by decide +kernel
theorem dX9_stage_211 : decode cX9_stage 211 = .ok (.iinc 3 1, 3) := by decide +kernel
theorem dX9_stage_214 : decode cX9_stage 214 = .ok (.goto (-88), 3) := by decide +kernel
theorem dX9_stage_217 : decode cX9_stage 217 = .ok (.aload_n 0, 1) := by decide +kernel
theorem dX9_stage_218 : decode cX9_stage 218 = .ok (.getfield 32, 3) := by decide +kernel
theorem dX9_stage_221 : decode cX9_stage 221 = .ok (.aload_n 0, 1) := by decide +kernel
theorem dX9_stage_222 : decode cX9_stage 222 = .ok (.getfield 88, 3) := by decide +kernel
theorem dX9_stage_225 : decode cX9_stage 225 = .ok (.aload_n 0, 1) := by decide +kernel
theorem dX9_stage_226 : decode cX9_stage 226 = .ok (.iload_n 2, 1) := by decide +kernel
theorem dX9_stage_227 : decode cX9_stage 227 = .ok (.invokevirtual 115, 3) := by decide +kernel
theorem dX9_stage_230 : decode cX9_stage 230 = .ok (.iastore, 1) := by decide +kernel
theorem dX9_stage_231 : decode cX9_stage 231 = .ok (.aload_n 0, 1) := by decide +kernel
theorem dX9_stage_232 : decode cX9_stage 232 = .ok (.dup, 1) := by decide +kernel
theorem dX9_stage_233 : decode cX9_stage 233 = .ok (.getfield 88, 3) := by decide +kernel
theorem dX9_stage_236 : decode cX9_stage 236 = .ok (.iconst 1, 1) := by decide +kernel
theorem dX9_stage_237 : decode cX9_stage 237 = .ok (.iadd, 1) := by decide +kernel
theorem dX9_stage_238 : decode cX9_stage 238 = .ok (.putfield 88, 3) := by decide +kernel
theorem dX9_stage_241 : decode cX9_stage 241 = .ok (.aload_n 0, 1) := by decide +kernel
theorem dX9_stage_242 : decode cX9_stage 242 = .ok (.getfield 29, 3) := by decide +kernel
theorem dX9_stage_245 : decode cX9_stage 245 = .ok (.iconst 0, 1) := by decide +kernel
theorem dX9_stage_246 : decode cX9_stage 246 = .ok (.iconst 0, 1) := by decide +kernel
theorem dX9_stage_247 : decode cX9_stage 247 = .ok (.iastore, 1) := by decide +kernel
theorem dX9_stage_248 : decode cX9_stage 248 = .ok (.aload_n 0, 1) := by decide +kernel
theorem dX9_stage_249 : decode cX9_stage 249 = .ok (.getfield 88, 3) := by decide +kernel
theorem dX9_stage_252 : decode cX9_stage 252 = .ok (.iconst 1, 1) := by decide +kernel
theorem dX9_stage_253 : decode cX9_stage 253 = .ok (.isub, 1) := by decide +kernel
theorem dX9_stage_254 : decode cX9_stage 254 = .ok (.ireturn, 1) := by decide +kernel
set_option maxRecDepth 20000 in
theorem ggX9_fits_X9_isStage : GoodIn wsX9_fits wsX9_isStage := goodIn_r _ [6, 7, 8, 9, 5, 10, 32, 33, 34, 35, 36, 37, 38, 39, 40, 41, 42, 43, 44, 45, 46, 47, 48, 49, 50, 51, 52, 53, 54, 55, 56, 57, 58, 59, 60] (by decide +kernel) (by decide +kernel)
set_option maxRecDepth 20000 in
theorem gX9_fits_X9_isStage : GoodIn wsX9_fits (wsV RX9 119 RX9 yX9_isStage wsX9_isStage) := goodIn_app (goodIn_of _ (by decide +kernel)) ggX9_fits_X9_isStage
set_option maxRecDepth 20000 in
theorem ggX9_fits_X9_fitting : GoodIn wsX9_fits wsX9_fitting := goodIn_r _ [14, 15, 16, 17, 18, 19, 5, 20, 21, 22, 23, 24, 25, 26, 27, 28, 29, 30, 31, 32, 33, 34, 35, 36, 37, 38, 39, 40, 41, 42, 43, 44, 45, 46, 47, 48, 49, 50, 51, 52, 53, 54, 55, 56, 57, 58, 59, 60] (by decide +kernel) (by decide +kernel)
set_option maxRecDepth 20000 in
theorem gX9_fits_X9_fitting : GoodIn wsX9_fits (wsV RX9 108 RX9 yX9_fitting wsX9_fitting) := goodIn_app (goodIn_of _ (by decide +kernel)) ggX9_fits_X9_fitting
theorem dX9_fits_0 : decode cX9_fits 0 = .ok (.aload_n 0, 1) := by decide +kernel
theorem dX9_fits_1 : decode cX9_fits 1 = .ok (.aload_n 0, 1) := by decide +kernel
theorem dX9_fits_2 : decode cX9_fits 2 = .ok (.iload_n 1, 1) := by decide +kernel
theorem dX9_fits_3 : decode cX9_fits 3 = .ok (.invokevirtual 119, 3) := by decide +kernel
theorem dX9_fits_6 : decode cX9_fits 6 = .ok (.ifCond .eq 7, 3) := by decide +kernel
theorem dX9_fits_9 : decode cX9_fits 9 = .ok (.iconst 0, 1) := by decide +kernel
theorem dX9_fits_10 : decode cX9_fits 10 = .ok (.goto 4, 3) := by decide +kernel
theorem dX9_fits_13 : decode cX9_fits 13 = .ok (.iconst 1, 1) := by decide +kernel
theorem dX9_fits_14 : decode cX9_fits 14 = .ok (.putfield 81, 3) := by decide +kernel
theorem dX9_fits_17 : decode cX9_fits 17 = .ok (.aload_n 0, 1) := by decide +kernel
theorem dX9_fits_18 : decode cX9_fits 18 = .ok (.getfield 81, 3) := by decide +kernel
theorem dX9_fits_21 : decode cX9_fits 21 = .ok (.ifCond .ne 14, 3) := by decide +kernel
theorem dX9_fits_24 : decode cX9_fits 24 = .ok (.aload_n 0, 1) := by decide +kernel
theorem dX9_fits_25 : decode cX9_fits 25 = .ok (.iload_n 1, 1) := by decide +kernel
theorem dX9_fits_26 : decode cX9_fits 26 = .ok (.iconst 1, 1) := by decide +kernel
theorem dX9_fits_27 : decode cX9_fits 27 = .ok (.iadd, 1) := by decide +kernel
theorem dX9_fits_28 : decode cX9_fits 28 = .ok (.iconst (-1), 1) := by decide +kernel
theorem dX9_fits_29 : decode cX9_fits 29 = .ok (.invokevirtual 108, 3) := by decide +kernel
theorem dX9_fits_32 : decode cX9_fits 32 = .ok (.goto 4, 3) := by decide +kernel
theorem dX9_fits_35 : decode cX9_fits 35 = .ok (.iconst 0, 1) := by decide +kernel
theorem dX9_fits_36 : decode cX9_fits 36 = .ok (.ireturn, 1) := by decide +kernel
set_option maxRecDepth 20000 in
theorem ggX9_placeOf_X9_isStage : GoodIn wsX9_placeOf wsX9_isStage := goodIn_r _ [7, 8, 9, 10, 6, 11, 12, 13, 14, 15, 16, 17, 18, 19, 20, 21, 22, 23, 24, 25, 26, 27, 28, 29, 30, 31, 32, 33, 34, 35, 36, 37, 38, 39, 40] (by decide +kernel) (by decide +kernel)
set_option maxRecDepth 20000 in
theorem gX9_placeOf_X9_isStage : GoodIn wsX9_placeOf (wsV RX9 119 RX9 yX9_isStage wsX9_isStage) := goodIn_app (goodIn_of _ (by decide +kernel)) ggX9_placeOf_X9_isStage
theorem dX9_placeOf_0 : decode cX9_placeOf 0 = .ok (.aload_n 0, 1) := by decide +kernel
theorem dX9_placeOf_1 : decode cX9_placeOf 1 = .ok (.aload_n 0, 1) := by decide +kernel
theorem dX9_placeOf_2 : decode cX9_placeOf 2 = .ok (.iload_n 1, 1) := by decide +kernel
theorem dX9_placeOf_3 : decode cX9_placeOf 3 = .ok (.invokevirtual 119, 3) := by decide +kernel
theorem dX9_placeOf_6 : decode cX9_placeOf 6 = .ok (.ifCond .eq 7, 3) := by decide +kernel
theorem dX9_placeOf_9 : decode cX9_placeOf 9 = .ok (.iconst 0, 1) := by decide +kernel
theorem dX9_placeOf_10 : decode cX9_placeOf 10 = .ok (.goto 4, 3) := by decide +kernel
theorem dX9_placeOf_13 : decode cX9_placeOf 13 = .ok (.iconst 1, 1) := by decide +kernel
theorem dX9_placeOf_14 : decode cX9_placeOf 14 = .ok (.putfield 81, 3) := by decide +kernel
theorem dX9_placeOf_17 : decode cX9_placeOf 17 = .ok (.aload_n 0, 1) := by decide +kernel
theorem dX9_placeOf_18 : decode cX9_placeOf 18 = .ok (.getfield 81, 3) := by decide +kernel
theorem dX9_placeOf_21 : decode cX9_placeOf 21 = .ok (.ifCond .ne 12, 3) := by decide +kernel
theorem dX9_placeOf_24 : decode cX9_placeOf 24 = .ok (.aload_n 0, 1) := by decide +kernel
theorem dX9_placeOf_25 : decode cX9_placeOf 25 = .ok (.getfield 32, 3) := by decide +kernel
theorem dX9_placeOf_28 : decode cX9_placeOf 28 = .ok (.iload_n 1, 1) := by decide +kernel
theorem dX9_placeOf_29 : decode cX9_placeOf 29 = .ok (.iaload, 1) := by decide +kernel
theorem dX9_placeOf_30 : decode cX9_placeOf 30 = .ok (.goto 4, 3) := by decide +kernel
theorem dX9_placeOf_33 : decode cX9_placeOf 33 = .ok (.iconst 0, 1) := by decide +kernel
theorem dX9_placeOf_34 : decode cX9_placeOf 34 = .ok (.ireturn, 1) := by decide +kernel
set_option maxRecDepth 20000 in
theorem ggX9_placeByAll_X9_isStage : GoodIn wsX9_placeByAll wsX9_isStage := goodIn_r _ [6, 7, 8, 9, 5, 10, 36, 37, 38, 39, 40, 41, 42, 43, 44, 45, 46, 47, 48, 49, 50, 51, 52, 53, 54, 55, 56, 57, 58, 59, 60, 61, 62, 63, 64] (by decide +kernel) (by decide +kernel)
set_option maxRecDepth 20000 in
theorem gX9_placeByAll_X9_isStage : GoodIn wsX9_placeByAll (wsV RX9 119 RX9 yX9_isStage wsX9_isStage) := goodIn_app (goodIn_of _ (by decide +kernel)) ggX9_placeByAll_X9_isStage
set_option maxRecDepth 20000 in
theorem ggX9_placeByAll_X9_fixed : GoodIn wsX9_placeByAll wsX9_fixed := goodIn_r _ [14, 15, 16, 17, 18, 5, 19, 20, 21, 22, 23, 24, 25, 26, 27, 28, 29, 30, 31, 32, 33, 34, 35, 36, 37, 38, 39, 40, 41, 42, 43, 44, 45, 46, 47, 48, 49, 50, 51, 52, 53, 54, 55, 56, 57, 58, 59, 60, 61, 62, 63, 64] (by decide +kernel) (by decide +kernel)
set_option maxRecDepth 20000 in
theorem gX9_placeByAll_X9_fixed : GoodIn wsX9_placeByAll (wsV RX9 115 RX9 yX9_fixed wsX9_fixed) := goodIn_app (goodIn_of _ (by decide +kernel)) ggX9_placeByAll_X9_fixed
theorem dX9_placeByAll_0 : decode cX9_placeByAll 0 = .ok (.aload_n 0, 1) := by decide +kernel
theorem dX9_placeByAll_1 : decode cX9_placeByAll 1 = .ok (.aload_n 0, 1) := by decide +kernel
theorem dX9_placeByAll_2 : decode cX9_placeByAll 2 = .ok (.iload_n 1, 1) := by decide +kernel
theorem dX9_placeByAll_3 : decode cX9_placeByAll 3 = .ok (.invokevirtual 119, 3) := by decide +kernel
theorem dX9_placeByAll_6 : decode cX9_placeByAll 6 = .ok (.ifCond .eq 7, 3) := by decide +kernel
theorem dX9_placeByAll_9 : decode cX9_placeByAll 9 = .ok (.iconst 0, 1) := by decide +kernel
theorem dX9_placeByAll_10 : decode cX9_placeByAll 10 = .ok (.goto 4, 3) := by decide +kernel
theorem dX9_placeByAll_13 : decode cX9_placeByAll 13 = .ok (.iconst 1, 1) := by decide +kernel
theorem dX9_placeByAll_14 : decode cX9_placeByAll 14 = .ok (.putfield 81, 3) := by decide +kernel
theorem dX9_placeByAll_17 : decode cX9_placeByAll 17 = .ok (.aload_n 0, 1) := by decide +kernel
theorem dX9_placeByAll_18 : decode cX9_placeByAll 18 = .ok (.getfield 81, 3) := by decide +kernel
theorem dX9_placeByAll_21 : decode cX9_placeByAll 21 = .ok (.ifCond .ne 13, 3) := by decide +kernel
theorem dX9_placeByAll_24 : decode cX9_placeByAll 24 = .ok (.aload_n 0, 1) := by decide +kernel
theorem dX9_placeByAll_25 : decode cX9_placeByAll 25 = .ok (.iload_n 1, 1) := by decide +kernel
theorem dX9_placeByAll_26 : decode cX9_placeByAll 26 = .ok (.iconst 1, 1) := by decide +kernel
theorem dX9_placeByAll_27 : decode cX9_placeByAll 27 = .ok (.iadd, 1) := by decide +kernel
theorem dX9_placeByAll_28 : decode cX9_placeByAll 28 = .ok (.invokevirtual 115, 3) := by decide +kernel
theorem dX9_placeByAll_31 : decode cX9_placeByAll 31 = .ok (.goto 4, 3) := by decide +kernel
theorem dX9_placeByAll_34 : decode cX9_placeByAll 34 = .ok (.iconst 0, 1) := by decide +kernel
theorem dX9_placeByAll_35 : decode cX9_placeByAll 35 = .ok (.ireturn, 1) := by decide +kernel
set_option maxRecDepth 20000 in
theorem ggX9_moves_X9_isStage : GoodIn wsX9_moves wsX9_isStage := goodIn_r _ [7, 8, 9, 10, 6, 11, 12, 13, 14, 15, 16, 17, 18, 19, 20, 21, 22, 23, 24, 25, 26, 27, 28, 29, 30, 31, 32, 33, 34, 35, 36, 37, 38, 39, 40] (by decide +kernel) (by decide +kernel)
set_option maxRecDepth 20000 in
theorem gX9_moves_X9_isStage : GoodIn wsX9_moves (wsV RX9 119 RX9 yX9_isStage wsX9_isStage) := goodIn_app (goodIn_of _ (by decide +kernel)) ggX9_moves_X9_isStage
theorem dX9_moves_0 : decode cX9_moves 0 = .ok (.aload_n 0, 1) := by decide +kernel
theorem dX9_moves_1 : decode cX9_moves 1 = .ok (.aload_n 0, 1) := by decide +kernel
theorem dX9_moves_2 : decode cX9_moves 2 = .ok (.iload_n 1, 1) := by decide +kernel
theorem dX9_moves_3 : decode cX9_moves 3 = .ok (.invokevirtual 119, 3) := by decide +kernel
theorem dX9_moves_6 : decode cX9_moves 6 = .ok (.ifCond .eq 7, 3) := by decide +kernel
theorem dX9_moves_9 : decode cX9_moves 9 = .ok (.iconst 0, 1) := by decide +kernel
theorem dX9_moves_10 : decode cX9_moves 10 = .ok (.goto 4, 3) := by decide +kernel
theorem dX9_moves_13 : decode cX9_moves 13 = .ok (.iconst 1, 1) := by decide +kernel
theorem dX9_moves_14 : decode cX9_moves 14 = .ok (.putfield 81, 3) := by decide +kernel
theorem dX9_moves_17 : decode cX9_moves 17 = .ok (.aload_n 0, 1) := by decide +kernel
theorem dX9_moves_18 : decode cX9_moves 18 = .ok (.getfield 81, 3) := by decide +kernel
theorem dX9_moves_21 : decode cX9_moves 21 = .ok (.ifCond .ne 12, 3) := by decide +kernel
theorem dX9_moves_24 : decode cX9_moves 24 = .ok (.aload_n 0, 1) := by decide +kernel
theorem dX9_moves_25 : decode cX9_moves 25 = .ok (.getfield 35, 3) := by decide +kernel
theorem dX9_moves_28 : decode cX9_moves 28 = .ok (.iload_n 1, 1) := by decide +kernel
theorem dX9_moves_29 : decode cX9_moves 29 = .ok (.iaload, 1) := by decide +kernel
theorem dX9_moves_30 : decode cX9_moves 30 = .ok (.goto 4, 3) := by decide +kernel
theorem dX9_moves_33 : decode cX9_moves 33 = .ok (.iconst 0, 1) := by decide +kernel
theorem dX9_moves_34 : decode cX9_moves 34 = .ok (.ireturn, 1) := by decide +kernel
set_option maxRecDepth 20000 in
theorem ggX9_spell_X9_in : GoodIn wsX9_spell wsX9_in := goodIn_r _ [7] (by decide +kernel) (by decide +kernel)
set_option maxRecDepth 20000 in
theorem gX9_spell_X9_in : GoodIn wsX9_spell (va_wsS RX9 84 yX9_in wsX9_in) := goodIn_app (goodIn_of _ (by decide +kernel)) ggX9_spell_X9_in
theorem dX9_spell_0 : decode cX9_spell 0 = .ok (.aload_n 0, 1) := by decide +kernel
theorem dX9_spell_1 : decode cX9_spell 1 = .ok (.iload_n 1, 1) := by decide +kernel
theorem dX9_spell_2 : decode cX9_spell 2 = .ok (.iconst 0, 1) := by decide +kernel
theorem dX9_spell_3 : decode cX9_spell 3 = .ok (.bipush 26, 2) := by decide +kernel
theorem dX9_spell_5 : decode cX9_spell 5 = .ok (.invokestatic 84, 3) := by decide +kernel
theorem dX9_spell_8 : decode cX9_spell 8 = .ok (.ifCond .ne 7, 3) := by decide +kernel
theorem dX9_spell_11 : decode cX9_spell 11 = .ok (.iconst 1, 1) := by decide +kernel
theorem dX9_spell_12 : decode cX9_spell 12 = .ok (.goto 18, 3) := by decide +kernel
theorem dX9_spell_15 : decode cX9_spell 15 = .ok (.aload_n 0, 1) := by decide +kernel
theorem dX9_spell_16 : decode cX9_spell 16 = .ok (.getfield 41, 3) := by decide +kernel
theorem dX9_spell_19 : decode cX9_spell 19 = .ok (.iconst 0, 1) := by decide +kernel
theorem dX9_spell_20 : decode cX9_spell 20 = .ok (.iaload, 1) := by decide +kernel
theorem dX9_spell_21 : decode cX9_spell 21 = .ok (.iconst 5, 1) := by decide +kernel
theorem dX9_spell_22 : decode cX9_spell 22 = .ok (.if_icmp .ne 7, 3) := by decide +kernel
theorem dX9_spell_25 : decode cX9_spell 25 = .ok (.iconst 2, 1) := by decide +kernel
theorem dX9_spell_26 : decode cX9_spell 26 = .ok (.goto 4, 3) := by decide +kernel
theorem dX9_spell_29 : decode cX9_spell 29 = .ok (.iconst 0, 1) := by decide +kernel
theorem dX9_spell_30 : decode cX9_spell 30 = .ok (.putfield 81, 3) := by decide +kernel
theorem dX9_spell_33 : decode cX9_spell 33 = .ok (.aload_n 0, 1) := by decide +kernel
theorem dX9_spell_34 : decode cX9_spell 34 = .ok (.getfield 81, 3) := by decide +kernel
theorem dX9_spell_37 : decode cX9_spell 37 = .ok (.ifCond .le 5, 3) := by decide +kernel
theorem dX9_spell_40 : decode cX9_spell 40 = .ok (.iconst 0, 1) := by decide +kernel
theorem dX9_spell_41 : decode cX9_spell 41 = .ok (.ireturn, 1) := by decide +kernel
theorem dX9_spell_42 : decode cX9_spell 42 = .ok (.aload_n 0, 1) := by decide +kernel
theorem dX9_spell_43 : decode cX9_spell 43 = .ok (.getfield 38, 3) := by decide +kernel
theorem dX9_spell_46 : decode cX9_spell 46 = .ok (.aload_n 0, 1) := by decide +kernel
theorem dX9_spell_47 : decode cX9_spell 47 = .ok (.getfield 41, 3) := by decide +kernel
theorem dX9_spell_50 : decode cX9_spell 50 = .ok (.iconst 0, 1) := by decide +kernel
theorem dX9_spell_51 : decode cX9_spell 51 = .ok (.iaload, 1) := by decide +kernel
theorem dX9_spell_52 : decode cX9_spell 52 = .ok (.iload_n 1, 1) := by decide +kernel
theorem dX9_spell_53 : decode cX9_spell 53 = .ok (.iastore, 1) := by decide +kernel
theorem dX9_spell_54 : decode cX9_spell 54 = .ok (.aload_n 0, 1) := by decide +kernel
theorem dX9_spell_55 : decode cX9_spell 55 = .ok (.getfield 41, 3) := by decide +kernel
theorem dX9_spell_58 : decode cX9_spell 58 = .ok (.iconst 0, 1) := by decide +kernel
theorem dX9_spell_59 : decode cX9_spell 59 = .ok (.dup2, 1) := by decide +kernel
theorem dX9_spell_60 : decode cX9_spell 60 = .ok (.iaload, 1) := by decide +kernel
theorem dX9_spell_61 : decode cX9_spell 61 = .ok (.iconst 1, 1) := by decide +kernel
theorem dX9_spell_62 : decode cX9_spell 62 = .ok (.iadd, 1) := by decide +kernel
theorem dX9_spell_63 : decode cX9_spell 63 = .ok (.iastore, 1) := by decide +kernel
theorem dX9_spell_64 : decode cX9_spell 64 = .ok (.iconst 0, 1) := by decide +kernel
theorem dX9_spell_65 : decode cX9_spell 65 = .ok (.istore_n 2, 1) := by decide +kernel
theorem dX9_spell_66 : decode cX9_spell 66 = .ok (.iconst 0, 1) := by decide +kernel
theorem dX9_spell_67 : decode cX9_spell 67 = .ok (.istore_n 3, 1) := by decide +kernel
theorem dX9_spell_68 : decode cX9_spell 68 = .ok (.iload_n 3, 1) := by decide +kernel
theorem dX9_spell_69 : decode cX9_spell 69 = .ok (.aload_n 0, 1) := by decide +kernel
theorem dX9_spell_70 : decode cX9_spell 70 = .ok (.getfield 41, 3) := by decide +kernel
theorem dX9_spell_73 : decode cX9_spell 73 = .ok (.iconst 0, 1) := by decide +kernel
theorem dX9_spell_74 : decode cX9_spell 74 = .ok (.iaload, 1) := by decide +kernel
theorem dX9_spell_75 : decode cX9_spell 75 = .ok (.if_icmp .ge 28, 3) := by decide +kernel
theorem dX9_spell_78 : decode cX9_spell 78 = .ok (.iload_n 2, 1) := by decide +kernel
theorem dX9_spell_79 : decode cX9_spell 79 = .ok (.aload_n 0, 1) := by decide +kernel
theorem dX9_spell_80 : decode cX9_spell 80 = .ok (.getfield 38, 3) := by decide +kernel
theorem dX9_spell_83 : decode cX9_spell 83 = .ok (.iload_n 3, 1) := by decide +kernel
theorem dX9_spell_84 : decode cX9_spell 84 = .ok (.iaload, 1) := by decide +kernel
theorem dX9_spell_85 : decode cX9_spell 85 = .ok (.bipush 26, 2) := by decide +kernel
theorem dX9_spell_87 : decode cX9_spell 87 = .ok (.if_icmp .ne 7, 3) := by decide +kernel
theorem dX9_spell_90 : decode cX9_spell 90 = .ok (.iconst 2, 1) := by decide +kernel
theorem dX9_spell_91 : decode cX9_spell 91 = .ok (.goto 4, 3) := by decide +kernel
theorem dX9_spell_94 : decode cX9_spell 94 = .ok (.iconst 1, 1) := by decide +kernel
theorem dX9_spell_95 : decode cX9_spell 95 = .ok (.iadd, 1) := by decide +kernel
theorem dX9_spell_96 : decode cX9_spell 96 = .ok (.istore_n 2, 1) := by decide +kernel
theorem dX9_spell_97 : decode cX9_spell 97 = .ok (.iinc 3 1, 3) := by decide +kernel
theorem dX9_spell_100 : decode cX9_spell 100 = .ok (.goto (-32), 3) := by decide +kernel
theorem dX9_spell_103 : decode cX9_spell 103 = .ok (.iload_n 2, 1) := by decide +kernel
theorem dX9_spell_104 : decode cX9_spell 104 = .ok (.ireturn, 1) := by decide +kernel
theorem dX9_clearSpelled_0 : decode cX9_clearSpelled 0 = .ok (.aload_n 0, 1) := by decide +kernel
theorem dX9_clearSpelled_1 : decode cX9_clearSpelled 1 = .ok (.iconst 0, 1) := by decide +kernel
theorem dX9_clearSpelled_2 : decode cX9_clearSpelled 2 = .ok (.putfield 81, 3) := by decide +kernel
theorem dX9_clearSpelled_5 : decode cX9_clearSpelled 5 = .ok (.aload_n 0, 1) := by decide +kernel
theorem dX9_clearSpelled_6 : decode cX9_clearSpelled 6 = .ok (.getfield 41, 3) := by decide +kernel
theorem dX9_clearSpelled_9 : decode cX9_clearSpelled 9 = .ok (.iconst 0, 1) := by decide +kernel
theorem dX9_clearSpelled_10 : decode cX9_clearSpelled 10 = .ok (.iaload, 1) := by decide +kernel
theorem dX9_clearSpelled_11 : decode cX9_clearSpelled 11 = .ok (.istore_n 1, 1) := by decide +kernel
theorem dX9_clearSpelled_12 : decode cX9_clearSpelled 12 = .ok (.aload_n 0, 1) := by decide +kernel
theorem dX9_clearSpelled_13 : decode cX9_clearSpelled 13 = .ok (.getfield 41, 3) := by decide +kernel
theorem dX9_clearSpelled_16 : decode cX9_clearSpelled 16 = .ok (.iconst 0, 1) := by decide +kernel
theorem dX9_clearSpelled_17 : decode cX9_clearSpelled 17 = .ok (.iconst 0, 1) := by decide +kernel
theorem dX9_clearSpelled_18 : decode cX9_clearSpelled 18 = .ok (.iastore, 1) := by decide +kernel
theorem dX9_clearSpelled_19 : decode cX9_clearSpelled 19 = .ok (.iload_n 1, 1) := by decide +kernel
theorem dX9_clearSpelled_20 : decode cX9_clearSpelled 20 = .ok (.ireturn, 1) := by decide +kernel
theorem dX9_lay_0 : decode cX9_lay 0 = .ok (.iload_n 1, 1) := by decide +kernel
theorem dX9_lay_1 : decode cX9_lay 1 = .ok (.bipush 26, 2) := by decide +kernel
theorem dX9_lay_3 : decode cX9_lay 3 = .ok (.if_icmp .ne 40, 3) := by decide +kernel
theorem dX9_lay_6 : decode cX9_lay 6 = .ok (.aload_n 0, 1) := by decide +kernel
theorem dX9_lay_7 : decode cX9_lay 7 = .ok (.getfield 71, 3) := by decide +kernel
theorem dX9_lay_10 : decode cX9_lay 10 = .ok (.aload_n 0, 1) := by decide +kernel
theorem dX9_lay_11 : decode cX9_lay 11 = .ok (.getfield 122, 3) := by decide +kernel
theorem dX9_lay_14 : decode cX9_lay 14 = .ok (.ldc 125, 2) := by decide +kernel
theorem dX9_lay_16 : decode cX9_lay 16 = .ok (.iastore, 1) := by decide +kernel
theorem dX9_lay_17 : decode cX9_lay 17 = .ok (.aload_n 0, 1) := by decide +kernel
theorem dX9_lay_18 : decode cX9_lay 18 = .ok (.getfield 71, 3) := by decide +kernel
theorem dX9_lay_21 : decode cX9_lay 21 = .ok (.aload_n 0, 1) := by decide +kernel
theorem dX9_lay_22 : decode cX9_lay 22 = .ok (.getfield 122, 3) := by decide +kernel
theorem dX9_lay_25 : decode cX9_lay 25 = .ok (.iconst 1, 1) := by decide +kernel
theorem dX9_lay_26 : decode cX9_lay 26 = .ok (.iadd, 1) := by decide +kernel
theorem dX9_lay_27 : decode cX9_lay 27 = .ok (.ldc 126, 2) := by decide +kernel
theorem dX9_lay_29 : decode cX9_lay 29 = .ok (.iastore, 1) := by decide +kernel
theorem dX9_lay_30 : decode cX9_lay 30 = .ok (.aload_n 0, 1) := by decide +kernel
theorem dX9_lay_31 : decode cX9_lay 31 = .ok (.dup, 1) := by decide +kernel
theorem dX9_lay_32 : decode cX9_lay 32 = .ok (.getfield 122, 3) := by decide +kernel
theorem dX9_lay_35 : decode cX9_lay 35 = .ok (.iconst 2, 1) := by decide +kernel
theorem dX9_lay_36 : decode cX9_lay 36 = .ok (.iadd, 1) := by decide +kernel
theorem dX9_lay_37 : decode cX9_lay 37 = .ok (.putfield 122, 3) := by decide +kernel
theorem dX9_lay_40 : decode cX9_lay 40 = .ok (.goto 26, 3) := by decide +kernel
theorem dX9_lay_43 : decode cX9_lay 43 = .ok (.aload_n 0, 1) := by decide +kernel
theorem dX9_lay_44 : decode cX9_lay 44 = .ok (.getfield 71, 3) := by decide +kernel
theorem dX9_lay_47 : decode cX9_lay 47 = .ok (.aload_n 0, 1) := by decide +kernel
theorem dX9_lay_48 : decode cX9_lay 48 = .ok (.getfield 122, 3) := by decide +kernel
theorem dX9_lay_51 : decode cX9_lay 51 = .ok (.bipush 97, 2) := by decide +kernel
theorem dX9_lay_53 : decode cX9_lay 53 = .ok (.iload_n 1, 1) := by decide +kernel
theorem dX9_lay_54 : decode cX9_lay 54 = .ok (.iadd, 1) := by decide +kernel
theorem dX9_lay_55 : decode cX9_lay 55 = .ok (.iastore, 1) := by decide +kernel
theorem dX9_lay_56 : decode cX9_lay 56 = .ok (.aload_n 0, 1) := by decide +kernel
theorem dX9_lay_57 : decode cX9_lay 57 = .ok (.dup, 1) := by decide +kernel
theorem dX9_lay_58 : decode cX9_lay 58 = .ok (.getfield 122, 3) := by decide +kernel
theorem dX9_lay_61 : decode cX9_lay 61 = .ok (.iconst 1, 1) := by decide +kernel
theorem dX9_lay_62 : decode cX9_lay 62 = .ok (.iadd, 1) := by decide +kernel
theorem dX9_lay_63 : decode cX9_lay 63 = .ok (.putfield 122, 3) := by decide +kernel
theorem dX9_lay_66 : decode cX9_lay 66 = .ok (.return_, 1) := by decide +kernel
set_option maxRecDepth 20000 in
theorem ggX9_layCipher_X9_lay : GoodIn wsX9_layCipher wsX9_lay := goodIn_r _ [9, 10, 3, 11, 12, 13, 14, 15, 16, 17, 18, 19, 20, 21, 22, 23, 24, 25, 26, 27, 28, 29, 30, 31, 32, 33, 34, 35, 36, 37, 38, 39, 40, 41] (by decide +kernel) (by decide +kernel)
set_option maxRecDepth 20000 in
theorem gX9_layCipher_X9_lay : GoodIn wsX9_layCipher (wsV RX9 127 RX9 yX9_lay wsX9_lay) := goodIn_app (goodIn_of _ (by decide +kernel)) ggX9_layCipher_X9_lay
theorem dX9_layCipher_0 : decode cX9_layCipher 0 = .ok (.aload_n 0, 1) := by decide +kernel
theorem dX9_layCipher_1 : decode cX9_layCipher 1 = .ok (.getfield 32, 3) := by decide +kernel
theorem dX9_layCipher_4 : decode cX9_layCipher 4 = .ok (.iload_n 1, 1) := by decide +kernel
theorem dX9_layCipher_5 : decode cX9_layCipher 5 = .ok (.iaload, 1) := by decide +kernel
theorem dX9_layCipher_6 : decode cX9_layCipher 6 = .ok (.istore_n 2, 1) := by decide +kernel
theorem dX9_layCipher_7 : decode cX9_layCipher 7 = .ok (.iload_n 1, 1) := by decide +kernel
theorem dX9_layCipher_8 : decode cX9_layCipher 8 = .ok (.iconst 1, 1) := by decide +kernel
theorem dX9_layCipher_9 : decode cX9_layCipher 9 = .ok (.iadd, 1) := by decide +kernel
theorem dX9_layCipher_10 : decode cX9_layCipher 10 = .ok (.istore_n 3, 1) := by decide +kernel
theorem dX9_layCipher_11 : decode cX9_layCipher 11 = .ok (.aload_n 0, 1) := by decide +kernel
theorem dX9_layCipher_12 : decode cX9_layCipher 12 = .ok (.getfield 41, 3) := by decide +kernel
theorem dX9_layCipher_15 : decode cX9_layCipher 15 = .ok (.iload_n 3, 1) := by decide +kernel
theorem dX9_layCipher_16 : decode cX9_layCipher 16 = .ok (.iaload, 1) := by decide +kernel
theorem dX9_layCipher_17 : decode cX9_layCipher 17 = .ok (.istore 4, 2) := by decide +kernel
theorem dX9_layCipher_19 : decode cX9_layCipher 19 = .ok (.iload_n 2, 1) := by decide +kernel
theorem dX9_layCipher_20 : decode cX9_layCipher 20 = .ok (.iload 4, 2) := by decide +kernel
theorem dX9_layCipher_22 : decode cX9_layCipher 22 = .ok (.iconst 1, 1) := by decide +kernel
theorem dX9_layCipher_23 : decode cX9_layCipher 23 = .ok (.iadd, 1) := by decide +kernel
theorem dX9_layCipher_24 : decode cX9_layCipher 24 = .ok (.irem, 1) := by decide +kernel
theorem dX9_layCipher_25 : decode cX9_layCipher 25 = .ok (.istore 5, 2) := by decide +kernel
theorem dX9_layCipher_27 : decode cX9_layCipher 27 = .ok (.aload_n 0, 1) := by decide +kernel
theorem dX9_layCipher_28 : decode cX9_layCipher 28 = .ok (.iconst 0, 1) := by decide +kernel
theorem dX9_layCipher_29 : decode cX9_layCipher 29 = .ok (.putfield 122, 3) := by decide +kernel
theorem dX9_layCipher_32 : decode cX9_layCipher 32 = .ok (.iconst 0, 1) := by decide +kernel
theorem dX9_layCipher_33 : decode cX9_layCipher 33 = .ok (.istore 6, 2) := by decide +kernel
theorem dX9_layCipher_35 : decode cX9_layCipher 35 = .ok (.iload 6, 2) := by decide +kernel
theorem dX9_layCipher_37 : decode cX9_layCipher 37 = .ok (.iload 4, 2) := by decide +kernel
theorem dX9_layCipher_39 : decode cX9_layCipher 39 = .ok (.if_icmp .ge 65, 3) := by decide +kernel
theorem dX9_layCipher_42 : decode cX9_layCipher 42 = .ok (.iload 6, 2) := by decide +kernel
theorem dX9_layCipher_44 : decode cX9_layCipher 44 = .ok (.iload 5, 2) := by decide +kernel
theorem dX9_layCipher_46 : decode cX9_layCipher 46 = .ok (.if_icmp .ne 11, 3) := by decide +kernel
theorem dX9_layCipher_49 : decode cX9_layCipher 49 = .ok (.aload_n 0, 1) := by decide +kernel
theorem dX9_layCipher_50 : decode cX9_layCipher 50 = .ok (.iload_n 2, 1) := by decide +kernel
theorem dX9_layCipher_51 : decode cX9_layCipher 51 = .ok (.bipush 27, 2) := by decide +kernel
theorem dX9_layCipher_53 : decode cX9_layCipher 53 = .ok (.irem, 1) := by decide +kernel
theorem dX9_layCipher_54 : decode cX9_layCipher 54 = .ok (.invokevirtual 127, 3) := by decide +kernel
theorem dX9_layCipher_57 : decode cX9_layCipher 57 = .ok (.aload_n 0, 1) := by decide +kernel
theorem dX9_layCipher_58 : decode cX9_layCipher 58 = .ok (.getfield 38, 3) := by decide +kernel
theorem dX9_layCipher_61 : decode cX9_layCipher 61 = .ok (.iconst 5, 1) := by decide +kernel
theorem dX9_layCipher_62 : decode cX9_layCipher 62 = .ok (.iload_n 3, 1) := by decide +kernel
theorem dX9_layCipher_63 : decode cX9_layCipher 63 = .ok (.imul, 1) := by decide +kernel
theorem dX9_layCipher_64 : decode cX9_layCipher 64 = .ok (.iload_n 2, 1) := by decide +kernel
theorem dX9_layCipher_65 : decode cX9_layCipher 65 = .ok (.iconst 2, 1) := by decide +kernel
theorem dX9_layCipher_66 : decode cX9_layCipher 66 = .ok (.irem, 1) := by decide +kernel
theorem dX9_layCipher_67 : decode cX9_layCipher 67 = .ok (.iconst 1, 1) := by decide +kernel
theorem dX9_layCipher_68 : decode cX9_layCipher 68 = .ok (.if_icmp .ne 13, 3) := by decide +kernel
theorem dX9_layCipher_71 : decode cX9_layCipher 71 = .ok (.iload 4, 2) := by decide +kernel
theorem dX9_layCipher_73 : decode cX9_layCipher 73 = .ok (.iconst 1, 1) := by decide +kernel
theorem dX9_layCipher_74 : decode cX9_layCipher 74 = .ok (.isub, 1) := by decide +kernel
theorem dX9_layCipher_75 : decode cX9_layCipher 75 = .ok (.iload 6, 2) := by decide +kernel
theorem dX9_layCipher_77 : decode cX9_layCipher 77 = .ok (.isub, 1) := by decide +kernel
theorem dX9_layCipher_78 : decode cX9_layCipher 78 = .ok (.goto 5, 3) := by decide +kernel
theorem dX9_layCipher_81 : decode cX9_layCipher 81 = .ok (.iload 6, 2) := by decide +kernel
theorem dX9_layCipher_83 : decode cX9_layCipher 83 = .ok (.iadd, 1) := by decide +kernel
theorem dX9_layCipher_84 : decode cX9_layCipher 84 = .ok (.iaload, 1) := by decide +kernel
theorem dX9_layCipher_85 : decode cX9_layCipher 85 = .ok (.istore 7, 2) := by decide +kernel
theorem dX9_layCipher_87 : decode cX9_layCipher 87 = .ok (.aload_n 0, 1) := by decide +kernel
theorem dX9_layCipher_88 : decode cX9_layCipher 88 = .ok (.iload 7, 2) := by decide +kernel
theorem dX9_layCipher_90 : decode cX9_layCipher 90 = .ok (.iload_n 2, 1) := by decide +kernel
theorem dX9_layCipher_91 : decode cX9_layCipher 91 = .ok (.iadd, 1) := by decide +kernel
theorem dX9_layCipher_92 : decode cX9_layCipher 92 = .ok (.bipush 27, 2) := by decide +kernel
theorem dX9_layCipher_94 : decode cX9_layCipher 94 = .ok (.irem, 1) := by decide +kernel
theorem dX9_layCipher_95 : decode cX9_layCipher 95 = .ok (.invokevirtual 127, 3) := by decide +kernel
theorem dX9_layCipher_98 : decode cX9_layCipher 98 = .ok (.iinc 6 1, 3) := by decide +kernel
theorem dX9_layCipher_101 : decode cX9_layCipher 101 = .ok (.goto (-66), 3) := by decide +kernel
theorem dX9_layCipher_104 : decode cX9_layCipher 104 = .ok (.iload 5, 2) := by decide +kernel
theorem dX9_layCipher_106 : decode cX9_layCipher 106 = .ok (.iload 4, 2) := by decide +kernel
theorem dX9_layCipher_108 : decode cX9_layCipher 108 = .ok (.if_icmp .ne 11, 3) := by decide +kernel
theorem dX9_layCipher_111 : decode cX9_layCipher 111 = .ok (.aload_n 0, 1) := by decide +kernel
theorem dX9_layCipher_112 : decode cX9_layCipher 112 = .ok (.iload_n 2, 1) := by decide +kernel
theorem dX9_layCipher_113 : decode cX9_layCipher 113 = .ok (.bipush 27, 2) := by decide +kernel
theorem dX9_layCipher_115 : decode cX9_layCipher 115 = .ok (.irem, 1) := by decide +kernel
theorem dX9_layCipher_116 : decode cX9_layCipher 116 = .ok (.invokevirtual 127, 3) := by decide +kernel
theorem dX9_layCipher_119 : decode cX9_layCipher 119 = .ok (.return_, 1) := by decide +kernel
set_option maxRecDepth 20000 in
theorem ggX9_hasCipher_X9_isStage : GoodIn wsX9_hasCipher wsX9_isStage := goodIn_r _ [7, 8, 9, 10, 6, 11, 26, 27, 28, 29, 30, 31, 32, 33, 34, 35, 36, 37, 38, 39, 40, 41, 42, 43, 44, 45, 46, 47, 48, 49, 50, 51, 52, 53, 54] (by decide +kernel) (by decide +kernel)
set_option maxRecDepth 20000 in
theorem gX9_hasCipher_X9_isStage : GoodIn wsX9_hasCipher (wsV RX9 119 RX9 yX9_isStage wsX9_isStage) := goodIn_app (goodIn_of _ (by decide +kernel)) ggX9_hasCipher_X9_isStage
set_option maxRecDepth 20000 in
theorem ggX9_hasCipher_X9_layCipher : GoodIn wsX9_hasCipher wsX9_layCipher := goodIn_r _ [15, 1, 16, 17, 18, 19, 20, 21, 6, 22, 23, 24, 25, 26, 27, 28, 29, 30, 31, 32, 33, 34, 35, 36, 37, 38, 39, 40, 41, 42, 43, 44, 45, 46, 47, 48, 49, 50, 51, 52, 53, 54] (by decide +kernel) (by decide +kernel)
set_option maxRecDepth 20000 in
theorem gX9_hasCipher_X9_layCipher : GoodIn wsX9_hasCipher (wsV RX9 131 RX9 yX9_layCipher wsX9_layCipher) := goodIn_app (goodIn_of _ (by decide +kernel)) ggX9_hasCipher_X9_layCipher
theorem dX9_hasCipher_0 : decode cX9_hasCipher 0 = .ok (.aload_n 0, 1) := by decide +kernel
theorem dX9_hasCipher_1 : decode cX9_hasCipher 1 = .ok (.aload_n 0, 1) := by decide +kernel
theorem dX9_hasCipher_2 : decode cX9_hasCipher 2 = .ok (.iload_n 1, 1) := by decide +kernel
theorem dX9_hasCipher_3 : decode cX9_hasCipher 3 = .ok (.invokevirtual 119, 3) := by decide +kernel
theorem dX9_hasCipher_6 : decode cX9_hasCipher 6 = .ok (.ifCond .ne 7, 3) := by decide +kernel
theorem dX9_hasCipher_9 : decode cX9_hasCipher 9 = .ok (.iconst 1, 1) := by decide +kernel
theorem dX9_hasCipher_10 : decode cX9_hasCipher 10 = .ok (.goto 18, 3) := by decide +kernel
theorem dX9_hasCipher_13 : decode cX9_hasCipher 13 = .ok (.aload_n 0, 1) := by decide +kernel
theorem dX9_hasCipher_14 : decode cX9_hasCipher 14 = .ok (.getfield 32, 3) := by decide +kernel
theorem dX9_hasCipher_17 : decode cX9_hasCipher 17 = .ok (.iload_n 1, 1) := by decide +kernel
theorem dX9_hasCipher_18 : decode cX9_hasCipher 18 = .ok (.iaload, 1) := by decide +kernel
theorem dX9_hasCipher_19 : decode cX9_hasCipher 19 = .ok (.iconst (-1), 1) := by decide +kernel
theorem dX9_hasCipher_20 : decode cX9_hasCipher 20 = .ok (.if_icmp .ne 7, 3) := by decide +kernel
theorem dX9_hasCipher_23 : decode cX9_hasCipher 23 = .ok (.iconst 2, 1) := by decide +kernel
theorem dX9_hasCipher_24 : decode cX9_hasCipher 24 = .ok (.goto 4, 3) := by decide +kernel
theorem dX9_hasCipher_27 : decode cX9_hasCipher 27 = .ok (.iconst 0, 1) := by decide +kernel
theorem dX9_hasCipher_28 : decode cX9_hasCipher 28 = .ok (.putfield 81, 3) := by decide +kernel
theorem dX9_hasCipher_31 : decode cX9_hasCipher 31 = .ok (.aload_n 0, 1) := by decide +kernel
theorem dX9_hasCipher_32 : decode cX9_hasCipher 32 = .ok (.getfield 81, 3) := by decide +kernel
theorem dX9_hasCipher_35 : decode cX9_hasCipher 35 = .ok (.ifCond .ne 8, 3) := by decide +kernel
theorem dX9_hasCipher_38 : decode cX9_hasCipher 38 = .ok (.aload_n 0, 1) := by decide +kernel
theorem dX9_hasCipher_39 : decode cX9_hasCipher 39 = .ok (.iload_n 1, 1) := by decide +kernel
theorem dX9_hasCipher_40 : decode cX9_hasCipher 40 = .ok (.invokevirtual 131, 3) := by decide +kernel
theorem dX9_hasCipher_43 : decode cX9_hasCipher 43 = .ok (.aload_n 0, 1) := by decide +kernel
theorem dX9_hasCipher_44 : decode cX9_hasCipher 44 = .ok (.getfield 81, 3) := by decide +kernel
theorem dX9_hasCipher_47 : decode cX9_hasCipher 47 = .ok (.ifCond .ne 7, 3) := by decide +kernel
theorem dX9_hasCipher_50 : decode cX9_hasCipher 50 = .ok (.iconst 1, 1) := by decide +kernel
theorem dX9_hasCipher_51 : decode cX9_hasCipher 51 = .ok (.goto 4, 3) := by decide +kernel
theorem dX9_hasCipher_54 : decode cX9_hasCipher 54 = .ok (.iconst 0, 1) := by decide +kernel
theorem dX9_hasCipher_55 : decode cX9_hasCipher 55 = .ok (.ireturn, 1) := by decide +kernel
set_option maxRecDepth 20000 in
theorem ggX9_cipherLength_X9_hasCipher : GoodIn wsX9_cipherLength wsX9_hasCipher := goodIn_r _ [6, 7, 8, 9, 10, 11, 5, 12, 13, 14, 15, 16, 17, 18, 19, 20, 21, 1, 22, 23, 24, 25, 26, 27, 28, 29, 30, 31, 32, 33, 34, 35, 36, 37, 38, 39, 40, 41, 42, 43, 44, 45, 46, 47, 48, 49, 50, 51, 52, 53, 54, 55, 56, 57, 58] (by decide +kernel) (by decide +kernel)
set_option maxRecDepth 20000 in
theorem gX9_cipherLength_X9_hasCipher : GoodIn wsX9_cipherLength (wsV RX9 134 RX9 yX9_hasCipher wsX9_hasCipher) := goodIn_app (goodIn_of _ (by decide +kernel)) ggX9_cipherLength_X9_hasCipher
theorem dX9_cipherLength_0 : decode cX9_cipherLength 0 = .ok (.aload_n 0, 1) := by decide +kernel
theorem dX9_cipherLength_1 : decode cX9_cipherLength 1 = .ok (.iload_n 1, 1) := by decide +kernel
theorem dX9_cipherLength_2 : decode cX9_cipherLength 2 = .ok (.invokevirtual 134, 3) := by decide +kernel
theorem dX9_cipherLength_5 : decode cX9_cipherLength 5 = .ok (.ifCond .eq 10, 3) := by decide +kernel
theorem dX9_cipherLength_8 : decode cX9_cipherLength 8 = .ok (.aload_n 0, 1) := by decide +kernel
theorem dX9_cipherLength_9 : decode cX9_cipherLength 9 = .ok (.getfield 122, 3) := by decide +kernel
theorem dX9_cipherLength_12 : decode cX9_cipherLength 12 = .ok (.goto 4, 3) := by decide +kernel
theorem dX9_cipherLength_15 : decode cX9_cipherLength 15 = .ok (.iconst 0, 1) := by decide +kernel
theorem dX9_cipherLength_16 : decode cX9_cipherLength 16 = .ok (.ireturn, 1) := by decide +kernel
set_option maxRecDepth 20000 in
theorem ggX9_cipherAt_X9_hasCipher : GoodIn wsX9_cipherAt wsX9_hasCipher := goodIn_r _ [8, 9, 2, 10, 11, 12, 7, 13, 14, 15, 16, 17, 18, 19, 20, 21, 22, 1, 23, 24, 25, 26, 27, 3, 28, 29, 30, 31, 32, 33, 34, 35, 36, 37, 38, 39, 40, 41, 42, 43, 44, 45, 46, 47, 48, 49, 50, 51, 52, 53, 54, 55, 56, 57, 58] (by decide +kernel) (by decide +kernel)
set_option maxRecDepth 20000 in
theorem gX9_cipherAt_X9_hasCipher : GoodIn wsX9_cipherAt (wsV RX9 134 RX9 yX9_hasCipher wsX9_hasCipher) := goodIn_app (goodIn_of _ (by decide +kernel)) ggX9_cipherAt_X9_hasCipher
set_option maxRecDepth 20000 in
theorem ggX9_cipherAt_X9_in : GoodIn wsX9_cipherAt wsX9_in := goodIn_r _ [17] (by decide +kernel) (by decide +kernel)
set_option maxRecDepth 20000 in
theorem gX9_cipherAt_X9_in : GoodIn wsX9_cipherAt (va_wsS RX9 84 yX9_in wsX9_in) := goodIn_app (goodIn_of _ (by decide +kernel)) ggX9_cipherAt_X9_in
theorem dX9_cipherAt_0 : decode cX9_cipherAt 0 = .ok (.aload_n 0, 1) := by decide +kernel
theorem dX9_cipherAt_1 : decode cX9_cipherAt 1 = .ok (.iload_n 1, 1) := by decide +kernel
theorem dX9_cipherAt_2 : decode cX9_cipherAt 2 = .ok (.invokevirtual 134, 3) := by decide +kernel
theorem dX9_cipherAt_5 : decode cX9_cipherAt 5 = .ok (.ifCond .eq 26, 3) := by decide +kernel
theorem dX9_cipherAt_8 : decode cX9_cipherAt 8 = .ok (.aload_n 0, 1) := by decide +kernel
theorem dX9_cipherAt_9 : decode cX9_cipherAt 9 = .ok (.iload_n 2, 1) := by decide +kernel
theorem dX9_cipherAt_10 : decode cX9_cipherAt 10 = .ok (.iconst 0, 1) := by decide +kernel
theorem dX9_cipherAt_11 : decode cX9_cipherAt 11 = .ok (.aload_n 0, 1) := by decide +kernel
theorem dX9_cipherAt_12 : decode cX9_cipherAt 12 = .ok (.getfield 122, 3) := by decide +kernel
theorem dX9_cipherAt_15 : decode cX9_cipherAt 15 = .ok (.iconst 1, 1) := by decide +kernel
theorem dX9_cipherAt_16 : decode cX9_cipherAt 16 = .ok (.isub, 1) := by decide +kernel
theorem dX9_cipherAt_17 : decode cX9_cipherAt 17 = .ok (.invokestatic 84, 3) := by decide +kernel
theorem dX9_cipherAt_20 : decode cX9_cipherAt 20 = .ok (.ifCond .eq 7, 3) := by decide +kernel
theorem dX9_cipherAt_23 : decode cX9_cipherAt 23 = .ok (.iconst 0, 1) := by decide +kernel
theorem dX9_cipherAt_24 : decode cX9_cipherAt 24 = .ok (.goto 4, 3) := by decide +kernel
theorem dX9_cipherAt_27 : decode cX9_cipherAt 27 = .ok (.iconst 2, 1) := by decide +kernel
theorem dX9_cipherAt_28 : decode cX9_cipherAt 28 = .ok (.putfield 81, 3) := by decide +kernel
theorem dX9_cipherAt_31 : decode cX9_cipherAt 31 = .ok (.aload_n 0, 1) := by decide +kernel
theorem dX9_cipherAt_32 : decode cX9_cipherAt 32 = .ok (.getfield 81, 3) := by decide +kernel
theorem dX9_cipherAt_35 : decode cX9_cipherAt 35 = .ok (.ifCond .ne 13, 3) := by decide +kernel
theorem dX9_cipherAt_38 : decode cX9_cipherAt 38 = .ok (.aload_n 0, 1) := by decide +kernel
theorem dX9_cipherAt_39 : decode cX9_cipherAt 39 = .ok (.getfield 71, 3) := by decide +kernel
theorem dX9_cipherAt_42 : decode cX9_cipherAt 42 = .ok (.iload_n 2, 1) := by decide +kernel
theorem dX9_cipherAt_43 : decode cX9_cipherAt 43 = .ok (.iaload, 1) := by decide +kernel
theorem dX9_cipherAt_44 : decode cX9_cipherAt 44 = .ok (.i2c, 1) := by decide +kernel
theorem dX9_cipherAt_45 : decode cX9_cipherAt 45 = .ok (.goto 4, 3) := by decide +kernel
theorem dX9_cipherAt_48 : decode cX9_cipherAt 48 = .ok (.iconst 0, 1) := by decide +kernel
theorem dX9_cipherAt_49 : decode cX9_cipherAt 49 = .ok (.ireturn, 1) := by decide +kernel
set_option maxRecDepth 20000 in
theorem ggX9_cost_X9_apart : GoodIn wsX9_cost wsX9_apart := goodIn_r _ [5] (by decide +kernel) (by decide +kernel)
set_option maxRecDepth 20000 in
theorem gX9_cost_X9_apart : GoodIn wsX9_cost (va_wsS RX9 94 yX9_apart wsX9_apart) := goodIn_app (goodIn_of _ (by decide +kernel)) ggX9_cost_X9_apart
theorem dX9_cost_0 : decode cX9_cost 0 = .ok (.iconst 1, 1) := by decide +kernel
theorem dX9_cost_1 : decode cX9_cost 1 = .ok (.aload_n 0, 1) := by decide +kernel
theorem dX9_cost_2 : decode cX9_cost 2 = .ok (.getfield 7, 3) := by decide +kernel
theorem dX9_cost_5 : decode cX9_cost 5 = .ok (.iload_n 1, 1) := by decide +kernel
theorem dX9_cost_6 : decode cX9_cost 6 = .ok (.iaload, 1) := by decide +kernel
theorem dX9_cost_7 : decode cX9_cost 7 = .ok (.aload_n 0, 1) := by decide +kernel
theorem dX9_cost_8 : decode cX9_cost 8 = .ok (.getfield 7, 3) := by decide +kernel
theorem dX9_cost_11 : decode cX9_cost 11 = .ok (.iload_n 2, 1) := by decide +kernel
theorem dX9_cost_12 : decode cX9_cost 12 = .ok (.iaload, 1) := by decide +kernel
theorem dX9_cost_13 : decode cX9_cost 13 = .ok (.invokestatic 94, 3) := by decide +kernel
theorem dX9_cost_16 : decode cX9_cost 16 = .ok (.iadd, 1) := by decide +kernel
theorem dX9_cost_17 : decode cX9_cost 17 = .ok (.ireturn, 1) := by decide +kernel
set_option maxRecDepth 20000 in
theorem ggX9_neighbour_X9_in : GoodIn wsX9_neighbour wsX9_in := goodIn_r _ [4] (by decide +kernel) (by decide +kernel)
set_option maxRecDepth 20000 in
theorem gX9_neighbour_X9_in : GoodIn wsX9_neighbour (va_wsS RX9 84 yX9_in wsX9_in) := goodIn_app (goodIn_of _ (by decide +kernel)) ggX9_neighbour_X9_in
theorem dX9_neighbour_0 : decode cX9_neighbour 0 = .ok (.iload_n 0, 1) := by decide +kernel
theorem dX9_neighbour_1 : decode cX9_neighbour 1 = .ok (.bipush 8, 2) := by decide +kernel
theorem dX9_neighbour_3 : decode cX9_neighbour 3 = .ok (.idiv, 1) := by decide +kernel
theorem dX9_neighbour_4 : decode cX9_neighbour 4 = .ok (.iload_n 1, 1) := by decide +kernel
theorem dX9_neighbour_5 : decode cX9_neighbour 5 = .ok (.ifCond .ne 7, 3) := by decide +kernel
theorem dX9_neighbour_8 : decode cX9_neighbour 8 = .ok (.iconst (-1), 1) := by decide +kernel
theorem dX9_neighbour_9 : decode cX9_neighbour 9 = .ok (.goto 13, 3) := by decide +kernel
theorem dX9_neighbour_12 : decode cX9_neighbour 12 = .ok (.iload_n 1, 1) := by decide +kernel
theorem dX9_neighbour_13 : decode cX9_neighbour 13 = .ok (.iconst 3, 1) := by decide +kernel
theorem dX9_neighbour_14 : decode cX9_neighbour 14 = .ok (.if_icmp .ne 7, 3) := by decide +kernel
theorem dX9_neighbour_17 : decode cX9_neighbour 17 = .ok (.iconst 1, 1) := by decide +kernel
theorem dX9_neighbour_18 : decode cX9_neighbour 18 = .ok (.goto 4, 3) := by decide +kernel
theorem dX9_neighbour_21 : decode cX9_neighbour 21 = .ok (.iconst 0, 1) := by decide +kernel
theorem dX9_neighbour_22 : decode cX9_neighbour 22 = .ok (.iadd, 1) := by decide +kernel
theorem dX9_neighbour_23 : decode cX9_neighbour 23 = .ok (.istore_n 2, 1) := by decide +kernel
theorem dX9_neighbour_24 : decode cX9_neighbour 24 = .ok (.iload_n 0, 1) := by decide +kernel
theorem dX9_neighbour_25 : decode cX9_neighbour 25 = .ok (.bipush 8, 2) := by decide +kernel
theorem dX9_neighbour_27 : decode cX9_neighbour 27 = .ok (.irem, 1) := by decide +kernel
theorem dX9_neighbour_28 : decode cX9_neighbour 28 = .ok (.iload_n 1, 1) := by decide +kernel
theorem dX9_neighbour_29 : decode cX9_neighbour 29 = .ok (.iconst 1, 1) := by decide +kernel
theorem dX9_neighbour_30 : decode cX9_neighbour 30 = .ok (.if_icmp .ne 7, 3) := by decide +kernel
theorem dX9_neighbour_33 : decode cX9_neighbour 33 = .ok (.iconst (-1), 1) := by decide +kernel
theorem dX9_neighbour_34 : decode cX9_neighbour 34 = .ok (.goto 13, 3) := by decide +kernel
theorem dX9_neighbour_37 : decode cX9_neighbour 37 = .ok (.iload_n 1, 1) := by decide +kernel
theorem dX9_neighbour_38 : decode cX9_neighbour 38 = .ok (.iconst 2, 1) := by decide +kernel
theorem dX9_neighbour_39 : decode cX9_neighbour 39 = .ok (.if_icmp .ne 7, 3) := by decide +kernel
theorem dX9_neighbour_42 : decode cX9_neighbour 42 = .ok (.iconst 1, 1) := by decide +kernel
theorem dX9_neighbour_43 : decode cX9_neighbour 43 = .ok (.goto 4, 3) := by decide +kernel
theorem dX9_neighbour_46 : decode cX9_neighbour 46 = .ok (.iconst 0, 1) := by decide +kernel
theorem dX9_neighbour_47 : decode cX9_neighbour 47 = .ok (.iadd, 1) := by decide +kernel
theorem dX9_neighbour_48 : decode cX9_neighbour 48 = .ok (.istore_n 3, 1) := by decide +kernel
theorem dX9_neighbour_49 : decode cX9_neighbour 49 = .ok (.iload_n 2, 1) := by decide +kernel
theorem dX9_neighbour_50 : decode cX9_neighbour 50 = .ok (.iconst 0, 1) := by decide +kernel
theorem dX9_neighbour_51 : decode cX9_neighbour 51 = .ok (.bipush 7, 2) := by decide +kernel
theorem dX9_neighbour_53 : decode cX9_neighbour 53 = .ok (.invokestatic 84, 3) := by decide +kernel
theorem dX9_neighbour_56 : decode cX9_neighbour 56 = .ok (.ifCond .eq 22, 3) := by decide +kernel
theorem dX9_neighbour_59 : decode cX9_neighbour 59 = .ok (.iload_n 3, 1) := by decide +kernel
theorem dX9_neighbour_60 : decode cX9_neighbour 60 = .ok (.iconst 0, 1) := by decide +kernel
theorem dX9_neighbour_61 : decode cX9_neighbour 61 = .ok (.bipush 7, 2) := by decide +kernel
theorem dX9_neighbour_63 : decode cX9_neighbour 63 = .ok (.invokestatic 84, 3) := by decide +kernel
theorem dX9_neighbour_66 : decode cX9_neighbour 66 = .ok (.ifCond .eq 12, 3) := by decide +kernel
theorem dX9_neighbour_69 : decode cX9_neighbour 69 = .ok (.bipush 8, 2) := by decide +kernel
theorem dX9_neighbour_71 : decode cX9_neighbour 71 = .ok (.iload_n 2, 1) := by decide +kernel
theorem dX9_neighbour_72 : decode cX9_neighbour 72 = .ok (.imul, 1) := by decide +kernel
theorem dX9_neighbour_73 : decode cX9_neighbour 73 = .ok (.iload_n 3, 1) := by decide +kernel
theorem dX9_neighbour_74 : decode cX9_neighbour 74 = .ok (.iadd, 1) := by decide +kernel
theorem dX9_neighbour_75 : decode cX9_neighbour 75 = .ok (.goto 4, 3) := by decide +kernel
theorem dX9_neighbour_78 : decode cX9_neighbour 78 = .ok (.iconst (-1), 1) := by decide +kernel
theorem dX9_neighbour_79 : decode cX9_neighbour 79 = .ok (.ireturn, 1) := by decide +kernel
set_option maxRecDepth 20000 in
theorem ggX9_sumBy_X9_neighbour : GoodIn wsX9_sumBy wsX9_neighbour := goodIn_r _ [6, 7, 8, 5, 9] (by decide +kernel) (by decide +kernel)
set_option maxRecDepth 20000 in
theorem gX9_sumBy_X9_neighbour : GoodIn wsX9_sumBy (va_wsS RX9 137 yX9_neighbour wsX9_neighbour) := goodIn_app (goodIn_of _ (by decide +kernel)) ggX9_sumBy_X9_neighbour
set_option maxRecDepth 20000 in
theorem ggX9_sumBy_X9_cost : GoodIn wsX9_sumBy wsX9_cost := goodIn_r _ [13, 14, 15, 16, 5, 17, 18, 19, 20, 21, 22, 23, 24, 25, 26, 27, 28, 29, 30, 31, 32, 33, 34, 35, 36, 37, 38, 39, 40, 41, 42, 43, 44, 45, 46] (by decide +kernel) (by decide +kernel)
set_option maxRecDepth 20000 in
theorem gX9_sumBy_X9_cost : GoodIn wsX9_sumBy (wsV RX9 140 RX9 yX9_cost wsX9_cost) := goodIn_app (goodIn_of _ (by decide +kernel)) ggX9_sumBy_X9_cost
theorem dX9_sumBy_0 : decode cX9_sumBy 0 = .ok (.iload_n 1, 1) := by decide +kernel
theorem dX9_sumBy_1 : decode cX9_sumBy 1 = .ok (.iload_n 2, 1) := by decide +kernel
theorem dX9_sumBy_2 : decode cX9_sumBy 2 = .ok (.invokestatic 137, 3) := by decide +kernel
theorem dX9_sumBy_5 : decode cX9_sumBy 5 = .ok (.istore_n 3, 1) := by decide +kernel
theorem dX9_sumBy_6 : decode cX9_sumBy 6 = .ok (.iload_n 3, 1) := by decide +kernel
theorem dX9_sumBy_7 : decode cX9_sumBy 7 = .ok (.iconst (-1), 1) := by decide +kernel
theorem dX9_sumBy_8 : decode cX9_sumBy 8 = .ok (.if_icmp .eq 22, 3) := by decide +kernel
theorem dX9_sumBy_11 : decode cX9_sumBy 11 = .ok (.aload_n 0, 1) := by decide +kernel
theorem dX9_sumBy_12 : decode cX9_sumBy 12 = .ok (.getfield 13, 3) := by decide +kernel
theorem dX9_sumBy_15 : decode cX9_sumBy 15 = .ok (.iload_n 3, 1) := by decide +kernel
theorem dX9_sumBy_16 : decode cX9_sumBy 16 = .ok (.baload, 1) := by decide +kernel
theorem dX9_sumBy_17 : decode cX9_sumBy 17 = .ok (.ifCond .ne 13, 3) := by decide +kernel
theorem dX9_sumBy_20 : decode cX9_sumBy 20 = .ok (.aload_n 0, 1) := by decide +kernel
theorem dX9_sumBy_21 : decode cX9_sumBy 21 = .ok (.getfield 74, 3) := by decide +kernel
theorem dX9_sumBy_24 : decode cX9_sumBy 24 = .ok (.iload_n 3, 1) := by decide +kernel
theorem dX9_sumBy_25 : decode cX9_sumBy 25 = .ok (.iaload, 1) := by decide +kernel
theorem dX9_sumBy_26 : decode cX9_sumBy 26 = .ok (.iconst (-1), 1) := by decide +kernel
theorem dX9_sumBy_27 : decode cX9_sumBy 27 = .ok (.if_icmp .ne 7, 3) := by decide +kernel
theorem dX9_sumBy_30 : decode cX9_sumBy 30 = .ok (.iconst (-1), 1) := by decide +kernel
theorem dX9_sumBy_31 : decode cX9_sumBy 31 = .ok (.goto 16, 3) := by decide +kernel
theorem dX9_sumBy_34 : decode cX9_sumBy 34 = .ok (.aload_n 0, 1) := by decide +kernel
theorem dX9_sumBy_35 : decode cX9_sumBy 35 = .ok (.iload_n 1, 1) := by decide +kernel
theorem dX9_sumBy_36 : decode cX9_sumBy 36 = .ok (.iload_n 3, 1) := by decide +kernel
theorem dX9_sumBy_37 : decode cX9_sumBy 37 = .ok (.invokevirtual 140, 3) := by decide +kernel
theorem dX9_sumBy_40 : decode cX9_sumBy 40 = .ok (.aload_n 0, 1) := by decide +kernel
theorem dX9_sumBy_41 : decode cX9_sumBy 41 = .ok (.getfield 74, 3) := by decide +kernel
theorem dX9_sumBy_44 : decode cX9_sumBy 44 = .ok (.iload_n 3, 1) := by decide +kernel
theorem dX9_sumBy_45 : decode cX9_sumBy 45 = .ok (.iaload, 1) := by decide +kernel
theorem dX9_sumBy_46 : decode cX9_sumBy 46 = .ok (.iadd, 1) := by decide +kernel
theorem dX9_sumBy_47 : decode cX9_sumBy 47 = .ok (.ireturn, 1) := by decide +kernel
set_option maxRecDepth 20000 in
theorem ggX9_laySums_X9_sumBy : GoodIn wsX9_laySums wsX9_sumBy := goodIn_r _ [6, 7, 1, 8, 9, 5, 10, 11, 12, 13, 14, 15, 16, 17, 18, 19, 20, 21, 22, 23, 24, 25, 26, 27, 28, 29, 30, 31, 32, 33, 34, 35, 36, 37, 38, 39, 40, 41, 42, 43, 44, 45, 46, 47, 48, 49, 50] (by decide +kernel) (by decide +kernel)
set_option maxRecDepth 20000 in
theorem gX9_laySums_X9_sumBy : GoodIn wsX9_laySums (wsV RX9 143 RX9 yX9_sumBy wsX9_sumBy) := goodIn_app (goodIn_of _ (by decide +kernel)) ggX9_laySums_X9_sumBy
theorem dX9_laySums_0 : decode cX9_laySums 0 = .ok (.iconst 0, 1) := by decide +kernel
theorem dX9_laySums_1 : decode cX9_laySums 1 = .ok (.istore_n 2, 1) := by decide +kernel
theorem dX9_laySums_2 : decode cX9_laySums 2 = .ok (.iload_n 2, 1) := by decide +kernel
theorem dX9_laySums_3 : decode cX9_laySums 3 = .ok (.bipush 64, 2) := by decide +kernel
theorem dX9_laySums_5 : decode cX9_laySums 5 = .ok (.if_icmp .ge 25, 3) := by decide +kernel
theorem dX9_laySums_8 : decode cX9_laySums 8 = .ok (.aload_n 0, 1) := by decide +kernel
theorem dX9_laySums_9 : decode cX9_laySums 9 = .ok (.getfield 74, 3) := by decide +kernel
theorem dX9_laySums_12 : decode cX9_laySums 12 = .ok (.iload_n 2, 1) := by decide +kernel
theorem dX9_laySums_13 : decode cX9_laySums 13 = .ok (.iload_n 2, 1) := by decide +kernel
theorem dX9_laySums_14 : decode cX9_laySums 14 = .ok (.iload_n 1, 1) := by decide +kernel
theorem dX9_laySums_15 : decode cX9_laySums 15 = .ok (.if_icmp .ne 7, 3) := by decide +kernel
theorem dX9_laySums_18 : decode cX9_laySums 18 = .ok (.iconst 0, 1) := by decide +kernel
theorem dX9_laySums_19 : decode cX9_laySums 19 = .ok (.goto 4, 3) := by decide +kernel
theorem dX9_laySums_22 : decode cX9_laySums 22 = .ok (.iconst (-1), 1) := by decide +kernel
theorem dX9_laySums_23 : decode cX9_laySums 23 = .ok (.iastore, 1) := by decide +kernel
theorem dX9_laySums_24 : decode cX9_laySums 24 = .ok (.iinc 2 1, 3) := by decide +kernel
theorem dX9_laySums_27 : decode cX9_laySums 27 = .ok (.goto (-25), 3) := by decide +kernel
theorem dX9_laySums_30 : decode cX9_laySums 30 = .ok (.iconst 1, 1) := by decide +kernel
theorem dX9_laySums_31 : decode cX9_laySums 31 = .ok (.istore_n 2, 1) := by decide +kernel
theorem dX9_laySums_32 : decode cX9_laySums 32 = .ok (.iload_n 2, 1) := by decide +kernel
theorem dX9_laySums_33 : decode cX9_laySums 33 = .ok (.ifCond .eq 83, 3) := by decide +kernel
theorem dX9_laySums_36 : decode cX9_laySums 36 = .ok (.iconst 0, 1) := by decide +kernel
theorem dX9_laySums_37 : decode cX9_laySums 37 = .ok (.istore_n 2, 1) := by decide +kernel
theorem dX9_laySums_38 : decode cX9_laySums 38 = .ok (.iconst 0, 1) := by decide +kernel
theorem dX9_laySums_39 : decode cX9_laySums 39 = .ok (.istore_n 3, 1) := by decide +kernel
theorem dX9_laySums_40 : decode cX9_laySums 40 = .ok (.iload_n 3, 1) := by decide +kernel
theorem dX9_laySums_41 : decode cX9_laySums 41 = .ok (.bipush 64, 2) := by decide +kernel
theorem dX9_laySums_43 : decode cX9_laySums 43 = .ok (.if_icmp .ge 70, 3) := by decide +kernel
theorem dX9_laySums_46 : decode cX9_laySums 46 = .ok (.iconst 0, 1) := by decide +kernel
theorem dX9_laySums_47 : decode cX9_laySums 47 = .ok (.istore 4, 2) := by decide +kernel
theorem dX9_laySums_49 : decode cX9_laySums 49 = .ok (.iload 4, 2) := by decide +kernel
theorem dX9_laySums_51 : decode cX9_laySums 51 = .ok (.iconst 4, 1) := by decide +kernel
theorem dX9_laySums_52 : decode cX9_laySums 52 = .ok (.if_icmp .ge 55, 3) := by decide +kernel
theorem dX9_laySums_55 : decode cX9_laySums 55 = .ok (.aload_n 0, 1) := by decide +kernel
theorem dX9_laySums_56 : decode cX9_laySums 56 = .ok (.iload_n 3, 1) := by decide +kernel
theorem dX9_laySums_57 : decode cX9_laySums 57 = .ok (.iload 4, 2) := by decide +kernel
theorem dX9_laySums_59 : decode cX9_laySums 59 = .ok (.invokevirtual 143, 3) := by decide +kernel
theorem dX9_laySums_62 : decode cX9_laySums 62 = .ok (.istore 5, 2) := by decide +kernel
theorem dX9_laySums_64 : decode cX9_laySums 64 = .ok (.iload 5, 2) := by decide +kernel
theorem dX9_laySums_66 : decode cX9_laySums 66 = .ok (.iconst (-1), 1) := by decide +kernel
theorem dX9_laySums_67 : decode cX9_laySums 67 = .ok (.if_icmp .eq 34, 3) := by decide +kernel
theorem dX9_laySums_70 : decode cX9_laySums 70 = .ok (.aload_n 0, 1) := by decide +kernel
theorem dX9_laySums_71 : decode cX9_laySums 71 = .ok (.getfield 74, 3) := by decide +kernel
theorem dX9_laySums_74 : decode cX9_laySums 74 = .ok (.iload_n 3, 1) := by decide +kernel
