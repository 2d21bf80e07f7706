theorem dX8_setHeight_61 : decode cX8_setHeight 61 = .ok (.iload 4, 2) := by decide +kernel
theorem dX8_setHeight_63 : decode cX8_setHeight 63 = .ok (.invokevirtual 83, 3) := by decide +kernel
theorem dX8_setHeight_66 : decode cX8_setHeight 66 = .ok (.checkcast 87, 3) := by decide +kernel
theorem dX8_setHeight_69 : decode cX8_setHeight 69 = .ok (.iload_n 1, 1) := by decide +kernel
theorem dX8_setHeight_70 : decode cX8_setHeight 70 = .ok (.iload_n 2, 1) := by decide +kernel
theorem dX8_setHeight_71 : decode cX8_setHeight 71 = .ok (.invokevirtual 89, 3) := by decide +kernel
theorem dX8_setHeight_74 : decode cX8_setHeight 74 = .ok (.ifCond .eq 6, 3) := by decide +kernel
theorem dX8_setHeight_77 : decode cX8_setHeight 77 = .ok (.iinc 3 1, 3) := by decide +kernel
theorem dX8_setHeight_80 : decode cX8_setHeight 80 = .ok (.iinc 4 1, 3) := by decide +kernel
theorem dX8_setHeight_83 : decode cX8_setHeight 83 = .ok (.goto (-38), 3) := by decide +kernel
theorem dX8_setHeight_86 : decode cX8_setHeight 86 = .ok (.iload_n 3, 1) := by decide +kernel
theorem dX8_setHeight_87 : decode cX8_setHeight 87 = .ok (.ireturn, 1) := by decide +kernel
set_option maxRecDepth 20000 in
theorem ggX8_close_X8_requirePlace : GoodIn wsX8_close wsX8_requirePlace := goodIn_ca (goodIn_r _ [5, 6, 7, 8, 9, 10, 11] (by decide +kernel) (by decide +kernel)) (goodIn_sub (fun _ h => List.mem_cons_of_mem _ (List.mem_append_right _ h)) (by decide +kernel))
set_option maxRecDepth 20000 in
theorem gX8_close_X8_requirePlace : GoodIn wsX8_close (va_wsS RX8 65 yX8_requirePlace wsX8_requirePlace) := goodIn_app (goodIn_of _ (by decide +kernel)) ggX8_close_X8_requirePlace
set_option maxRecDepth 20000 in
theorem ggX8_close_X3_turnGate : GoodIn wsX8_close wsX3_turnGate := goodIn_r _ [15, 16, 17, 9, 10, 11, 28, 29] (by decide +kernel) (by decide +kernel)
set_option maxRecDepth 20000 in
theorem gX8_close_X3_turnGate : GoodIn wsX8_close (wsV RX8 93 RX3 yX3_turnGate wsX3_turnGate) := goodIn_app (goodIn_of _ (by decide +kernel)) ggX8_close_X3_turnGate
theorem dX8_close_0 : decode cX8_close 0 = .ok (.iload_n 1, 1) := by decide +kernel
theorem dX8_close_1 : decode cX8_close 1 = .ok (.invokestatic 65, 3) := by decide +kernel
theorem dX8_close_4 : decode cX8_close 4 = .ok (.aload_n 0, 1) := by decide +kernel
theorem dX8_close_5 : decode cX8_close 5 = .ok (.getfield 12, 3) := by decide +kernel
theorem dX8_close_8 : decode cX8_close 8 = .ok (.iload_n 1, 1) := by decide +kernel
theorem dX8_close_9 : decode cX8_close 9 = .ok (.invokevirtual 93, 3) := by decide +kernel
theorem dX8_close_12 : decode cX8_close 12 = .ok (.ireturn, 1) := by decide +kernel
set_option maxRecDepth 20000 in
theorem ggX8_hint_X8_requirePlace : GoodIn wsX8_hint wsX8_requirePlace := goodIn_ca (goodIn_r _ [13, 14, 15, 16, 17, 18, 19] (by decide +kernel) (by decide +kernel)) (goodIn_sub (fun _ h => List.mem_cons_of_mem _ (List.mem_append_right _ h)) (by decide +kernel))
set_option maxRecDepth 20000 in
theorem gX8_hint_X8_requirePlace : GoodIn wsX8_hint (va_wsS RX8 65 yX8_requirePlace wsX8_requirePlace) := goodIn_app (goodIn_of _ (by decide +kernel)) ggX8_hint_X8_requirePlace
set_option maxRecDepth 20000 in
theorem ggX8_hint_X2_count : GoodIn wsX8_hint wsX2_count := goodIn_r _ [24, 25, 26, 27, 28, 29, 30, 31, 181, 182, 183, 184] (by decide +kernel) (by decide +kernel)
set_option maxRecDepth 20000 in
theorem gX8_hint_X2_count : GoodIn wsX8_hint (wsV RX8 97 RX2 yX2_count wsX2_count) := goodIn_app (goodIn_of _ (by decide +kernel)) ggX8_hint_X2_count
set_option maxRecDepth 20000 in
theorem ggX8_hint_X1_init : GoodIn wsX8_hint wsX1_init := goodIn_r _ [34, 35, 36, 37, 38, 39, 40, 41, 42, 176, 177, 178, 179, 180] (by decide +kernel) (by decide +kernel)
set_option maxRecDepth 20000 in
theorem gX8_hint_X1_init : GoodIn wsX8_hint (wsX1_init) := ggX8_hint_X1_init
set_option maxRecDepth 20000 in
theorem ggX8_hint_X2_add : GoodIn wsX8_hint wsX2_add := goodIn_r _ [46, 25, 47, 48, 49, 18, 50, 51, 52, 53, 54, 8, 55, 38, 56, 57, 58, 59, 60, 39, 40, 41, 42, 61, 62, 63, 64, 65, 66, 67, 68, 69, 70, 71, 72, 73, 74, 75, 76, 77, 78, 29, 79, 80, 81, 82, 31, 83, 84, 85, 86, 87, 88, 89, 90, 91, 92, 93, 94, 95, 96, 97, 98, 99, 100, 101, 102, 103, 104, 105, 106, 107, 108, 109, 110, 111, 112, 113, 114, 115, 116, 117, 118, 119, 120, 121, 122, 123, 124, 125, 126, 127, 128, 181, 185, 186, 176, 177, 178, 179, 180, 182, 183, 184] (by decide +kernel) (by decide +kernel)
set_option maxRecDepth 20000 in
theorem gX8_hint_X2_add : GoodIn wsX8_hint (wsV RX8 108 RX2 yX2_add wsX2_add) := goodIn_app (goodIn_of _ (by decide +kernel)) ggX8_hint_X2_add
set_option maxRecDepth 20000 in
theorem ggX8_hint_X2_keptPlaces : GoodIn wsX8_hint wsX2_keptPlaces := goodIn_r _ [132, 133, 134, 135, 23, 136, 137, 25, 138, 26, 27, 28, 29, 30, 31, 139, 140, 141, 142, 143, 144, 145, 146, 147, 148, 149, 150, 151, 152, 153, 154, 82, 155, 156, 157, 8, 158, 38, 181, 182, 183, 184, 176, 177, 178, 179, 180] (by decide +kernel) (by decide +kernel)
set_option maxRecDepth 20000 in
theorem gX8_hint_X2_keptPlaces : GoodIn wsX8_hint (wsV RX8 112 RX2 yX2_keptPlaces wsX2_keptPlaces) := goodIn_app (goodIn_of _ (by decide +kernel)) ggX8_hint_X2_keptPlaces
set_option maxRecDepth 20000 in
theorem ggX8_hint_J13_bitCount_95d88 : GoodIn wsX8_hint wsJ13_bitCount_95d88 := goodIn_r _ [162, 163, 164, 165] (by decide +kernel) (by decide +kernel)
set_option maxRecDepth 20000 in
theorem gX8_hint_J13_bitCount_95d88 : GoodIn wsX8_hint (va_wsS RX8 116 yJ13_bitCount_95d88 wsJ13_bitCount_95d88) := goodIn_app (goodIn_of _ (by decide +kernel)) ggX8_hint_J13_bitCount_95d88
theorem dX8_hint_0 : decode cX8_hint 0 = .ok (.iload_n 3, 1) := by decide +kernel
theorem dX8_hint_1 : decode cX8_hint 1 = .ok (.invokestatic 65, 3) := by decide +kernel
theorem dX8_hint_4 : decode cX8_hint 4 = .ok (.iload_n 1, 1) := by decide +kernel
theorem dX8_hint_5 : decode cX8_hint 5 = .ok (.ifCond .lt 18, 3) := by decide +kernel
theorem dX8_hint_8 : decode cX8_hint 8 = .ok (.iload_n 1, 1) := by decide +kernel
theorem dX8_hint_9 : decode cX8_hint 9 = .ok (.iconst 4, 1) := by decide +kernel
theorem dX8_hint_10 : decode cX8_hint 10 = .ok (.if_icmp .gt 13, 3) := by decide +kernel
theorem dX8_hint_13 : decode cX8_hint 13 = .ok (.iload_n 2, 1) := by decide +kernel
theorem dX8_hint_14 : decode cX8_hint 14 = .ok (.ifCond .lt 9, 3) := by decide +kernel
theorem dX8_hint_17 : decode cX8_hint 17 = .ok (.iload_n 2, 1) := by decide +kernel
theorem dX8_hint_18 : decode cX8_hint 18 = .ok (.bipush 14, 2) := by decide +kernel
theorem dX8_hint_20 : decode cX8_hint 20 = .ok (.if_icmp .le 11, 3) := by decide +kernel
theorem dX8_hint_23 : decode cX8_hint 23 = .ok (.new 69, 3) := by decide +kernel
theorem dX8_hint_26 : decode cX8_hint 26 = .ok (.dup, 1) := by decide +kernel
theorem dX8_hint_27 : decode cX8_hint 27 = .ok (.invokespecial 71, 3) := by decide +kernel
theorem dX8_hint_30 : decode cX8_hint 30 = .ok (.athrow, 1) := by decide +kernel
theorem dX8_hint_31 : decode cX8_hint 31 = .ok (.aload_n 0, 1) := by decide +kernel
theorem dX8_hint_32 : decode cX8_hint 32 = .ok (.getfield 54, 3) := by decide +kernel
theorem dX8_hint_35 : decode cX8_hint 35 = .ok (.invokevirtual 97, 3) := by decide +kernel
theorem dX8_hint_38 : decode cX8_hint 38 = .ok (.iconst 5, 1) := by decide +kernel
theorem dX8_hint_39 : decode cX8_hint 39 = .ok (.if_icmp .lt 11, 3) := by decide +kernel
theorem dX8_hint_42 : decode cX8_hint 42 = .ok (.new 100, 3) := by decide +kernel
theorem dX8_hint_45 : decode cX8_hint 45 = .ok (.dup, 1) := by decide +kernel
theorem dX8_hint_46 : decode cX8_hint 46 = .ok (.invokespecial 102, 3) := by decide +kernel
theorem dX8_hint_49 : decode cX8_hint 49 = .ok (.athrow, 1) := by decide +kernel
theorem dX8_hint_50 : decode cX8_hint 50 = .ok (.aload_n 0, 1) := by decide +kernel
theorem dX8_hint_51 : decode cX8_hint 51 = .ok (.getfield 54, 3) := by decide +kernel
theorem dX8_hint_54 : decode cX8_hint 54 = .ok (.new 103, 3) := by decide +kernel
theorem dX8_hint_57 : decode cX8_hint 57 = .ok (.dup, 1) := by decide +kernel
theorem dX8_hint_58 : decode cX8_hint 58 = .ok (.iload_n 1, 1) := by decide +kernel
theorem dX8_hint_59 : decode cX8_hint 59 = .ok (.iload_n 2, 1) := by decide +kernel
theorem dX8_hint_60 : decode cX8_hint 60 = .ok (.iload_n 3, 1) := by decide +kernel
theorem dX8_hint_61 : decode cX8_hint 61 = .ok (.iload 4, 2) := by decide +kernel
theorem dX8_hint_63 : decode cX8_hint 63 = .ok (.invokespecial 105, 3) := by decide +kernel
theorem dX8_hint_66 : decode cX8_hint 66 = .ok (.aload_n 0, 1) := by decide +kernel
theorem dX8_hint_67 : decode cX8_hint 67 = .ok (.getfield 12, 3) := by decide +kernel
theorem dX8_hint_70 : decode cX8_hint 70 = .ok (.invokevirtual 108, 3) := by decide +kernel
theorem dX8_hint_73 : decode cX8_hint 73 = .ok (.aload_n 0, 1) := by decide +kernel
theorem dX8_hint_74 : decode cX8_hint 74 = .ok (.getfield 54, 3) := by decide +kernel
theorem dX8_hint_77 : decode cX8_hint 77 = .ok (.invokevirtual 112, 3) := by decide +kernel
theorem dX8_hint_80 : decode cX8_hint 80 = .ok (.invokestatic 116, 3) := by decide +kernel
theorem dX8_hint_83 : decode cX8_hint 83 = .ok (.ireturn, 1) := by decide +kernel
set_option maxRecDepth 20000 in
theorem ggX8_clearDraft_X2_count : GoodIn wsX8_clearDraft wsX2_count := goodIn_r _ [6, 7, 8, 9, 10, 11, 12, 13, 35, 36, 37, 38] (by decide +kernel) (by decide +kernel)
set_option maxRecDepth 20000 in
theorem gX8_clearDraft_X2_count : GoodIn wsX8_clearDraft (wsV RX8 97 RX2 yX2_count wsX2_count) := goodIn_app (goodIn_of _ (by decide +kernel)) ggX8_clearDraft_X2_count
set_option maxRecDepth 20000 in
theorem ggX8_clearDraft_X2_empty : GoodIn wsX8_clearDraft wsX2_empty := goodIn_r _ [17, 7, 18, 19, 20, 11, 21, 22, 23, 24, 13, 35, 36, 37, 38] (by decide +kernel) (by decide +kernel)
set_option maxRecDepth 20000 in
theorem gX8_clearDraft_X2_empty : GoodIn wsX8_clearDraft (wsV RX8 122 RX2 yX2_empty wsX2_empty) := goodIn_app (goodIn_of _ (by decide +kernel)) ggX8_clearDraft_X2_empty
theorem dX8_clearDraft_0 : decode cX8_clearDraft 0 = .ok (.aload_n 0, 1) := by decide +kernel
theorem dX8_clearDraft_1 : decode cX8_clearDraft 1 = .ok (.getfield 54, 3) := by decide +kernel
theorem dX8_clearDraft_4 : decode cX8_clearDraft 4 = .ok (.invokevirtual 97, 3) := by decide +kernel
theorem dX8_clearDraft_7 : decode cX8_clearDraft 7 = .ok (.istore_n 1, 1) := by decide +kernel
theorem dX8_clearDraft_8 : decode cX8_clearDraft 8 = .ok (.aload_n 0, 1) := by decide +kernel
theorem dX8_clearDraft_9 : decode cX8_clearDraft 9 = .ok (.getfield 54, 3) := by decide +kernel
theorem dX8_clearDraft_12 : decode cX8_clearDraft 12 = .ok (.invokevirtual 122, 3) := by decide +kernel
theorem dX8_clearDraft_15 : decode cX8_clearDraft 15 = .ok (.iload_n 1, 1) := by decide +kernel
theorem dX8_clearDraft_16 : decode cX8_clearDraft 16 = .ok (.ireturn, 1) := by decide +kernel
set_option maxRecDepth 20000 in
theorem ggX8_stage_X2_keptPlace : GoodIn wsX8_stage wsX2_keptPlace := goodIn_r _ [15, 16, 17, 18, 11, 19, 20, 21, 22, 23, 24, 25, 26, 27, 28, 29, 30, 31, 32, 33, 34, 35, 36, 37, 38, 39, 40, 41, 42, 43, 44, 45, 46, 47, 48, 49, 50, 51, 52, 53, 54, 55, 56, 57, 58, 186, 187, 188, 189, 190, 191, 192, 193, 194] (by decide +kernel) (by decide +kernel)
set_option maxRecDepth 20000 in
theorem gX8_stage_X2_keptPlace : GoodIn wsX8_stage (wsV RX8 125 RX2 yX2_keptPlace wsX2_keptPlace) := goodIn_app (goodIn_of _ (by decide +kernel)) ggX8_stage_X2_keptPlace
set_option maxRecDepth 20000 in
theorem ggX8_stage_X2_hasNeedlessHint : GoodIn wsX8_stage wsX2_hasNeedlessHint := goodIn_r _ [62, 25, 27, 28, 29, 30, 31, 32, 20, 21, 22, 11, 23, 24, 26, 33, 34, 35, 36, 37, 38, 39, 40, 41, 42, 43, 44, 45, 46, 47, 48, 49, 50, 51, 52, 53, 54, 55, 56, 57, 58, 186, 187, 188, 189, 190, 191, 192, 193, 194] (by decide +kernel) (by decide +kernel)
set_option maxRecDepth 20000 in
theorem gX8_stage_X2_hasNeedlessHint : GoodIn wsX8_stage (wsV RX8 128 RX2 yX2_hasNeedlessHint wsX2_hasNeedlessHint) := goodIn_app (goodIn_of _ (by decide +kernel)) ggX8_stage_X2_hasNeedlessHint
set_option maxRecDepth 20000 in
theorem ggX8_stage_X5_count : GoodIn wsX8_stage wsX5_count := goodIn_r _ [67, 68, 195, 196] (by decide +kernel) (by decide +kernel)
set_option maxRecDepth 20000 in
theorem gX8_stage_X5_count : GoodIn wsX8_stage (wsV RX8 132 RX5 yX5_count wsX5_count) := goodIn_app (goodIn_of _ (by decide +kernel)) ggX8_stage_X5_count
set_option maxRecDepth 20000 in
theorem ggX8_stage_Jx4a65c_size_8abf5 : GoodIn wsX8_stage wsJx4a65c_size_8abf5 := goodIn_r _ [31, 32, 187, 188, 189] (by decide +kernel) (by decide +kernel)
set_option maxRecDepth 20000 in
theorem gX8_stage_Jx4a65c_size_8abf5 : GoodIn wsX8_stage (wsV RX8 79 RJx4a65c yJx4a65c_size_8abf5 wsJx4a65c_size_8abf5) := goodIn_app (goodIn_of _ (by decide +kernel)) ggX8_stage_Jx4a65c_size_8abf5
set_option maxRecDepth 20000 in
theorem ggX8_stage_X5_copy : GoodIn wsX8_stage wsX5_copy := goodIn_r _ [73, 74, 75, 66, 68, 76, 77, 78, 79, 80, 81, 82, 83, 84, 85, 86, 87, 88, 89, 90, 91, 195, 196] (by decide +kernel) (by decide +kernel)
set_option maxRecDepth 20000 in
theorem gX8_stage_X5_copy : GoodIn wsX8_stage (wsV RX8 133 RX5 yX5_copy wsX5_copy) := goodIn_app (goodIn_of _ (by decide +kernel)) ggX8_stage_X5_copy
set_option maxRecDepth 20000 in
theorem ggX8_stage_X4_init : GoodIn wsX8_stage wsX4_init := goodIn_r _ [94, 95, 80, 81, 96, 97, 98, 99, 100, 13, 14, 11, 15, 16, 17, 18, 19, 20, 21, 22, 23, 24, 25, 26, 27, 28, 29, 30, 31, 32, 33, 34, 35, 36, 37, 38, 39, 40, 41, 42, 43, 44, 45, 46, 47, 48, 49, 50, 51, 52, 53, 54, 55, 56, 57, 58, 182, 183, 184, 185, 186, 187, 188, 189, 190, 191, 192, 193, 194] (by decide +kernel) (by decide +kernel)
set_option maxRecDepth 20000 in
theorem gX8_stage_X4_init : GoodIn wsX8_stage (wsX4_init) := ggX8_stage_X4_init
set_option maxRecDepth 20000 in
theorem ggX8_stage_Jx4a65c_add_9ea2d : GoodIn wsX8_stage wsJx4a65c_add_9ea2d := goodIn_r _ [104, 105, 106, 49, 32, 107, 108, 109, 30, 110, 111, 112, 113, 114, 115, 116, 117, 118, 119, 120, 121, 122, 123, 124, 125, 126, 127, 128, 129, 130, 131, 132, 133, 134, 135, 136, 137, 138, 139, 140, 141, 142, 143, 144, 145, 146, 147, 148, 149, 150, 151, 152, 153, 187, 188, 189] (by decide +kernel) (by decide +kernel)
set_option maxRecDepth 20000 in
theorem gX8_stage_Jx4a65c_add_9ea2d : GoodIn wsX8_stage (wsV RX8 140 RJx4a65c yJx4a65c_add_9ea2d wsJx4a65c_add_9ea2d) := goodIn_app (goodIn_of _ (by decide +kernel)) ggX8_stage_Jx4a65c_add_9ea2d
set_option maxRecDepth 20000 in
theorem ggX8_stage_X2_init : GoodIn wsX8_stage wsX2_init := goodIn_r _ [155, 156, 80, 81, 157, 158, 30, 25, 159, 160, 161, 119, 49, 162, 163, 164, 165, 166, 167, 168, 169, 170, 171, 187, 188, 189, 186] (by decide +kernel) (by decide +kernel)
set_option maxRecDepth 20000 in
theorem gX8_stage_X2_init_n53 : GoodIn wsX8_stage (wsX2_init) := ggX8_stage_X2_init
theorem dX8_stage_0 : decode cX8_stage 0 = .ok (.aload_n 0, 1) := by decide +kernel
theorem dX8_stage_1 : decode cX8_stage 1 = .ok (.getfield 54, 3) := by decide +kernel
theorem dX8_stage_4 : decode cX8_stage 4 = .ok (.invokevirtual 125, 3) := by decide +kernel
theorem dX8_stage_7 : decode cX8_stage 7 = .ok (.iconst (-1), 1) := by decide +kernel
theorem dX8_stage_8 : decode cX8_stage 8 = .ok (.if_icmp .eq 35, 3) := by decide +kernel
theorem dX8_stage_11 : decode cX8_stage 11 = .ok (.aload_n 0, 1) := by decide +kernel
theorem dX8_stage_12 : decode cX8_stage 12 = .ok (.getfield 54, 3) := by decide +kernel
theorem dX8_stage_15 : decode cX8_stage 15 = .ok (.invokevirtual 128, 3) := by decide +kernel
theorem dX8_stage_18 : decode cX8_stage 18 = .ok (.ifCond .ne 25, 3) := by decide +kernel
theorem dX8_stage_21 : decode cX8_stage 21 = .ok (.aload_n 0, 1) := by decide +kernel
theorem dX8_stage_22 : decode cX8_stage 22 = .ok (.getfield 26, 3) := by decide +kernel
theorem dX8_stage_25 : decode cX8_stage 25 = .ok (.invokevirtual 132, 3) := by decide +kernel
theorem dX8_stage_28 : decode cX8_stage 28 = .ok (.ifCond .eq 15, 3) := by decide +kernel
theorem dX8_stage_31 : decode cX8_stage 31 = .ok (.aload_n 0, 1) := by decide +kernel
theorem dX8_stage_32 : decode cX8_stage 32 = .ok (.getfield 33, 3) := by decide +kernel
theorem dX8_stage_35 : decode cX8_stage 35 = .ok (.invokevirtual 79, 3) := by decide +kernel
theorem dX8_stage_38 : decode cX8_stage 38 = .ok (.bipush 6, 2) := by decide +kernel
theorem dX8_stage_40 : decode cX8_stage 40 = .ok (.if_icmp .lt 11, 3) := by decide +kernel
theorem dX8_stage_43 : decode cX8_stage 43 = .ok (.new 100, 3) := by decide +kernel
theorem dX8_stage_46 : decode cX8_stage 46 = .ok (.dup, 1) := by decide +kernel
theorem dX8_stage_47 : decode cX8_stage 47 = .ok (.invokespecial 102, 3) := by decide +kernel
theorem dX8_stage_50 : decode cX8_stage 50 = .ok (.athrow, 1) := by decide +kernel
theorem dX8_stage_51 : decode cX8_stage 51 = .ok (.aload_n 0, 1) := by decide +kernel
theorem dX8_stage_52 : decode cX8_stage 52 = .ok (.getfield 33, 3) := by decide +kernel
theorem dX8_stage_55 : decode cX8_stage 55 = .ok (.new 87, 3) := by decide +kernel
theorem dX8_stage_58 : decode cX8_stage 58 = .ok (.dup, 1) := by decide +kernel
theorem dX8_stage_59 : decode cX8_stage 59 = .ok (.aload_n 0, 1) := by decide +kernel
theorem dX8_stage_60 : decode cX8_stage 60 = .ok (.getfield 54, 3) := by decide +kernel
theorem dX8_stage_63 : decode cX8_stage 63 = .ok (.aload_n 0, 1) := by decide +kernel
theorem dX8_stage_64 : decode cX8_stage 64 = .ok (.getfield 26, 3) := by decide +kernel
theorem dX8_stage_67 : decode cX8_stage 67 = .ok (.invokevirtual 133, 3) := by decide +kernel
theorem dX8_stage_70 : decode cX8_stage 70 = .ok (.invokespecial 137, 3) := by decide +kernel
theorem dX8_stage_73 : decode cX8_stage 73 = .ok (.invokevirtual 140, 3) := by decide +kernel
theorem dX8_stage_76 : decode cX8_stage 76 = .ok (.pop, 1) := by decide +kernel
theorem dX8_stage_77 : decode cX8_stage 77 = .ok (.aload_n 0, 1) := by decide +kernel
theorem dX8_stage_78 : decode cX8_stage 78 = .ok (.new 51, 3) := by decide +kernel
theorem dX8_stage_81 : decode cX8_stage 81 = .ok (.dup, 1) := by decide +kernel
theorem dX8_stage_82 : decode cX8_stage 82 = .ok (.invokespecial 53, 3) := by decide +kernel
theorem dX8_stage_85 : decode cX8_stage 85 = .ok (.putfield 54, 3) := by decide +kernel
theorem dX8_stage_88 : decode cX8_stage 88 = .ok (.aload_n 0, 1) := by decide +kernel
theorem dX8_stage_89 : decode cX8_stage 89 = .ok (.getfield 33, 3) := by decide +kernel
theorem dX8_stage_92 : decode cX8_stage 92 = .ok (.invokevirtual 79, 3) := by decide +kernel
theorem dX8_stage_95 : decode cX8_stage 95 = .ok (.iconst 1, 1) := by decide +kernel
theorem dX8_stage_96 : decode cX8_stage 96 = .ok (.isub, 1) := by decide +kernel
theorem dX8_stage_97 : decode cX8_stage 97 = .ok (.ireturn, 1) := by decide +kernel
set_option maxRecDepth 20000 in
theorem ggX8_fits_X8_requireStage : GoodIn wsX8_fits wsX8_requireStage := goodIn_ca (goodIn_r _ [5, 6, 7, 8, 9, 10, 11, 12, 13, 14, 15, 16, 17, 18, 19, 20, 21, 22, 23, 24, 25, 26, 27, 28, 29, 30, 31, 32, 66, 67, 68, 69, 70, 71, 72, 73, 74, 75, 76, 77, 78] (by decide +kernel) (by decide +kernel)) (goodIn_sub (fun _ h => List.mem_cons_of_mem _ (List.mem_append_right _ h)) (by decide +kernel))
set_option maxRecDepth 20000 in
theorem gX8_fits_X8_requireStage : GoodIn wsX8_fits (wsV RX8 143 RX8 yX8_requireStage wsX8_requireStage) := goodIn_app (goodIn_of _ (by decide +kernel)) ggX8_fits_X8_requireStage
set_option maxRecDepth 20000 in
theorem ggX8_fits_X4_hints : GoodIn wsX8_fits wsX4_hints := goodIn_r _ [37, 38, 79, 80, 81, 82] (by decide +kernel) (by decide +kernel)
set_option maxRecDepth 20000 in
theorem gX8_fits_X4_hints : GoodIn wsX8_fits (wsV RX8 147 RX4 yX4_hints wsX4_hints) := goodIn_app (goodIn_of _ (by decide +kernel)) ggX8_fits_X4_hints
set_option maxRecDepth 20000 in
theorem ggX8_fits_X2_keptPlaces : GoodIn wsX8_fits wsX2_keptPlaces := goodIn_r _ [43, 44, 45, 46, 42, 47, 48, 49, 50, 51, 11, 12, 13, 14, 15, 52, 17, 18, 19, 20, 21, 22, 23, 24, 25, 26, 27, 28, 29, 30, 31, 32, 53, 54, 55, 56, 57, 58, 83, 76, 77, 78, 84, 85, 86, 87, 88] (by decide +kernel) (by decide +kernel)
set_option maxRecDepth 20000 in
theorem gX8_fits_X2_keptPlaces : GoodIn wsX8_fits (wsV RX8 112 RX2 yX2_keptPlaces wsX2_keptPlaces) := goodIn_app (goodIn_of _ (by decide +kernel)) ggX8_fits_X2_keptPlaces
set_option maxRecDepth 20000 in
theorem ggX8_fits_J13_bitCount_95d88 : GoodIn wsX8_fits wsJ13_bitCount_95d88 := goodIn_r _ [62, 63, 64, 65] (by decide +kernel) (by decide +kernel)
set_option maxRecDepth 20000 in
theorem gX8_fits_J13_bitCount_95d88 : GoodIn wsX8_fits (va_wsS RX8 116 yJ13_bitCount_95d88 wsJ13_bitCount_95d88) := goodIn_app (goodIn_of _ (by decide +kernel)) ggX8_fits_J13_bitCount_95d88
theorem dX8_fits_0 : decode cX8_fits 0 = .ok (.aload_n 0, 1) := by decide +kernel
theorem dX8_fits_1 : decode cX8_fits 1 = .ok (.iload_n 1, 1) := by decide +kernel
theorem dX8_fits_2 : decode cX8_fits 2 = .ok (.invokevirtual 143, 3) := by decide +kernel
theorem dX8_fits_5 : decode cX8_fits 5 = .ok (.invokevirtual 147, 3) := by decide +kernel
theorem dX8_fits_8 : decode cX8_fits 8 = .ok (.invokevirtual 112, 3) := by decide +kernel
theorem dX8_fits_11 : decode cX8_fits 11 = .ok (.invokestatic 116, 3) := by decide +kernel
theorem dX8_fits_14 : decode cX8_fits 14 = .ok (.ireturn, 1) := by decide +kernel
set_option maxRecDepth 20000 in
theorem ggX8_placeOf_X8_requireStage : GoodIn wsX8_placeOf wsX8_requireStage := goodIn_ca (goodIn_r _ [5, 6, 7, 8, 9, 10, 11, 12, 13, 14, 15, 16, 17, 18, 19, 20, 21, 22, 23, 24, 25, 26, 27, 28, 29, 30, 31, 32, 39, 40, 41, 42, 43, 44, 45, 46, 47, 48, 49, 50, 51] (by decide +kernel) (by decide +kernel)) (goodIn_sub (fun _ h => List.mem_cons_of_mem _ (List.mem_append_right _ h)) (by decide +kernel))
set_option maxRecDepth 20000 in
theorem gX8_placeOf_X8_requireStage : GoodIn wsX8_placeOf (wsV RX8 143 RX8 yX8_requireStage wsX8_requireStage) := goodIn_app (goodIn_of _ (by decide +kernel)) ggX8_placeOf_X8_requireStage
set_option maxRecDepth 20000 in
theorem ggX8_placeOf_X4_standsAt : GoodIn wsX8_placeOf wsX4_standsAt := goodIn_r _ [37, 38, 52, 53, 54, 55] (by decide +kernel) (by decide +kernel)
set_option maxRecDepth 20000 in
theorem gX8_placeOf_X4_standsAt : GoodIn wsX8_placeOf (wsV RX8 151 RX4 yX4_standsAt wsX4_standsAt) := goodIn_app (goodIn_of _ (by decide +kernel)) ggX8_placeOf_X4_standsAt
theorem dX8_placeOf_0 : decode cX8_placeOf 0 = .ok (.aload_n 0, 1) := by decide +kernel
theorem dX8_placeOf_1 : decode cX8_placeOf 1 = .ok (.iload_n 1, 1) := by decide +kernel
theorem dX8_placeOf_2 : decode cX8_placeOf 2 = .ok (.invokevirtual 143, 3) := by decide +kernel
theorem dX8_placeOf_5 : decode cX8_placeOf 5 = .ok (.invokevirtual 151, 3) := by decide +kernel
theorem dX8_placeOf_8 : decode cX8_placeOf 8 = .ok (.ireturn, 1) := by decide +kernel
set_option maxRecDepth 20000 in
theorem ggX8_placeByAll_X8_requireStage : GoodIn wsX8_placeByAll wsX8_requireStage := goodIn_ca (goodIn_r _ [6, 7, 8, 9, 10, 11, 12, 13, 14, 15, 16, 17, 18, 19, 20, 21, 22, 23, 24, 25, 26, 27, 28, 29, 30, 31, 32, 33, 83, 84, 85, 86, 87, 88, 89, 90, 91, 92, 93, 94, 95] (by decide +kernel) (by decide +kernel)) (goodIn_sub (fun _ h => List.mem_cons_of_mem _ (List.mem_append_right _ h)) (by decide +kernel))
set_option maxRecDepth 20000 in
theorem gX8_placeByAll_X8_requireStage : GoodIn wsX8_placeByAll (wsV RX8 143 RX8 yX8_requireStage wsX8_requireStage) := goodIn_app (goodIn_of _ (by decide +kernel)) ggX8_placeByAll_X8_requireStage
set_option maxRecDepth 20000 in
theorem ggX8_placeByAll_X4_hints : GoodIn wsX8_placeByAll wsX4_hints := goodIn_r _ [38, 39, 96, 97, 98, 99] (by decide +kernel) (by decide +kernel)
set_option maxRecDepth 20000 in
theorem gX8_placeByAll_X4_hints : GoodIn wsX8_placeByAll (wsV RX8 147 RX4 yX4_hints wsX4_hints) := goodIn_app (goodIn_of _ (by decide +kernel)) ggX8_placeByAll_X4_hints
set_option maxRecDepth 20000 in
theorem ggX8_placeByAll_X2_placeAskedOf : GoodIn wsX8_placeByAll wsX2_placeAskedOf := goodIn_r _ [44, 45, 46, 47, 48, 49, 50, 51, 52, 53, 43, 54, 55, 56, 57, 12, 13, 14, 15, 16, 58, 18, 19, 20, 21, 22, 23, 24, 25, 26, 27, 28, 29, 30, 31, 32, 33, 59, 60, 61, 62, 63, 64, 65, 66, 67, 68, 69, 70, 71, 72, 73, 74, 75, 76, 77, 78, 79, 80, 81, 82, 100, 101, 102, 93, 94, 95, 103, 104, 105, 106, 107] (by decide +kernel) (by decide +kernel)
set_option maxRecDepth 20000 in
theorem gX8_placeByAll_X2_placeAskedOf : GoodIn wsX8_placeByAll (wsV RX8 154 RX2 yX2_placeAskedOf wsX2_placeAskedOf) := goodIn_app (goodIn_of _ (by decide +kernel)) ggX8_placeByAll_X2_placeAskedOf
theorem dX8_placeByAll_0 : decode cX8_placeByAll 0 = .ok (.aload_n 0, 1) := by decide +kernel
theorem dX8_placeByAll_1 : decode cX8_placeByAll 1 = .ok (.iload_n 1, 1) := by decide +kernel
theorem dX8_placeByAll_2 : decode cX8_placeByAll 2 = .ok (.invokevirtual 143, 3) := by decide +kernel
theorem dX8_placeByAll_5 : decode cX8_placeByAll 5 = .ok (.invokevirtual 147, 3) := by decide +kernel
theorem dX8_placeByAll_8 : decode cX8_placeByAll 8 = .ok (.aload_n 0, 1) := by decide +kernel
theorem dX8_placeByAll_9 : decode cX8_placeByAll 9 = .ok (.getfield 12, 3) := by decide +kernel
theorem dX8_placeByAll_12 : decode cX8_placeByAll 12 = .ok (.invokevirtual 154, 3) := by decide +kernel
theorem dX8_placeByAll_15 : decode cX8_placeByAll 15 = .ok (.ireturn, 1) := by decide +kernel
set_option maxRecDepth 20000 in
theorem ggX8_moves_X8_requireStage : GoodIn wsX8_moves wsX8_requireStage := goodIn_ca (goodIn_r _ [5, 6, 7, 8, 9, 10, 11, 12, 13, 14, 15, 16, 17, 18, 19, 20, 21, 22, 23, 24, 25, 26, 27, 28, 29, 30, 31, 32, 39, 40, 41, 42, 43, 44, 45, 46, 47, 48, 49, 50, 51] (by decide +kernel) (by decide +kernel)) (goodIn_sub (fun _ h => List.mem_cons_of_mem _ (List.mem_append_right _ h)) (by decide +kernel))
set_option maxRecDepth 20000 in
theorem gX8_moves_X8_requireStage : GoodIn wsX8_moves (wsV RX8 143 RX8 yX8_requireStage wsX8_requireStage) := goodIn_app (goodIn_of _ (by decide +kernel)) ggX8_moves_X8_requireStage
set_option maxRecDepth 20000 in
theorem ggX8_moves_X4_moveCount : GoodIn wsX8_moves wsX4_moveCount := goodIn_r _ [37, 38, 52, 53, 54, 55] (by decide +kernel) (by decide +kernel)
set_option maxRecDepth 20000 in
theorem gX8_moves_X4_moveCount : GoodIn wsX8_moves (wsV RX8 158 RX4 yX4_moveCount wsX4_moveCount) := goodIn_app (goodIn_of _ (by decide +kernel)) ggX8_moves_X4_moveCount
theorem dX8_moves_0 : decode cX8_moves 0 = .ok (.aload_n 0, 1) := by decide +kernel
theorem dX8_moves_1 : decode cX8_moves 1 = .ok (.iload_n 1, 1) := by decide +kernel
theorem dX8_moves_2 : decode cX8_moves 2 = .ok (.invokevirtual 143, 3) := by decide +kernel
theorem dX8_moves_5 : decode cX8_moves 5 = .ok (.invokevirtual 158, 3) := by decide +kernel
theorem dX8_moves_8 : decode cX8_moves 8 = .ok (.ireturn, 1) := by decide +kernel
set_option maxRecDepth 20000 in
theorem ggX8_spell_X5_count : GoodIn wsX8_spell wsX5_count := goodIn_r _ [10, 11, 38, 39] (by decide +kernel) (by decide +kernel)
set_option maxRecDepth 20000 in
theorem gX8_spell_X5_count : GoodIn wsX8_spell (wsV RX8 132 RX5 yX5_count wsX5_count) := goodIn_app (goodIn_of _ (by decide +kernel)) ggX8_spell_X5_count
set_option maxRecDepth 20000 in
theorem ggX8_spell_X5_append : GoodIn wsX8_spell wsX5_append := goodIn_r _ [15, 11, 16, 38, 39] (by decide +kernel) (by decide +kernel)
set_option maxRecDepth 20000 in
theorem gX8_spell_X5_append : GoodIn wsX8_spell (wsV RX8 164 RX5 yX5_append wsX5_append) := goodIn_app (goodIn_of _ (by decide +kernel)) ggX8_spell_X5_append
set_option maxRecDepth 20000 in
theorem ggX8_spell_X5_charCount : GoodIn wsX8_spell wsX5_charCount := goodIn_r _ [20, 11, 21, 22, 23, 9, 24, 16, 25, 26, 27, 38, 39] (by decide +kernel) (by decide +kernel)
set_option maxRecDepth 20000 in
theorem gX8_spell_X5_charCount : GoodIn wsX8_spell (wsV RX8 167 RX5 yX5_charCount wsX5_charCount) := goodIn_app (goodIn_of _ (by decide +kernel)) ggX8_spell_X5_charCount
theorem dX8_spell_0 : decode cX8_spell 0 = .ok (.iload_n 1, 1) := by decide +kernel
theorem dX8_spell_1 : decode cX8_spell 1 = .ok (.ifCond .lt 9, 3) := by decide +kernel
theorem dX8_spell_4 : decode cX8_spell 4 = .ok (.iload_n 1, 1) := by decide +kernel
theorem dX8_spell_5 : decode cX8_spell 5 = .ok (.bipush 27, 2) := by decide +kernel
theorem dX8_spell_7 : decode cX8_spell 7 = .ok (.if_icmp .lt 11, 3) := by decide +kernel
theorem dX8_spell_10 : decode cX8_spell 10 = .ok (.new 161, 3) := by decide +kernel
theorem dX8_spell_13 : decode cX8_spell 13 = .ok (.dup, 1) := by decide +kernel
theorem dX8_spell_14 : decode cX8_spell 14 = .ok (.invokespecial 163, 3) := by decide +kernel
theorem dX8_spell_17 : decode cX8_spell 17 = .ok (.athrow, 1) := by decide +kernel
theorem dX8_spell_18 : decode cX8_spell 18 = .ok (.aload_n 0, 1) := by decide +kernel
theorem dX8_spell_19 : decode cX8_spell 19 = .ok (.getfield 26, 3) := by decide +kernel
theorem dX8_spell_22 : decode cX8_spell 22 = .ok (.invokevirtual 132, 3) := by decide +kernel
theorem dX8_spell_25 : decode cX8_spell 25 = .ok (.iconst 5, 1) := by decide +kernel
theorem dX8_spell_26 : decode cX8_spell 26 = .ok (.if_icmp .lt 11, 3) := by decide +kernel
theorem dX8_spell_29 : decode cX8_spell 29 = .ok (.new 100, 3) := by decide +kernel
theorem dX8_spell_32 : decode cX8_spell 32 = .ok (.dup, 1) := by decide +kernel
theorem dX8_spell_33 : decode cX8_spell 33 = .ok (.invokespecial 102, 3) := by decide +kernel
theorem dX8_spell_36 : decode cX8_spell 36 = .ok (.athrow, 1) := by decide +kernel
theorem dX8_spell_37 : decode cX8_spell 37 = .ok (.aload_n 0, 1) := by decide +kernel
theorem dX8_spell_38 : decode cX8_spell 38 = .ok (.getfield 26, 3) := by decide +kernel
theorem dX8_spell_41 : decode cX8_spell 41 = .ok (.iload_n 1, 1) := by decide +kernel
theorem dX8_spell_42 : decode cX8_spell 42 = .ok (.invokevirtual 164, 3) := by decide +kernel
theorem dX8_spell_45 : decode cX8_spell 45 = .ok (.aload_n 0, 1) := by decide +kernel
theorem dX8_spell_46 : decode cX8_spell 46 = .ok (.getfield 26, 3) := by decide +kernel
theorem dX8_spell_49 : decode cX8_spell 49 = .ok (.invokevirtual 167, 3) := by decide +kernel
theorem dX8_spell_52 : decode cX8_spell 52 = .ok (.ireturn, 1) := by decide +kernel
set_option maxRecDepth 20000 in
theorem ggX8_clearSpelled_X5_count : GoodIn wsX8_clearSpelled wsX5_count := goodIn_r _ [6, 7, 22, 23] (by decide +kernel) (by decide +kernel)
set_option maxRecDepth 20000 in
theorem gX8_clearSpelled_X5_count : GoodIn wsX8_clearSpelled (wsV RX8 132 RX5 yX5_count wsX5_count) := goodIn_app (goodIn_of _ (by decide +kernel)) ggX8_clearSpelled_X5_count
set_option maxRecDepth 20000 in
theorem ggX8_clearSpelled_X5_empty : GoodIn wsX8_clearSpelled wsX5_empty := goodIn_r _ [11, 7, 22, 23] (by decide +kernel) (by decide +kernel)
set_option maxRecDepth 20000 in
theorem gX8_clearSpelled_X5_empty : GoodIn wsX8_clearSpelled (wsV RX8 170 RX5 yX5_empty wsX5_empty) := goodIn_app (goodIn_of _ (by decide +kernel)) ggX8_clearSpelled_X5_empty
theorem dX8_clearSpelled_0 : decode cX8_clearSpelled 0 = .ok (.aload_n 0, 1) := by decide +kernel
theorem dX8_clearSpelled_1 : decode cX8_clearSpelled 1 = .ok (.getfield 26, 3) := by decide +kernel
theorem dX8_clearSpelled_4 : decode cX8_clearSpelled 4 = .ok (.invokevirtual 132, 3) := by decide +kernel
theorem dX8_clearSpelled_7 : decode cX8_clearSpelled 7 = .ok (.istore_n 1, 1) := by decide +kernel
theorem dX8_clearSpelled_8 : decode cX8_clearSpelled 8 = .ok (.aload_n 0, 1) := by decide +kernel
theorem dX8_clearSpelled_9 : decode cX8_clearSpelled 9 = .ok (.getfield 26, 3) := by decide +kernel
theorem dX8_clearSpelled_12 : decode cX8_clearSpelled 12 = .ok (.invokevirtual 170, 3) := by decide +kernel
theorem dX8_clearSpelled_15 : decode cX8_clearSpelled 15 = .ok (.iload_n 1, 1) := by decide +kernel
theorem dX8_clearSpelled_16 : decode cX8_clearSpelled 16 = .ok (.ireturn, 1) := by decide +kernel
set_option maxRecDepth 20000 in
theorem ggX8_cipherLength_X8_requireStage : GoodIn wsX8_cipherLength wsX8_requireStage := goodIn_ca (goodIn_r _ [7, 8, 9, 10, 11, 12, 13, 14, 15, 16, 17, 18, 19, 20, 21, 22, 23, 24, 25, 26, 27, 28, 29, 30, 31, 32, 33, 34, 69, 70, 71, 72, 73, 74, 75, 76, 77, 78, 79, 80, 81] (by decide +kernel) (by decide +kernel)) (goodIn_sub (fun _ h => List.mem_cons_of_mem _ (List.mem_append_right _ h)) (by decide +kernel))
set_option maxRecDepth 20000 in
theorem gX8_cipherLength_X8_requireStage : GoodIn wsX8_cipherLength (wsV RX8 143 RX8 yX8_requireStage wsX8_requireStage) := goodIn_app (goodIn_of _ (by decide +kernel)) ggX8_cipherLength_X8_requireStage
set_option maxRecDepth 20000 in
theorem ggX8_cipherLength_X4_standsAt : GoodIn wsX8_cipherLength wsX4_standsAt := goodIn_r _ [39, 40, 82, 83, 84, 85] (by decide +kernel) (by decide +kernel)
set_option maxRecDepth 20000 in
theorem gX8_cipherLength_X4_standsAt : GoodIn wsX8_cipherLength (wsV RX8 151 RX4 yX4_standsAt wsX4_standsAt) := goodIn_app (goodIn_of _ (by decide +kernel)) ggX8_cipherLength_X4_standsAt
set_option maxRecDepth 20000 in
theorem ggX8_cipherLength_X4_cipherCount : GoodIn wsX8_cipherLength wsX4_cipherCount := goodIn_r _ [44, 45, 46, 47, 48, 49, 50, 51, 82, 83, 84, 85, 86, 87] (by decide +kernel) (by decide +kernel)
set_option maxRecDepth 20000 in
theorem gX8_cipherLength_X4_cipherCount : GoodIn wsX8_cipherLength (wsV RX8 174 RX4 yX4_cipherCount wsX4_cipherCount) := goodIn_app (goodIn_of _ (by decide +kernel)) ggX8_cipherLength_X4_cipherCount
set_option maxRecDepth 20000 in
theorem ggX8_cipherLength_X4_cipherLetter : GoodIn wsX8_cipherLength wsX4_cipherLetter := goodIn_r _ [55, 40, 45, 56, 57, 58, 38, 59, 60, 42, 43, 44, 46, 47, 48, 49, 50, 51, 61, 62, 63, 64, 65, 82, 83, 84, 85, 86, 87] (by decide +kernel) (by decide +kernel)
set_option maxRecDepth 20000 in
theorem gX8_cipherLength_X4_cipherLetter : GoodIn wsX8_cipherLength (wsV RX8 177 RX4 yX4_cipherLetter wsX4_cipherLetter) := goodIn_app (goodIn_of _ (by decide +kernel)) ggX8_cipherLength_X4_cipherLetter
set_option maxRecDepth 20000 in
theorem ggX8_cipherLength_X8_charsOf : GoodIn wsX8_cipherLength wsX8_charsOf := goodIn_r _ [68] (by decide +kernel) (by decide +kernel)
set_option maxRecDepth 20000 in
theorem gX8_cipherLength_X8_charsOf : GoodIn wsX8_cipherLength (va_wsS RX8 181 yX8_charsOf wsX8_charsOf) := goodIn_app (goodIn_of _ (by decide +kernel)) ggX8_cipherLength_X8_charsOf
theorem dX8_cipherLength_0 : decode cX8_cipherLength 0 = .ok (.aload_n 0, 1) := by decide +kernel
theorem dX8_cipherLength_1 : decode cX8_cipherLength 1 = .ok (.iload_n 1, 1) := by decide +kernel
theorem dX8_cipherLength_2 : decode cX8_cipherLength 2 = .ok (.invokevirtual 143, 3) := by decide +kernel
theorem dX8_cipherLength_5 : decode cX8_cipherLength 5 = .ok (.astore_n 2, 1) := by decide +kernel
theorem dX8_cipherLength_6 : decode cX8_cipherLength 6 = .ok (.aload_n 2, 1) := by decide +kernel
theorem dX8_cipherLength_7 : decode cX8_cipherLength 7 = .ok (.invokevirtual 151, 3) := by decide +kernel
theorem dX8_cipherLength_10 : decode cX8_cipherLength 10 = .ok (.iconst (-1), 1) := by decide +kernel
theorem dX8_cipherLength_11 : decode cX8_cipherLength 11 = .ok (.if_icmp .ne 11, 3) := by decide +kernel
theorem dX8_cipherLength_14 : decode cX8_cipherLength 14 = .ok (.new 171, 3) := by decide +kernel
theorem dX8_cipherLength_17 : decode cX8_cipherLength 17 = .ok (.dup, 1) := by decide +kernel
theorem dX8_cipherLength_18 : decode cX8_cipherLength 18 = .ok (.invokespecial 173, 3) := by decide +kernel
theorem dX8_cipherLength_21 : decode cX8_cipherLength 21 = .ok (.athrow, 1) := by decide +kernel
theorem dX8_cipherLength_22 : decode cX8_cipherLength 22 = .ok (.iconst 0, 1) := by decide +kernel
theorem dX8_cipherLength_23 : decode cX8_cipherLength 23 = .ok (.istore_n 3, 1) := by decide +kernel
theorem dX8_cipherLength_24 : decode cX8_cipherLength 24 = .ok (.iconst 0, 1) := by decide +kernel
theorem dX8_cipherLength_25 : decode cX8_cipherLength 25 = .ok (.istore 4, 2) := by decide +kernel
theorem dX8_cipherLength_27 : decode cX8_cipherLength 27 = .ok (.iload 4, 2) := by decide +kernel
theorem dX8_cipherLength_29 : decode cX8_cipherLength 29 = .ok (.aload_n 2, 1) := by decide +kernel
theorem dX8_cipherLength_30 : decode cX8_cipherLength 30 = .ok (.invokevirtual 174, 3) := by decide +kernel
theorem dX8_cipherLength_33 : decode cX8_cipherLength 33 = .ok (.if_icmp .ge 21, 3) := by decide +kernel
theorem dX8_cipherLength_36 : decode cX8_cipherLength 36 = .ok (.iload_n 3, 1) := by decide +kernel
theorem dX8_cipherLength_37 : decode cX8_cipherLength 37 = .ok (.aload_n 2, 1) := by decide +kernel
theorem dX8_cipherLength_38 : decode cX8_cipherLength 38 = .ok (.iload 4, 2) := by decide +kernel
theorem dX8_cipherLength_40 : decode cX8_cipherLength 40 = .ok (.invokevirtual 177, 3) := by decide +kernel
theorem dX8_cipherLength_43 : decode cX8_cipherLength 43 = .ok (.invokestatic 181, 3) := by decide +kernel
theorem dX8_cipherLength_46 : decode cX8_cipherLength 46 = .ok (.iadd, 1) := by decide +kernel
theorem dX8_cipherLength_47 : decode cX8_cipherLength 47 = .ok (.istore_n 3, 1) := by decide +kernel
theorem dX8_cipherLength_48 : decode cX8_cipherLength 48 = .ok (.iinc 4 1, 3) := by decide +kernel
theorem dX8_cipherLength_51 : decode cX8_cipherLength 51 = .ok (.goto (-24), 3) := by decide +kernel
theorem dX8_cipherLength_54 : decode cX8_cipherLength 54 = .ok (.iload_n 3, 1) := by decide +kernel
theorem dX8_cipherLength_55 : decode cX8_cipherLength 55 = .ok (.ireturn, 1) := by decide +kernel
set_option maxRecDepth 20000 in
theorem ggX8_cipherAt_X8_requireStage : GoodIn wsX8_cipherAt wsX8_requireStage := goodIn_ca (goodIn_r _ [7, 8, 9, 10, 11, 12, 13, 14, 15, 16, 17, 18, 19, 20, 21, 22, 23, 24, 25, 26, 27, 28, 29, 30, 31, 32, 33, 34, 74, 75, 76, 77, 78, 79, 80, 81, 82, 83, 84, 85, 86] (by decide +kernel) (by decide +kernel)) (goodIn_sub (fun _ h => List.mem_cons_of_mem _ (List.mem_append_right _ h)) (by decide +kernel))
set_option maxRecDepth 20000 in
theorem gX8_cipherAt_X8_requireStage : GoodIn wsX8_cipherAt (wsV RX8 143 RX8 yX8_requireStage wsX8_requireStage) := goodIn_app (goodIn_of _ (by decide +kernel)) ggX8_cipherAt_X8_requireStage
set_option maxRecDepth 20000 in
theorem ggX8_cipherAt_X4_standsAt : GoodIn wsX8_cipherAt wsX4_standsAt := goodIn_r _ [39, 40, 87, 88, 89, 90] (by decide +kernel) (by decide +kernel)
set_option maxRecDepth 20000 in
theorem gX8_cipherAt_X4_standsAt : GoodIn wsX8_cipherAt (wsV RX8 151 RX4 yX4_standsAt wsX4_standsAt) := goodIn_app (goodIn_of _ (by decide +kernel)) ggX8_cipherAt_X4_standsAt
set_option maxRecDepth 20000 in
theorem ggX8_cipherAt_X4_cipherCount : GoodIn wsX8_cipherAt wsX4_cipherCount := goodIn_r _ [44, 45, 46, 47, 48, 49, 50, 51, 87, 88, 89, 90, 91, 92] (by decide +kernel) (by decide +kernel)
set_option maxRecDepth 20000 in
theorem gX8_cipherAt_X4_cipherCount : GoodIn wsX8_cipherAt (wsV RX8 174 RX4 yX4_cipherCount wsX4_cipherCount) := goodIn_app (goodIn_of _ (by decide +kernel)) ggX8_cipherAt_X4_cipherCount
set_option maxRecDepth 20000 in
theorem ggX8_cipherAt_X4_cipherLetter : GoodIn wsX8_cipherAt wsX4_cipherLetter := goodIn_r _ [55, 40, 45, 56, 57, 58, 38, 59, 60, 42, 43, 44, 46, 47, 48, 49, 50, 51, 61, 62, 63, 64, 65, 87, 88, 89, 90, 91, 92] (by decide +kernel) (by decide +kernel)
set_option maxRecDepth 20000 in
theorem gX8_cipherAt_X4_cipherLetter : GoodIn wsX8_cipherAt (wsV RX8 177 RX4 yX4_cipherLetter wsX4_cipherLetter) := goodIn_app (goodIn_of _ (by decide +kernel)) ggX8_cipherAt_X4_cipherLetter
set_option maxRecDepth 20000 in
theorem ggX8_cipherAt_X8_charsOf : GoodIn wsX8_cipherAt wsX8_charsOf := goodIn_r _ [68] (by decide +kernel) (by decide +kernel)
set_option maxRecDepth 20000 in
theorem gX8_cipherAt_X8_charsOf : GoodIn wsX8_cipherAt (va_wsS RX8 181 yX8_charsOf wsX8_charsOf) := goodIn_app (goodIn_of _ (by decide +kernel)) ggX8_cipherAt_X8_charsOf
set_option maxRecDepth 20000 in
theorem ggX8_cipherAt_X8_charOf : GoodIn wsX8_cipherAt wsX8_charOf := goodIn_r _ [71, 72, 73] (by decide +kernel) (by decide +kernel)
set_option maxRecDepth 20000 in
theorem gX8_cipherAt_X8_charOf : GoodIn wsX8_cipherAt (va_wsS RX8 184 yX8_charOf wsX8_charOf) := goodIn_app (goodIn_of _ (by decide +kernel)) ggX8_cipherAt_X8_charOf
theorem dX8_cipherAt_0 : decode cX8_cipherAt 0 = .ok (.aload_n 0, 1) := by decide +kernel
theorem dX8_cipherAt_1 : decode cX8_cipherAt 1 = .ok (.iload_n 1, 1) := by decide +kernel
theorem dX8_cipherAt_2 : decode cX8_cipherAt 2 = .ok (.invokevirtual 143, 3) := by decide +kernel
theorem dX8_cipherAt_5 : decode cX8_cipherAt 5 = .ok (.astore_n 3, 1) := by decide +kernel
theorem dX8_cipherAt_6 : decode cX8_cipherAt 6 = .ok (.aload_n 3, 1) := by decide +kernel
theorem dX8_cipherAt_7 : decode cX8_cipherAt 7 = .ok (.invokevirtual 151, 3) := by decide +kernel
theorem dX8_cipherAt_10 : decode cX8_cipherAt 10 = .ok (.iconst (-1), 1) := by decide +kernel
theorem dX8_cipherAt_11 : decode cX8_cipherAt 11 = .ok (.if_icmp .eq 7, 3) := by decide +kernel
theorem dX8_cipherAt_14 : decode cX8_cipherAt 14 = .ok (.iload_n 2, 1) := by decide +kernel
theorem dX8_cipherAt_15 : decode cX8_cipherAt 15 = .ok (.ifCond .ge 11, 3) := by decide +kernel
theorem dX8_cipherAt_18 : decode cX8_cipherAt 18 = .ok (.new 171, 3) := by decide +kernel
theorem dX8_cipherAt_21 : decode cX8_cipherAt 21 = .ok (.dup, 1) := by decide +kernel
theorem dX8_cipherAt_22 : decode cX8_cipherAt 22 = .ok (.invokespecial 173, 3) := by decide +kernel
theorem dX8_cipherAt_25 : decode cX8_cipherAt 25 = .ok (.athrow, 1) := by decide +kernel
theorem dX8_cipherAt_26 : decode cX8_cipherAt 26 = .ok (.iload_n 2, 1) := by decide +kernel
theorem dX8_cipherAt_27 : decode cX8_cipherAt 27 = .ok (.istore 4, 2) := by decide +kernel
theorem dX8_cipherAt_29 : decode cX8_cipherAt 29 = .ok (.iconst 0, 1) := by decide +kernel
theorem dX8_cipherAt_30 : decode cX8_cipherAt 30 = .ok (.istore 5, 2) := by decide +kernel
theorem dX8_cipherAt_32 : decode cX8_cipherAt 32 = .ok (.iload 5, 2) := by decide +kernel
theorem dX8_cipherAt_34 : decode cX8_cipherAt 34 = .ok (.aload_n 3, 1) := by decide +kernel
theorem dX8_cipherAt_35 : decode cX8_cipherAt 35 = .ok (.invokevirtual 174, 3) := by decide +kernel
theorem dX8_cipherAt_38 : decode cX8_cipherAt 38 = .ok (.if_icmp .ge 45, 3) := by decide +kernel
theorem dX8_cipherAt_41 : decode cX8_cipherAt 41 = .ok (.aload_n 3, 1) := by decide +kernel
theorem dX8_cipherAt_42 : decode cX8_cipherAt 42 = .ok (.iload 5, 2) := by decide +kernel
theorem dX8_cipherAt_44 : decode cX8_cipherAt 44 = .ok (.invokevirtual 177, 3) := by decide +kernel
theorem dX8_cipherAt_47 : decode cX8_cipherAt 47 = .ok (.istore 6, 2) := by decide +kernel
theorem dX8_cipherAt_49 : decode cX8_cipherAt 49 = .ok (.iload 4, 2) := by decide +kernel
theorem dX8_cipherAt_51 : decode cX8_cipherAt 51 = .ok (.iload 6, 2) := by decide +kernel
theorem dX8_cipherAt_53 : decode cX8_cipherAt 53 = .ok (.invokestatic 181, 3) := by decide +kernel
theorem dX8_cipherAt_56 : decode cX8_cipherAt 56 = .ok (.if_icmp .ge 11, 3) := by decide +kernel
theorem dX8_cipherAt_59 : decode cX8_cipherAt 59 = .ok (.iload 6, 2) := by decide +kernel
theorem dX8_cipherAt_61 : decode cX8_cipherAt 61 = .ok (.iload 4, 2) := by decide +kernel
theorem dX8_cipherAt_63 : decode cX8_cipherAt 63 = .ok (.invokestatic 184, 3) := by decide +kernel
theorem dX8_cipherAt_66 : decode cX8_cipherAt 66 = .ok (.ireturn, 1) := by decide +kernel
theorem dX8_cipherAt_67 : decode cX8_cipherAt 67 = .ok (.iload 4, 2) := by decide +kernel
theorem dX8_cipherAt_69 : decode cX8_cipherAt 69 = .ok (.iload 6, 2) := by decide +kernel
theorem dX8_cipherAt_71 : decode cX8_cipherAt 71 = .ok (.invokestatic 181, 3) := by decide +kernel
theorem dX8_cipherAt_74 : decode cX8_cipherAt 74 = .ok (.isub, 1) := by decide +kernel
theorem dX8_cipherAt_75 : decode cX8_cipherAt 75 = .ok (.istore 4, 2) := by decide +kernel
theorem dX8_cipherAt_77 : decode cX8_cipherAt 77 = .ok (.iinc 5 1, 3) := by decide +kernel
theorem dX8_cipherAt_80 : decode cX8_cipherAt 80 = .ok (.goto (-48), 3) := by decide +kernel
theorem dX8_cipherAt_83 : decode cX8_cipherAt 83 = .ok (.new 171, 3) := by decide +kernel
theorem dX8_cipherAt_86 : decode cX8_cipherAt 86 = .ok (.dup, 1) := by decide +kernel
theorem dX8_cipherAt_87 : decode cX8_cipherAt 87 = .ok (.invokespecial 173, 3) := by decide +kernel
theorem dX8_cipherAt_90 : decode cX8_cipherAt 90 = .ok (.athrow, 1) := by decide +kernel
set_option maxRecDepth 20000 in
theorem ggX8_pass_Jx4a65c_size_8abf5 : GoodIn wsX8_pass wsJx4a65c_size_8abf5 := goodIn_r _ [12, 13, 155, 156, 157] (by decide +kernel) (by decide +kernel)
set_option maxRecDepth 20000 in
theorem gX8_pass_Jx4a65c_size_8abf5 : GoodIn wsX8_pass (wsV RX8 79 RJx4a65c yJx4a65c_size_8abf5 wsJx4a65c_size_8abf5) := goodIn_app (goodIn_of _ (by decide +kernel)) ggX8_pass_Jx4a65c_size_8abf5
set_option maxRecDepth 20000 in
theorem ggX8_pass_Jx4a65c_get_915e3 : GoodIn wsX8_pass wsJx4a65c_get_915e3 := goodIn_r _ [17, 13, 18, 19, 20, 21, 22, 23, 24, 25, 26, 27, 28, 11, 29, 30, 155, 156, 157] (by decide +kernel) (by decide +kernel)
set_option maxRecDepth 20000 in
theorem gX8_pass_Jx4a65c_get_915e3 : GoodIn wsX8_pass (wsV RX8 83 RJx4a65c yJx4a65c_get_915e3 wsJx4a65c_get_915e3) := goodIn_app (goodIn_of _ (by decide +kernel)) ggX8_pass_Jx4a65c_get_915e3
set_option maxRecDepth 20000 in
theorem ggX8_pass_X8_comesToGoal : GoodIn wsX8_pass wsX8_comesToGoal := goodIn_r _ [35, 36, 37, 38, 39, 40, 41, 42, 43, 44, 45, 46, 47, 48, 49, 50, 51, 52, 53, 54, 55, 56, 57, 58, 59, 60, 61, 62, 63, 64, 65, 66, 67, 68, 69, 70, 71, 72, 73, 74, 75, 76, 77, 78, 79, 80, 81, 82, 83, 84, 85, 86, 87, 88, 89, 90, 91, 92, 93, 94, 95, 96, 97, 98, 99, 100, 101, 102, 103, 104, 105, 106, 107, 108, 109, 110, 111, 112, 113, 114, 115, 116, 117, 118, 119, 34, 120, 121, 122, 123, 124, 125, 126, 127, 128, 129, 130, 131, 132, 133, 134, 135, 136, 137, 138, 139, 140, 141, 142, 143, 144, 145, 146, 147, 148, 149, 150, 151, 152, 153, 154, 158, 159, 160, 161, 162, 163, 164, 165, 166, 167, 168, 169, 170] (by decide +kernel) (by decide +kernel)
set_option maxRecDepth 20000 in
theorem gX8_pass_X8_comesToGoal : GoodIn wsX8_pass (wsV RX8 190 RX8 yX8_comesToGoal wsX8_comesToGoal) := goodIn_app (goodIn_of _ (by decide +kernel)) ggX8_pass_X8_comesToGoal
theorem dX8_pass_0 : decode cX8_pass 0 = .ok (.iload_n 1, 1) := by decide +kernel
theorem dX8_pass_1 : decode cX8_pass 1 = .ok (.iconst 1, 1) := by decide +kernel
theorem dX8_pass_2 : decode cX8_pass 2 = .ok (.if_icmp .lt 9, 3) := by decide +kernel
theorem dX8_pass_5 : decode cX8_pass 5 = .ok (.iload_n 1, 1) := by decide +kernel
theorem dX8_pass_6 : decode cX8_pass 6 = .ok (.bipush 60, 2) := by decide +kernel
theorem dX8_pass_8 : decode cX8_pass 8 = .ok (.if_icmp .le 11, 3) := by decide +kernel
theorem dX8_pass_11 : decode cX8_pass 11 = .ok (.new 69, 3) := by decide +kernel
theorem dX8_pass_14 : decode cX8_pass 14 = .ok (.dup, 1) := by decide +kernel
theorem dX8_pass_15 : decode cX8_pass 15 = .ok (.invokespecial 71, 3) := by decide +kernel
theorem dX8_pass_18 : decode cX8_pass 18 = .ok (.athrow, 1) := by decide +kernel
theorem dX8_pass_19 : decode cX8_pass 19 = .ok (.aload_n 0, 1) := by decide +kernel
theorem dX8_pass_20 : decode cX8_pass 20 = .ok (.getfield 62, 3) := by decide +kernel
theorem dX8_pass_23 : decode cX8_pass 23 = .ok (.iload_n 1, 1) := by decide +kernel
theorem dX8_pass_24 : decode cX8_pass 24 = .ok (.iadd, 1) := by decide +kernel
theorem dX8_pass_25 : decode cX8_pass 25 = .ok (.sipush 5000, 3) := by decide +kernel
theorem dX8_pass_28 : decode cX8_pass 28 = .ok (.if_icmp .le 11, 3) := by decide +kernel
theorem dX8_pass_31 : decode cX8_pass 31 = .ok (.new 100, 3) := by decide +kernel
theorem dX8_pass_34 : decode cX8_pass 34 = .ok (.dup, 1) := by decide +kernel
theorem dX8_pass_35 : decode cX8_pass 35 = .ok (.invokespecial 102, 3) := by decide +kernel
theorem dX8_pass_38 : decode cX8_pass 38 = .ok (.athrow, 1) := by decide +kernel
theorem dX8_pass_39 : decode cX8_pass 39 = .ok (.aload_n 0, 1) := by decide +kernel
theorem dX8_pass_40 : decode cX8_pass 40 = .ok (.dup, 1) := by decide +kernel
theorem dX8_pass_41 : decode cX8_pass 41 = .ok (.getfield 62, 3) := by decide +kernel
theorem dX8_pass_44 : decode cX8_pass 44 = .ok (.iload_n 1, 1) := by decide +kernel
theorem dX8_pass_45 : decode cX8_pass 45 = .ok (.iadd, 1) := by decide +kernel
theorem dX8_pass_46 : decode cX8_pass 46 = .ok (.putfield 62, 3) := by decide +kernel
theorem dX8_pass_49 : decode cX8_pass 49 = .ok (.iconst 0, 1) := by decide +kernel
theorem dX8_pass_50 : decode cX8_pass 50 = .ok (.istore_n 2, 1) := by decide +kernel
theorem dX8_pass_51 : decode cX8_pass 51 = .ok (.iconst 0, 1) := by decide +kernel
theorem dX8_pass_52 : decode cX8_pass 52 = .ok (.istore_n 3, 1) := by decide +kernel
theorem dX8_pass_53 : decode cX8_pass 53 = .ok (.iload_n 3, 1) := by decide +kernel
theorem dX8_pass_54 : decode cX8_pass 54 = .ok (.aload_n 0, 1) := by decide +kernel
theorem dX8_pass_55 : decode cX8_pass 55 = .ok (.getfield 37, 3) := by decide +kernel
theorem dX8_pass_58 : decode cX8_pass 58 = .ok (.invokevirtual 79, 3) := by decide +kernel
theorem dX8_pass_61 : decode cX8_pass 61 = .ok (.if_icmp .ge 31, 3) := by decide +kernel
theorem dX8_pass_64 : decode cX8_pass 64 = .ok (.aload_n 0, 1) := by decide +kernel
theorem dX8_pass_65 : decode cX8_pass 65 = .ok (.aload_n 0, 1) := by decide +kernel
theorem dX8_pass_66 : decode cX8_pass 66 = .ok (.getfield 37, 3) := by decide +kernel
theorem dX8_pass_69 : decode cX8_pass 69 = .ok (.iload_n 3, 1) := by decide +kernel
theorem dX8_pass_70 : decode cX8_pass 70 = .ok (.invokevirtual 83, 3) := by decide +kernel
theorem dX8_pass_73 : decode cX8_pass 73 = .ok (.checkcast 188, 3) := by decide +kernel
theorem dX8_pass_76 : decode cX8_pass 76 = .ok (.iload_n 1, 1) := by decide +kernel
theorem dX8_pass_77 : decode cX8_pass 77 = .ok (.invokevirtual 190, 3) := by decide +kernel
theorem dX8_pass_80 : decode cX8_pass 80 = .ok (.ifCond .eq 6, 3) := by decide +kernel
theorem dX8_pass_83 : decode cX8_pass 83 = .ok (.iinc 2 1, 3) := by decide +kernel
theorem dX8_pass_86 : decode cX8_pass 86 = .ok (.iinc 3 1, 3) := by decide +kernel
theorem dX8_pass_89 : decode cX8_pass 89 = .ok (.goto (-36), 3) := by decide +kernel
theorem dX8_pass_92 : decode cX8_pass 92 = .ok (.iload_n 2, 1) := by decide +kernel
theorem dX8_pass_93 : decode cX8_pass 93 = .ok (.ireturn, 1) := by decide +kernel
theorem dX8_now_0 : decode cX8_now 0 = .ok (.aload_n 0, 1) := by decide +kernel
theorem dX8_now_1 : decode cX8_now 1 = .ok (.getfield 62, 3) := by decide +kernel
theorem dX8_now_4 : decode cX8_now 4 = .ok (.ireturn, 1) := by decide +kernel
set_option maxRecDepth 20000 in
theorem ggX8_addWalker_X8_requirePlace : GoodIn wsX8_addWalker wsX8_requirePlace := goodIn_ca (goodIn_r _ [12, 13, 14, 15, 16, 17, 18] (by decide +kernel) (by decide +kernel)) (goodIn_sub (fun _ h => List.mem_cons_of_mem _ (List.mem_append_right _ h)) (by decide +kernel))
set_option maxRecDepth 20000 in
theorem gX8_addWalker_X8_requirePlace : GoodIn wsX8_addWalker (va_wsS RX8 65 yX8_requirePlace wsX8_requirePlace) := goodIn_app (goodIn_of _ (by decide +kernel)) ggX8_addWalker_X8_requirePlace
set_option maxRecDepth 20000 in
theorem ggX8_addWalker_Jx4a65c_size_8abf5 : GoodIn wsX8_addWalker wsJx4a65c_size_8abf5 := goodIn_r _ [23, 24, 115, 116, 117] (by decide +kernel) (by decide +kernel)
set_option maxRecDepth 20000 in
theorem gX8_addWalker_Jx4a65c_size_8abf5 : GoodIn wsX8_addWalker (wsV RX8 79 RJx4a65c yJx4a65c_size_8abf5 wsJx4a65c_size_8abf5) := goodIn_app (goodIn_of _ (by decide +kernel)) ggX8_addWalker_Jx4a65c_size_8abf5
set_option maxRecDepth 20000 in
theorem ggX8_addWalker_X6_init : GoodIn wsX8_addWalker wsX6_init := goodIn_r _ [27, 28, 29, 30, 31, 32, 33, 34, 35, 36, 37, 38, 39, 40, 41, 106, 107, 108, 109, 110, 111, 112, 113, 114] (by decide +kernel) (by decide +kernel)
set_option maxRecDepth 20000 in
theorem gX8_addWalker_X6_init : GoodIn wsX8_addWalker (wsX6_init) := ggX8_addWalker_X6_init
set_option maxRecDepth 20000 in
theorem ggX8_addWalker_Jx4a65c_add_9ea2d : GoodIn wsX8_addWalker wsJx4a65c_add_9ea2d := goodIn_r _ [45, 46, 47, 48, 24, 49, 50, 51, 22, 52, 53, 54, 55, 56, 57, 58, 59, 60, 61, 62, 63, 64, 65, 66, 67, 68, 69, 70, 71, 72, 73, 74, 75, 76, 77, 78, 79, 80, 81, 82, 83, 84, 85, 86, 87, 88, 89, 90, 91, 92, 93, 94, 95, 115, 116, 117] (by decide +kernel) (by decide +kernel)
set_option maxRecDepth 20000 in
theorem gX8_addWalker_Jx4a65c_add_9ea2d : GoodIn wsX8_addWalker (wsV RX8 140 RJx4a65c yJx4a65c_add_9ea2d wsJx4a65c_add_9ea2d) := goodIn_app (goodIn_of _ (by decide +kernel)) ggX8_addWalker_Jx4a65c_add_9ea2d
theorem dX8_addWalker_0 : decode cX8_addWalker 0 = .ok (.iload_n 1, 1) := by decide +kernel
theorem dX8_addWalker_1 : decode cX8_addWalker 1 = .ok (.invokestatic 65, 3) := by decide +kernel
theorem dX8_addWalker_4 : decode cX8_addWalker 4 = .ok (.iload_n 2, 1) := by decide +kernel
theorem dX8_addWalker_5 : decode cX8_addWalker 5 = .ok (.iconst 1, 1) := by decide +kernel
theorem dX8_addWalker_6 : decode cX8_addWalker 6 = .ok (.if_icmp .lt 8, 3) := by decide +kernel
theorem dX8_addWalker_9 : decode cX8_addWalker 9 = .ok (.iload_n 2, 1) := by decide +kernel
theorem dX8_addWalker_10 : decode cX8_addWalker 10 = .ok (.iconst 5, 1) := by decide +kernel
theorem dX8_addWalker_11 : decode cX8_addWalker 11 = .ok (.if_icmp .le 11, 3) := by decide +kernel
theorem dX8_addWalker_14 : decode cX8_addWalker 14 = .ok (.new 69, 3) := by decide +kernel
theorem dX8_addWalker_17 : decode cX8_addWalker 17 = .ok (.dup, 1) := by decide +kernel
theorem dX8_addWalker_18 : decode cX8_addWalker 18 = .ok (.invokespecial 71, 3) := by decide +kernel
theorem dX8_addWalker_21 : decode cX8_addWalker 21 = .ok (.athrow, 1) := by decide +kernel
theorem dX8_addWalker_22 : decode cX8_addWalker 22 = .ok (.aload_n 0, 1) := by decide +kernel
theorem dX8_addWalker_23 : decode cX8_addWalker 23 = .ok (.getfield 37, 3) := by decide +kernel
theorem dX8_addWalker_26 : decode cX8_addWalker 26 = .ok (.invokevirtual 79, 3) := by decide +kernel
theorem dX8_addWalker_29 : decode cX8_addWalker 29 = .ok (.bipush 6, 2) := by decide +kernel
theorem dX8_addWalker_31 : decode cX8_addWalker 31 = .ok (.if_icmp .lt 11, 3) := by decide +kernel
theorem dX8_addWalker_34 : decode cX8_addWalker 34 = .ok (.new 100, 3) := by decide +kernel
theorem dX8_addWalker_37 : decode cX8_addWalker 37 = .ok (.dup, 1) := by decide +kernel
theorem dX8_addWalker_38 : decode cX8_addWalker 38 = .ok (.invokespecial 102, 3) := by decide +kernel
theorem dX8_addWalker_41 : decode cX8_addWalker 41 = .ok (.athrow, 1) := by decide +kernel
theorem dX8_addWalker_42 : decode cX8_addWalker 42 = .ok (.aload_n 0, 1) := by decide +kernel
theorem dX8_addWalker_43 : decode cX8_addWalker 43 = .ok (.getfield 37, 3) := by decide +kernel
theorem dX8_addWalker_46 : decode cX8_addWalker 46 = .ok (.new 188, 3) := by decide +kernel
theorem dX8_addWalker_49 : decode cX8_addWalker 49 = .ok (.dup, 1) := by decide +kernel
theorem dX8_addWalker_50 : decode cX8_addWalker 50 = .ok (.iload_n 1, 1) := by decide +kernel
theorem dX8_addWalker_51 : decode cX8_addWalker 51 = .ok (.iload_n 2, 1) := by decide +kernel
theorem dX8_addWalker_52 : decode cX8_addWalker 52 = .ok (.invokespecial 194, 3) := by decide +kernel
theorem dX8_addWalker_55 : decode cX8_addWalker 55 = .ok (.invokevirtual 140, 3) := by decide +kernel
theorem dX8_addWalker_58 : decode cX8_addWalker 58 = .ok (.pop, 1) := by decide +kernel
theorem dX8_addWalker_59 : decode cX8_addWalker 59 = .ok (.aload_n 0, 1) := by decide +kernel
theorem dX8_addWalker_60 : decode cX8_addWalker 60 = .ok (.getfield 37, 3) := by decide +kernel
theorem dX8_addWalker_63 : decode cX8_addWalker 63 = .ok (.invokevirtual 79, 3) := by decide +kernel
theorem dX8_addWalker_66 : decode cX8_addWalker 66 = .ok (.iconst 1, 1) := by decide +kernel
theorem dX8_addWalker_67 : decode cX8_addWalker 67 = .ok (.isub, 1) := by decide +kernel
theorem dX8_addWalker_68 : decode cX8_addWalker 68 = .ok (.ireturn, 1) := by decide +kernel
set_option maxRecDepth 20000 in
theorem ggX8_send_X8_requireWalker : GoodIn wsX8_send wsX8_requireWalker := goodIn_ca (goodIn_r _ [7, 8, 9, 10, 11, 12, 13, 14, 15, 16, 17, 18, 19, 20, 21, 22, 23, 24, 25, 26, 27, 28, 29, 30, 31, 32, 33, 34, 122, 123, 124, 125, 126, 127, 128, 129, 130, 131, 132, 133, 134] (by decide +kernel) (by decide +kernel)) (goodIn_sub (fun _ h => List.mem_cons_of_mem _ (List.mem_append_right _ h)) (by decide +kernel))
set_option maxRecDepth 20000 in
theorem gX8_send_X8_requireWalker : GoodIn wsX8_send (wsV RX8 196 RX8 yX8_requireWalker wsX8_requireWalker) := goodIn_app (goodIn_of _ (by decide +kernel)) ggX8_send_X8_requireWalker
set_option maxRecDepth 20000 in
theorem ggX8_send_X8_requirePlace : GoodIn wsX8_send wsX8_requirePlace := goodIn_ca (goodIn_r _ [37, 8, 9, 38, 39, 40, 41] (by decide +kernel) (by decide +kernel)) (goodIn_sub (fun _ h => List.mem_cons_of_mem _ (List.mem_append_right _ h)) (by decide +kernel))
set_option maxRecDepth 20000 in
theorem gX8_send_X8_requirePlace : GoodIn wsX8_send (va_wsS RX8 65 yX8_requirePlace wsX8_requirePlace) := goodIn_app (goodIn_of _ (by decide +kernel)) ggX8_send_X8_requirePlace
set_option maxRecDepth 20000 in
theorem ggX8_send_X6_aimAt : GoodIn wsX8_send wsX6_aimAt := goodIn_r _ [46, 47, 48, 49, 50, 51, 45, 52, 53, 135, 136, 137, 138, 139, 140, 141, 142, 143] (by decide +kernel) (by decide +kernel)
set_option maxRecDepth 20000 in
theorem gX8_send_X6_aimAt : GoodIn wsX8_send (wsV RX8 200 RX6 yX6_aimAt wsX6_aimAt) := goodIn_app (goodIn_of _ (by decide +kernel)) ggX8_send_X6_aimAt
set_option maxRecDepth 20000 in
theorem ggX8_send_X7_measureNearestFirst : GoodIn wsX8_send wsX7_measureNearestFirst := goodIn_r _ [58, 59, 60, 61, 62, 57, 63, 64, 65, 66, 67, 68, 69, 70, 39, 40, 41, 71, 72, 73, 74, 75, 76, 77, 78, 79, 80, 81, 82, 83, 84, 85, 86, 87, 88, 89, 90, 91, 92, 93, 94, 95, 96, 97, 98, 99, 100, 101, 102, 103, 104, 105, 106, 107, 108, 109, 110, 111, 112, 113, 144, 145, 146, 147] (by decide +kernel) (by decide +kernel)
set_option maxRecDepth 20000 in
theorem gX8_send_X7_measureNearestFirst : GoodIn wsX8_send (wsV RX8 203 RX7 yX7_measureNearestFirst wsX7_measureNearestFirst) := goodIn_app (goodIn_of _ (by decide +kernel)) ggX8_send_X7_measureNearestFirst
set_option maxRecDepth 20000 in
theorem ggX8_send_X6_standsAt : GoodIn wsX8_send wsX6_standsAt := goodIn_r _ [117, 47, 135, 136, 137, 138, 139, 140, 141, 142, 143] (by decide +kernel) (by decide +kernel)
set_option maxRecDepth 20000 in
theorem gX8_send_X6_standsAt : GoodIn wsX8_send (wsV RX8 207 RX6 yX6_standsAt wsX6_standsAt) := goodIn_app (goodIn_of _ (by decide +kernel)) ggX8_send_X6_standsAt
set_option maxRecDepth 20000 in
theorem ggX8_send_X7_sumFrom : GoodIn wsX8_send wsX7_sumFrom := goodIn_r _ [121, 65, 110, 111, 112, 57, 113, 64, 70, 39, 40, 41, 144, 145] (by decide +kernel) (by decide +kernel)
set_option maxRecDepth 20000 in
theorem gX8_send_X7_sumFrom : GoodIn wsX8_send (wsV RX8 208 RX7 yX7_sumFrom wsX7_sumFrom) := goodIn_app (goodIn_of _ (by decide +kernel)) ggX8_send_X7_sumFrom
theorem dX8_send_0 : decode cX8_send 0 = .ok (.aload_n 0, 1) := by decide +kernel
theorem dX8_send_1 : decode cX8_send 1 = .ok (.iload_n 1, 1) := by decide +kernel
theorem dX8_send_2 : decode cX8_send 2 = .ok (.invokevirtual 196, 3) := by decide +kernel
theorem dX8_send_5 : decode cX8_send 5 = .ok (.astore_n 3, 1) := by decide +kernel
theorem dX8_send_6 : decode cX8_send 6 = .ok (.iload_n 2, 1) := by decide +kernel
theorem dX8_send_7 : decode cX8_send 7 = .ok (.invokestatic 65, 3) := by decide +kernel
theorem dX8_send_10 : decode cX8_send 10 = .ok (.aload_n 3, 1) := by decide +kernel
theorem dX8_send_11 : decode cX8_send 11 = .ok (.iload_n 2, 1) := by decide +kernel
theorem dX8_send_12 : decode cX8_send 12 = .ok (.invokevirtual 200, 3) := by decide +kernel
theorem dX8_send_15 : decode cX8_send 15 = .ok (.aload_n 0, 1) := by decide +kernel
theorem dX8_send_16 : decode cX8_send 16 = .ok (.getfield 19, 3) := by decide +kernel
theorem dX8_send_19 : decode cX8_send 19 = .ok (.iload_n 2, 1) := by decide +kernel
theorem dX8_send_20 : decode cX8_send 20 = .ok (.aload_n 0, 1) := by decide +kernel
theorem dX8_send_21 : decode cX8_send 21 = .ok (.getfield 12, 3) := by decide +kernel
theorem dX8_send_24 : decode cX8_send 24 = .ok (.invokevirtual 203, 3) := by decide +kernel
theorem dX8_send_27 : decode cX8_send 27 = .ok (.aload_n 0, 1) := by decide +kernel
theorem dX8_send_28 : decode cX8_send 28 = .ok (.getfield 19, 3) := by decide +kernel
theorem dX8_send_31 : decode cX8_send 31 = .ok (.aload_n 3, 1) := by decide +kernel
theorem dX8_send_32 : decode cX8_send 32 = .ok (.invokevirtual 207, 3) := by decide +kernel
theorem dX8_send_35 : decode cX8_send 35 = .ok (.invokevirtual 208, 3) := by decide +kernel
theorem dX8_send_38 : decode cX8_send 38 = .ok (.ireturn, 1) := by decide +kernel
set_option maxRecDepth 20000 in
theorem ggX8_at_X8_requireWalker : GoodIn wsX8_at wsX8_requireWalker := goodIn_ca (goodIn_r _ [5, 6, 7, 8, 9, 10, 11, 12, 13, 14, 15, 16, 17, 18, 19, 20, 21, 22, 23, 24, 25, 26, 27, 28, 29, 30, 31, 32, 39, 40, 41, 42, 43, 44, 45, 46, 47, 48, 49, 50, 51] (by decide +kernel) (by decide +kernel)) (goodIn_sub (fun _ h => List.mem_cons_of_mem _ (List.mem_append_right _ h)) (by decide +kernel))
set_option maxRecDepth 20000 in
theorem gX8_at_X8_requireWalker : GoodIn wsX8_at (wsV RX8 196 RX8 yX8_requireWalker wsX8_requireWalker) := goodIn_app (goodIn_of _ (by decide +kernel)) ggX8_at_X8_requireWalker
set_option maxRecDepth 20000 in
theorem ggX8_at_X6_standsAt : GoodIn wsX8_at wsX6_standsAt := goodIn_r _ [37, 38, 52, 53, 54, 55, 56, 57, 58, 59, 60] (by decide +kernel) (by decide +kernel)
set_option maxRecDepth 20000 in
theorem gX8_at_X6_standsAt : GoodIn wsX8_at (wsV RX8 207 RX6 yX6_standsAt wsX6_standsAt) := goodIn_app (goodIn_of _ (by decide +kernel)) ggX8_at_X6_standsAt
theorem dX8_at_0 : decode cX8_at 0 = .ok (.aload_n 0, 1) := by decide +kernel
theorem dX8_at_1 : decode cX8_at 1 = .ok (.iload_n 1, 1) := by decide +kernel
theorem dX8_at_2 : decode cX8_at 2 = .ok (.invokevirtual 196, 3) := by decide +kernel
theorem dX8_at_5 : decode cX8_at 5 = .ok (.invokevirtual 207, 3) := by decide +kernel
theorem dX8_at_8 : decode cX8_at 8 = .ok (.ireturn, 1) := by decide +kernel
set_option maxRecDepth 20000 in
theorem ggX8_rests_X8_requireWalker : GoodIn wsX8_rests wsX8_requireWalker := goodIn_ca (goodIn_r _ [5, 6, 7, 8, 9, 10, 11, 12, 13, 14, 15, 16, 17, 18, 19, 20, 21, 22, 23, 24, 25, 26, 27, 28, 29, 30, 31, 32, 44, 45, 46, 47, 48, 49, 50, 51, 52, 53, 54, 55, 56] (by decide +kernel) (by decide +kernel)) (goodIn_sub (fun _ h => List.mem_cons_of_mem _ (List.mem_append_right _ h)) (by decide +kernel))
set_option maxRecDepth 20000 in
theorem gX8_rests_X8_requireWalker : GoodIn wsX8_rests (wsV RX8 196 RX8 yX8_requireWalker wsX8_requireWalker) := goodIn_app (goodIn_of _ (by decide +kernel)) ggX8_rests_X8_requireWalker
set_option maxRecDepth 20000 in
theorem ggX8_rests_X6_isResting : GoodIn wsX8_rests wsX6_isResting := goodIn_r _ [37, 38, 39, 40, 41, 36, 42, 43, 57, 58, 59, 60, 61, 62, 63, 64, 65] (by decide +kernel) (by decide +kernel)
set_option maxRecDepth 20000 in
theorem gX8_rests_X6_isResting : GoodIn wsX8_rests (wsV RX8 211 RX6 yX6_isResting wsX6_isResting) := goodIn_app (goodIn_of _ (by decide +kernel)) ggX8_rests_X6_isResting
theorem dX8_rests_0 : decode cX8_rests 0 = .ok (.aload_n 0, 1) := by decide +kernel
theorem dX8_rests_1 : decode cX8_rests 1 = .ok (.iload_n 1, 1) := by decide +kernel
theorem dX8_rests_2 : decode cX8_rests 2 = .ok (.invokevirtual 196, 3) := by decide +kernel
theorem dX8_rests_5 : decode cX8_rests 5 = .ok (.invokevirtual 211, 3) := by decide +kernel
theorem dX8_rests_8 : decode cX8_rests 8 = .ok (.ireturn, 1) := by decide +kernel
set_option maxRecDepth 20000 in
theorem ggX8_way_X8_requirePlace : GoodIn wsX8_way wsX8_requirePlace := goodIn_ca (goodIn_r _ [6, 7, 8, 9, 10, 11, 12] (by decide +kernel) (by decide +kernel)) (goodIn_sub (fun _ h => List.mem_cons_of_mem _ (List.mem_append_right _ h)) (by decide +kernel))
set_option maxRecDepth 20000 in
theorem gX8_way_X8_requirePlace : GoodIn wsX8_way (va_wsS RX8 65 yX8_requirePlace wsX8_requirePlace) := goodIn_app (goodIn_of _ (by decide +kernel)) ggX8_way_X8_requirePlace
set_option maxRecDepth 20000 in
theorem ggX8_way_X7_measureNearestFirst : GoodIn wsX8_way wsX7_measureNearestFirst := goodIn_r _ [17, 18, 19, 20, 21, 16, 22, 23, 24, 25, 26, 27, 28, 29, 10, 11, 12, 30, 31, 32, 33, 34, 35, 36, 37, 38, 39, 40, 41, 42, 43, 44, 45, 46, 47, 48, 49, 50, 51, 52, 53, 54, 55, 56, 57, 58, 59, 60, 61, 62, 63, 64, 65, 66, 67, 68, 69, 70, 71, 72, 87, 88, 89, 90] (by decide +kernel) (by decide +kernel)
set_option maxRecDepth 20000 in
theorem gX8_way_X7_measureNearestFirst : GoodIn wsX8_way (wsV RX8 203 RX7 yX7_measureNearestFirst wsX7_measureNearestFirst) := goodIn_app (goodIn_of _ (by decide +kernel)) ggX8_way_X7_measureNearestFirst
set_option maxRecDepth 20000 in
theorem ggX8_way_X7_sumFrom : GoodIn wsX8_way wsX7_sumFrom := goodIn_r _ [76, 24, 69, 70, 71, 16, 72, 23, 29, 10, 11, 12, 87, 88] (by decide +kernel) (by decide +kernel)
set_option maxRecDepth 20000 in
theorem gX8_way_X7_sumFrom : GoodIn wsX8_way (wsV RX8 208 RX7 yX7_sumFrom wsX7_sumFrom) := goodIn_app (goodIn_of _ (by decide +kernel)) ggX8_way_X7_sumFrom
theorem dX8_way_0 : decode cX8_way 0 = .ok (.iload_n 1, 1) := by decide +kernel
theorem dX8_way_1 : decode cX8_way 1 = .ok (.invokestatic 65, 3) := by decide +kernel
theorem dX8_way_4 : decode cX8_way 4 = .ok (.iload_n 2, 1) := by decide +kernel
theorem dX8_way_5 : decode cX8_way 5 = .ok (.invokestatic 65, 3) := by decide +kernel
theorem dX8_way_8 : decode cX8_way 8 = .ok (.aload_n 0, 1) := by decide +kernel
theorem dX8_way_9 : decode cX8_way 9 = .ok (.getfield 19, 3) := by decide +kernel
theorem dX8_way_12 : decode cX8_way 12 = .ok (.iload_n 2, 1) := by decide +kernel
theorem dX8_way_13 : decode cX8_way 13 = .ok (.aload_n 0, 1) := by decide +kernel
theorem dX8_way_14 : decode cX8_way 14 = .ok (.getfield 12, 3) := by decide +kernel
theorem dX8_way_17 : decode cX8_way 17 = .ok (.invokevirtual 203, 3) := by decide +kernel
theorem dX8_way_20 : decode cX8_way 20 = .ok (.aload_n 0, 1) := by decide +kernel
theorem dX8_way_21 : decode cX8_way 21 = .ok (.getfield 19, 3) := by decide +kernel
theorem dX8_way_24 : decode cX8_way 24 = .ok (.iload_n 1, 1) := by decide +kernel
theorem dX8_way_25 : decode cX8_way 25 = .ok (.invokevirtual 208, 3) := by decide +kernel
theorem dX8_way_28 : decode cX8_way 28 = .ok (.ireturn, 1) := by decide +kernel
set_option maxRecDepth 20000 in
theorem ggX8_wayByRounds_X8_requirePlace : GoodIn wsX8_wayByRounds wsX8_requirePlace := goodIn_ca (goodIn_r _ [6, 7, 8, 9, 10, 11, 12] (by decide +kernel) (by decide +kernel)) (goodIn_sub (fun _ h => List.mem_cons_of_mem _ (List.mem_append_right _ h)) (by decide +kernel))
set_option maxRecDepth 20000 in
theorem gX8_wayByRounds_X8_requirePlace : GoodIn wsX8_wayByRounds (va_wsS RX8 65 yX8_requirePlace wsX8_requirePlace) := goodIn_app (goodIn_of _ (by decide +kernel)) ggX8_wayByRounds_X8_requirePlace
set_option maxRecDepth 20000 in
theorem ggX8_wayByRounds_X7_measureInRounds : GoodIn wsX8_wayByRounds wsX7_measureInRounds := goodIn_r _ [17, 18, 19, 20, 16, 21, 22, 23, 24, 25, 26, 27, 28, 29, 30, 31, 32, 33, 34, 11, 35, 36, 37, 38, 39, 40, 41, 42, 43, 44, 45, 46, 47, 48, 49, 50, 51, 52, 53, 54, 55, 10, 12, 56, 57, 58, 59, 60, 61, 62, 63, 64, 65, 66, 67, 68, 69, 70, 71, 72, 87, 88, 89, 90] (by decide +kernel) (by decide +kernel)
set_option maxRecDepth 20000 in
theorem gX8_wayByRounds_X7_measureInRounds : GoodIn wsX8_wayByRounds (wsV RX8 214 RX7 yX7_measureInRounds wsX7_measureInRounds) := goodIn_app (goodIn_of _ (by decide +kernel)) ggX8_wayByRounds_X7_measureInRounds
set_option maxRecDepth 20000 in
theorem ggX8_wayByRounds_X7_sumFrom : GoodIn wsX8_wayByRounds wsX7_sumFrom := goodIn_r _ [76, 23, 68, 69, 70, 16, 71, 22, 72, 10, 11, 12, 87, 88] (by decide +kernel) (by decide +kernel)
set_option maxRecDepth 20000 in
theorem gX8_wayByRounds_X7_sumFrom : GoodIn wsX8_wayByRounds (wsV RX8 208 RX7 yX7_sumFrom wsX7_sumFrom) := goodIn_app (goodIn_of _ (by decide +kernel)) ggX8_wayByRounds_X7_sumFrom
theorem dX8_wayByRounds_0 : decode cX8_wayByRounds 0 = .ok (.iload_n 1, 1) := by decide +kernel
theorem dX8_wayByRounds_1 : decode cX8_wayByRounds 1 = .ok (.invokestatic 65, 3) := by decide +kernel
theorem dX8_wayByRounds_4 : decode cX8_wayByRounds 4 = .ok (.iload_n 2, 1) := by decide +kernel
theorem dX8_wayByRounds_5 : decode cX8_wayByRounds 5 = .ok (.invokestatic 65, 3) := by decide +kernel
theorem dX8_wayByRounds_8 : decode cX8_wayByRounds 8 = .ok (.aload_n 0, 1) := by decide +kernel
theorem dX8_wayByRounds_9 : decode cX8_wayByRounds 9 = .ok (.getfield 19, 3) := by decide +kernel
theorem dX8_wayByRounds_12 : decode cX8_wayByRounds 12 = .ok (.iload_n 2, 1) := by decide +kernel
theorem dX8_wayByRounds_13 : decode cX8_wayByRounds 13 = .ok (.aload_n 0, 1) := by decide +kernel
theorem dX8_wayByRounds_14 : decode cX8_wayByRounds 14 = .ok (.getfield 12, 3) := by decide +kernel
theorem dX8_wayByRounds_17 : decode cX8_wayByRounds 17 = .ok (.invokevirtual 214, 3) := by decide +kernel
theorem dX8_wayByRounds_20 : decode cX8_wayByRounds 20 = .ok (.aload_n 0, 1) := by decide +kernel
theorem dX8_wayByRounds_21 : decode cX8_wayByRounds 21 = .ok (.getfield 19, 3) := by decide +kernel
theorem dX8_wayByRounds_24 : decode cX8_wayByRounds 24 = .ok (.iload_n 1, 1) := by decide +kernel
theorem dX8_wayByRounds_25 : decode cX8_wayByRounds 25 = .ok (.invokevirtual 208, 3) := by decide +kernel
theorem dX8_wayByRounds_28 : decode cX8_wayByRounds 28 = .ok (.ireturn, 1) := by decide +kernel
set_option maxRecDepth 20000 in
theorem ggX8_addWarden_X8_requirePlace : GoodIn wsX8_addWarden wsX8_requirePlace := goodIn_ca (goodIn_r _ [8, 9, 10, 11, 12, 13, 14] (by decide +kernel) (by decide +kernel)) (goodIn_sub (fun _ h => List.mem_cons_of_mem _ (List.mem_append_right _ h)) (by decide +kernel))
set_option maxRecDepth 20000 in
theorem gX8_addWarden_X8_requirePlace : GoodIn wsX8_addWarden (va_wsS RX8 65 yX8_requirePlace wsX8_requirePlace) := goodIn_app (goodIn_of _ (by decide +kernel)) ggX8_addWarden_X8_requirePlace
theorem dX8_addWarden_0 : decode cX8_addWarden 0 = .ok (.iload_n 1, 1) := by decide +kernel
theorem dX8_addWarden_1 : decode cX8_addWarden 1 = .ok (.invokestatic 65, 3) := by decide +kernel
theorem dX8_addWarden_4 : decode cX8_addWarden 4 = .ok (.aload_n 0, 1) := by decide +kernel
theorem dX8_addWarden_5 : decode cX8_addWarden 5 = .ok (.getfield 58, 3) := by decide +kernel
theorem dX8_addWarden_8 : decode cX8_addWarden 8 = .ok (.ifCond .lt 15, 3) := by decide +kernel
theorem dX8_addWarden_11 : decode cX8_addWarden 11 = .ok (.aload_n 0, 1) := by decide +kernel
theorem dX8_addWarden_12 : decode cX8_addWarden 12 = .ok (.getfield 58, 3) := by decide +kernel
theorem dX8_addWarden_15 : decode cX8_addWarden 15 = .ok (.aload_n 0, 1) := by decide +kernel
theorem dX8_addWarden_16 : decode cX8_addWarden 16 = .ok (.getfield 40, 3) := by decide +kernel
theorem dX8_addWarden_19 : decode cX8_addWarden 19 = .ok (.arraylength, 1) := by decide +kernel
theorem dX8_addWarden_20 : decode cX8_addWarden 20 = .ok (.if_icmp .lt 11, 3) := by decide +kernel
theorem dX8_addWarden_23 : decode cX8_addWarden 23 = .ok (.new 100, 3) := by decide +kernel
theorem dX8_addWarden_26 : decode cX8_addWarden 26 = .ok (.dup, 1) := by decide +kernel
theorem dX8_addWarden_27 : decode cX8_addWarden 27 = .ok (.invokespecial 102, 3) := by decide +kernel
theorem dX8_addWarden_30 : decode cX8_addWarden 30 = .ok (.athrow, 1) := by decide +kernel
theorem dX8_addWarden_31 : decode cX8_addWarden 31 = .ok (.aload_n 0, 1) := by decide +kernel
theorem dX8_addWarden_32 : decode cX8_addWarden 32 = .ok (.getfield 40, 3) := by decide +kernel
theorem dX8_addWarden_35 : decode cX8_addWarden 35 = .ok (.aload_n 0, 1) := by decide +kernel
theorem dX8_addWarden_36 : decode cX8_addWarden 36 = .ok (.getfield 58, 3) := by decide +kernel
theorem dX8_addWarden_39 : decode cX8_addWarden 39 = .ok (.iload_n 1, 1) := by decide +kernel
theorem dX8_addWarden_40 : decode cX8_addWarden 40 = .ok (.iastore, 1) := by decide +kernel
theorem dX8_addWarden_41 : decode cX8_addWarden 41 = .ok (.aload_n 0, 1) := by decide +kernel
theorem dX8_addWarden_42 : decode cX8_addWarden 42 = .ok (.dup, 1) := by decide +kernel
theorem dX8_addWarden_43 : decode cX8_addWarden 43 = .ok (.getfield 58, 3) := by decide +kernel
theorem dX8_addWarden_46 : decode cX8_addWarden 46 = .ok (.iconst 1, 1) := by decide +kernel
theorem dX8_addWarden_47 : decode cX8_addWarden 47 = .ok (.iadd, 1) := by decide +kernel
theorem dX8_addWarden_48 : decode cX8_addWarden 48 = .ok (.putfield 58, 3) := by decide +kernel
theorem dX8_addWarden_51 : decode cX8_addWarden 51 = .ok (.aload_n 0, 1) := by decide +kernel
theorem dX8_addWarden_52 : decode cX8_addWarden 52 = .ok (.getfield 58, 3) := by decide +kernel
theorem dX8_addWarden_55 : decode cX8_addWarden 55 = .ok (.iconst 1, 1) := by decide +kernel
theorem dX8_addWarden_56 : decode cX8_addWarden 56 = .ok (.isub, 1) := by decide +kernel
theorem dX8_addWarden_57 : decode cX8_addWarden 57 = .ok (.ireturn, 1) := by decide +kernel
set_option maxRecDepth 20000 in
theorem ggX8_sees_Jx4a65c_size_8abf5 : GoodIn wsX8_sees wsJx4a65c_size_8abf5 := goodIn_r _ [11, 12, 60, 61, 62] (by decide +kernel) (by decide +kernel)
set_option maxRecDepth 20000 in
theorem gX8_sees_Jx4a65c_size_8abf5 : GoodIn wsX8_sees (wsV RX8 79 RJx4a65c yJx4a65c_size_8abf5 wsJx4a65c_size_8abf5) := goodIn_app (goodIn_of _ (by decide +kernel)) ggX8_sees_Jx4a65c_size_8abf5
set_option maxRecDepth 20000 in
theorem ggX8_sees_Jx4a65c_get_915e3 : GoodIn wsX8_sees wsJx4a65c_get_915e3 := goodIn_r _ [16, 12, 17, 18, 19, 20, 21, 22, 23, 24, 25, 26, 27, 10, 28, 29, 60, 61, 62] (by decide +kernel) (by decide +kernel)
set_option maxRecDepth 20000 in
theorem gX8_sees_Jx4a65c_get_915e3 : GoodIn wsX8_sees (wsV RX8 83 RJx4a65c yJx4a65c_get_915e3 wsJx4a65c_get_915e3) := goodIn_app (goodIn_of _ (by decide +kernel)) ggX8_sees_Jx4a65c_get_915e3
set_option maxRecDepth 20000 in
theorem ggX8_sees_X6_standsAt : GoodIn wsX8_sees wsX6_standsAt := goodIn_r _ [34, 35, 63, 64, 65, 66, 67, 68, 69, 70, 71] (by decide +kernel) (by decide +kernel)
set_option maxRecDepth 20000 in
theorem gX8_sees_X6_standsAt : GoodIn wsX8_sees (wsV RX8 207 RX6 yX6_standsAt wsX6_standsAt) := goodIn_app (goodIn_of _ (by decide +kernel)) ggX8_sees_X6_standsAt
set_option maxRecDepth 20000 in
theorem ggX8_sees_X3_distance : GoodIn wsX8_sees wsX3_distance := goodIn_r _ [39, 40, 41, 42, 43, 44, 45, 38, 46, 47, 48, 49] (by decide +kernel) (by decide +kernel)
set_option maxRecDepth 20000 in
theorem gX8_sees_X3_distance : GoodIn wsX8_sees (va_wsS RX8 217 yX3_distance wsX3_distance) := goodIn_app (goodIn_of _ (by decide +kernel)) ggX8_sees_X3_distance
theorem dX8_sees_0 : decode cX8_sees 0 = .ok (.iload_n 1, 1) := by decide +kernel
theorem dX8_sees_1 : decode cX8_sees 1 = .ok (.ifCond .lt 20, 3) := by decide +kernel
theorem dX8_sees_4 : decode cX8_sees 4 = .ok (.iload_n 1, 1) := by decide +kernel
theorem dX8_sees_5 : decode cX8_sees 5 = .ok (.aload_n 0, 1) := by decide +kernel
theorem dX8_sees_6 : decode cX8_sees 6 = .ok (.getfield 58, 3) := by decide +kernel
theorem dX8_sees_9 : decode cX8_sees 9 = .ok (.if_icmp .ge 12, 3) := by decide +kernel
theorem dX8_sees_12 : decode cX8_sees 12 = .ok (.iload_n 1, 1) := by decide +kernel
theorem dX8_sees_13 : decode cX8_sees 13 = .ok (.aload_n 0, 1) := by decide +kernel
theorem dX8_sees_14 : decode cX8_sees 14 = .ok (.getfield 40, 3) := by decide +kernel
theorem dX8_sees_17 : decode cX8_sees 17 = .ok (.arraylength, 1) := by decide +kernel
theorem dX8_sees_18 : decode cX8_sees 18 = .ok (.if_icmp .lt 11, 3) := by decide +kernel
theorem dX8_sees_21 : decode cX8_sees 21 = .ok (.new 161, 3) := by decide +kernel
theorem dX8_sees_24 : decode cX8_sees 24 = .ok (.dup, 1) := by decide +kernel
theorem dX8_sees_25 : decode cX8_sees 25 = .ok (.invokespecial 163, 3) := by decide +kernel
theorem dX8_sees_28 : decode cX8_sees 28 = .ok (.athrow, 1) := by decide +kernel
theorem dX8_sees_29 : decode cX8_sees 29 = .ok (.iconst 0, 1) := by decide +kernel
theorem dX8_sees_30 : decode cX8_sees 30 = .ok (.istore_n 2, 1) := by decide +kernel
theorem dX8_sees_31 : decode cX8_sees 31 = .ok (.iconst 0, 1) := by decide +kernel
theorem dX8_sees_32 : decode cX8_sees 32 = .ok (.istore_n 3, 1) := by decide +kernel
theorem dX8_sees_33 : decode cX8_sees 33 = .ok (.iload_n 3, 1) := by decide +kernel
theorem dX8_sees_34 : decode cX8_sees 34 = .ok (.aload_n 0, 1) := by decide +kernel
theorem dX8_sees_35 : decode cX8_sees 35 = .ok (.getfield 37, 3) := by decide +kernel
theorem dX8_sees_38 : decode cX8_sees 38 = .ok (.invokevirtual 79, 3) := by decide +kernel
theorem dX8_sees_41 : decode cX8_sees 41 = .ok (.if_icmp .ge 42, 3) := by decide +kernel
theorem dX8_sees_44 : decode cX8_sees 44 = .ok (.aload_n 0, 1) := by decide +kernel
theorem dX8_sees_45 : decode cX8_sees 45 = .ok (.getfield 40, 3) := by decide +kernel
theorem dX8_sees_48 : decode cX8_sees 48 = .ok (.iload_n 1, 1) := by decide +kernel
theorem dX8_sees_49 : decode cX8_sees 49 = .ok (.iaload, 1) := by decide +kernel
theorem dX8_sees_50 : decode cX8_sees 50 = .ok (.aload_n 0, 1) := by decide +kernel
theorem dX8_sees_51 : decode cX8_sees 51 = .ok (.getfield 37, 3) := by decide +kernel
theorem dX8_sees_54 : decode cX8_sees 54 = .ok (.iload_n 3, 1) := by decide +kernel
theorem dX8_sees_55 : decode cX8_sees 55 = .ok (.invokevirtual 83, 3) := by decide +kernel
theorem dX8_sees_58 : decode cX8_sees 58 = .ok (.checkcast 188, 3) := by decide +kernel
theorem dX8_sees_61 : decode cX8_sees 61 = .ok (.invokevirtual 207, 3) := by decide +kernel
theorem dX8_sees_64 : decode cX8_sees 64 = .ok (.invokestatic 217, 3) := by decide +kernel
theorem dX8_sees_67 : decode cX8_sees 67 = .ok (.iconst 3, 1) := by decide +kernel
theorem dX8_sees_68 : decode cX8_sees 68 = .ok (.if_icmp .gt 9, 3) := by decide +kernel
theorem dX8_sees_71 : decode cX8_sees 71 = .ok (.iload_n 2, 1) := by decide +kernel
theorem dX8_sees_72 : decode cX8_sees 72 = .ok (.iconst 1, 1) := by decide +kernel
theorem dX8_sees_73 : decode cX8_sees 73 = .ok (.iload_n 3, 1) := by decide +kernel
theorem dX8_sees_74 : decode cX8_sees 74 = .ok (.ishl, 1) := by decide +kernel
theorem dX8_sees_75 : decode cX8_sees 75 = .ok (.ior, 1) := by decide +kernel
theorem dX8_sees_76 : decode cX8_sees 76 = .ok (.istore_n 2, 1) := by decide +kernel
theorem dX8_sees_77 : decode cX8_sees 77 = .ok (.iinc 3 1, 3) := by decide +kernel
theorem dX8_sees_80 : decode cX8_sees 80 = .ok (.goto (-47), 3) := by decide +kernel
theorem dX8_sees_83 : decode cX8_sees 83 = .ok (.iload_n 2, 1) := by decide +kernel
theorem dX8_sees_84 : decode cX8_sees 84 = .ok (.ireturn, 1) := by decide +kernel
set_option maxRecDepth 20000 in
theorem ggX8_answer_X8_requireWalker : GoodIn wsX8_answer wsX8_requireWalker := goodIn_ca (goodIn_r _ [9, 10, 11, 12, 13, 14, 15, 16, 17, 18, 19, 20, 21, 22, 23, 24, 25, 26, 27, 28, 29, 30, 31, 32, 33, 34, 35, 36, 121, 122, 123, 124, 125, 126, 127, 128, 129, 130, 131, 132, 133] (by decide +kernel) (by decide +kernel)) (goodIn_sub (fun _ h => List.mem_cons_of_mem _ (List.mem_append_right _ h)) (by decide +kernel))
set_option maxRecDepth 20000 in
theorem gX8_answer_X8_requireWalker : GoodIn wsX8_answer (wsV RX8 196 RX8 yX8_requireWalker wsX8_requireWalker) := goodIn_app (goodIn_of _ (by decide +kernel)) ggX8_answer_X8_requireWalker
set_option maxRecDepth 20000 in
theorem ggX8_answer_X8_requireStage : GoodIn wsX8_answer wsX8_requireStage := goodIn_ca (goodIn_r _ [40, 10, 11, 41, 42, 14, 15, 16, 17, 18, 19, 20, 21, 22, 23, 24, 25, 26, 27, 28, 29, 30, 31, 32, 33, 34, 35, 36, 121, 122, 123, 124, 125, 126, 127, 128, 129, 130, 131, 132, 133] (by decide +kernel) (by decide +kernel)) (goodIn_sub (fun _ h => List.mem_cons_of_mem _ (List.mem_append_right _ h)) (by decide +kernel))
set_option maxRecDepth 20000 in
theorem gX8_answer_X8_requireStage : GoodIn wsX8_answer (wsV RX8 143 RX8 yX8_requireStage wsX8_requireStage) := goodIn_app (goodIn_of _ (by decide +kernel)) ggX8_answer_X8_requireStage
set_option maxRecDepth 20000 in
theorem ggX8_answer_X6_isResting : GoodIn wsX8_answer wsX6_isResting := goodIn_r _ [47, 48, 49, 50, 51, 46, 52, 53, 134, 135, 136, 137, 138, 139, 140, 141, 142] (by decide +kernel) (by decide +kernel)
set_option maxRecDepth 20000 in
theorem gX8_answer_X6_isResting : GoodIn wsX8_answer (wsV RX8 211 RX6 yX6_isResting wsX6_isResting) := goodIn_app (goodIn_of _ (by decide +kernel)) ggX8_answer_X6_isResting
set_option maxRecDepth 20000 in
theorem ggX8_answer_X6_standsAt : GoodIn wsX8_answer wsX6_standsAt := goodIn_r _ [57, 58, 134, 135, 136, 137, 138, 139, 140, 141, 142] (by decide +kernel) (by decide +kernel)
set_option maxRecDepth 20000 in
theorem gX8_answer_X6_standsAt : GoodIn wsX8_answer (wsV RX8 207 RX6 yX6_standsAt wsX6_standsAt) := goodIn_app (goodIn_of _ (by decide +kernel)) ggX8_answer_X6_standsAt
set_option maxRecDepth 20000 in
theorem ggX8_answer_X4_standsAt : GoodIn wsX8_answer wsX4_standsAt := goodIn_r _ [63, 64, 143, 144, 145, 146] (by decide +kernel) (by decide +kernel)
set_option maxRecDepth 20000 in
theorem gX8_answer_X4_standsAt : GoodIn wsX8_answer (wsV RX8 151 RX4 yX4_standsAt wsX4_standsAt) := goodIn_app (goodIn_of _ (by decide +kernel)) ggX8_answer_X4_standsAt
set_option maxRecDepth 20000 in
theorem ggX8_answer_X6_solvedCount : GoodIn wsX8_answer wsX6_solvedCount := goodIn_r _ [68, 69, 134, 135, 136, 137, 138, 139, 140, 141, 142] (by decide +kernel) (by decide +kernel)
set_option maxRecDepth 20000 in
theorem gX8_answer_X6_solvedCount : GoodIn wsX8_answer (wsV RX8 221 RX6 yX6_solvedCount wsX6_solvedCount) := goodIn_app (goodIn_of _ (by decide +kernel)) ggX8_answer_X6_solvedCount
set_option maxRecDepth 20000 in
theorem ggX8_answer_X4_word : GoodIn wsX8_answer wsX4_word := goodIn_r _ [73, 74, 143, 144, 145, 146] (by decide +kernel) (by decide +kernel)
set_option maxRecDepth 20000 in
theorem gX8_answer_X4_word : GoodIn wsX8_answer (wsV RX8 224 RX4 yX4_word wsX4_word) := goodIn_app (goodIn_of _ (by decide +kernel)) ggX8_answer_X4_word
set_option maxRecDepth 20000 in
theorem ggX8_answer_X5_isSameAs : GoodIn wsX8_answer wsX5_isSameAs := goodIn_r _ [79, 80, 81, 82, 83, 78, 84, 85, 147, 148] (by decide +kernel) (by decide +kernel)
set_option maxRecDepth 20000 in
theorem gX8_answer_X5_isSameAs : GoodIn wsX8_answer (wsV RX8 227 RX5 yX5_isSameAs wsX5_isSameAs) := goodIn_app (goodIn_of _ (by decide +kernel)) ggX8_answer_X5_isSameAs
set_option maxRecDepth 20000 in
theorem ggX8_answer_X6_solve : GoodIn wsX8_answer wsX6_solve := goodIn_r _ [89, 69, 90, 91, 92, 93, 46, 94, 95, 96, 97, 98, 99, 100, 101, 8, 102, 103, 104, 105, 106, 134, 135, 136, 137, 138, 139, 140, 141, 142] (by decide +kernel) (by decide +kernel)
set_option maxRecDepth 20000 in
theorem gX8_answer_X6_solve : GoodIn wsX8_answer (wsV RX8 231 RX6 yX6_solve wsX6_solve) := goodIn_app (goodIn_of _ (by decide +kernel)) ggX8_answer_X6_solve
set_option maxRecDepth 20000 in
theorem ggX8_answer_X6_countWrong : GoodIn wsX8_answer wsX6_countWrong := goodIn_r _ [110, 95, 134, 135, 136, 137, 138, 139, 140, 141, 142] (by decide +kernel) (by decide +kernel)
set_option maxRecDepth 20000 in
theorem gX8_answer_X6_countWrong : GoodIn wsX8_answer (wsV RX8 234 RX6 yX6_countWrong wsX6_countWrong) := goodIn_app (goodIn_of _ (by decide +kernel)) ggX8_answer_X6_countWrong
set_option maxRecDepth 20000 in
theorem ggX8_answer_X0_write : GoodIn wsX8_answer wsX0_write := goodIn_r _ [115, 116, 117, 118, 119, 114, 120, 149, 150] (by decide +kernel) (by decide +kernel)
set_option maxRecDepth 20000 in
theorem gX8_answer_X0_write : GoodIn wsX8_answer (wsV RX8 237 RX0 yX0_write wsX0_write) := goodIn_app (goodIn_of _ (by decide +kernel)) ggX8_answer_X0_write
theorem dX8_answer_0 : decode cX8_answer 0 = .ok (.aload_n 0, 1) := by decide +kernel
theorem dX8_answer_1 : decode cX8_answer 1 = .ok (.iload_n 1, 1) := by decide +kernel
theorem dX8_answer_2 : decode cX8_answer 2 = .ok (.invokevirtual 196, 3) := by decide +kernel
theorem dX8_answer_5 : decode cX8_answer 5 = .ok (.astore_n 3, 1) := by decide +kernel
theorem dX8_answer_6 : decode cX8_answer 6 = .ok (.aload_n 0, 1) := by decide +kernel
theorem dX8_answer_7 : decode cX8_answer 7 = .ok (.iload_n 2, 1) := by decide +kernel
theorem dX8_answer_8 : decode cX8_answer 8 = .ok (.invokevirtual 143, 3) := by decide +kernel
theorem dX8_answer_11 : decode cX8_answer 11 = .ok (.astore 4, 2) := by decide +kernel
theorem dX8_answer_13 : decode cX8_answer 13 = .ok (.aload_n 3, 1) := by decide +kernel
theorem dX8_answer_14 : decode cX8_answer 14 = .ok (.invokevirtual 211, 3) := by decide +kernel
theorem dX8_answer_17 : decode cX8_answer 17 = .ok (.ifCond .eq 23, 3) := by decide +kernel
