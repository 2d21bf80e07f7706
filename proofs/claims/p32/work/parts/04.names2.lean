theorem dX5_init_8 : decode cX5_init 8 = .ok (.putfield 9, 3) := by decide +kernel
theorem dX5_init_11 : decode cX5_init 11 = .ok (.aload_n 0, 1) := by decide +kernel
theorem dX5_init_12 : decode cX5_init 12 = .ok (.iconst 0, 1) := by decide +kernel
theorem dX5_init_13 : decode cX5_init 13 = .ok (.putfield 15, 3) := by decide +kernel
theorem dX5_init_16 : decode cX5_init 16 = .ok (.return_, 1) := by decide +kernel
theorem dX5_count_0 : decode cX5_count 0 = .ok (.aload_n 0, 1) := by decide +kernel
theorem dX5_count_1 : decode cX5_count 1 = .ok (.getfield 15, 3) := by decide +kernel
theorem dX5_count_4 : decode cX5_count 4 = .ok (.ireturn, 1) := by decide +kernel
theorem dX5_empty_0 : decode cX5_empty 0 = .ok (.aload_n 0, 1) := by decide +kernel
theorem dX5_empty_1 : decode cX5_empty 1 = .ok (.iconst 0, 1) := by decide +kernel
theorem dX5_empty_2 : decode cX5_empty 2 = .ok (.putfield 15, 3) := by decide +kernel
theorem dX5_empty_5 : decode cX5_empty 5 = .ok (.return_, 1) := by decide +kernel
theorem dX5_append_0 : decode cX5_append 0 = .ok (.aload_n 0, 1) := by decide +kernel
theorem dX5_append_1 : decode cX5_append 1 = .ok (.getfield 15, 3) := by decide +kernel
theorem dX5_append_4 : decode cX5_append 4 = .ok (.ifCond .lt 35, 3) := by decide +kernel
theorem dX5_append_7 : decode cX5_append 7 = .ok (.aload_n 0, 1) := by decide +kernel
theorem dX5_append_8 : decode cX5_append 8 = .ok (.getfield 15, 3) := by decide +kernel
theorem dX5_append_11 : decode cX5_append 11 = .ok (.aload_n 0, 1) := by decide +kernel
theorem dX5_append_12 : decode cX5_append 12 = .ok (.getfield 9, 3) := by decide +kernel
theorem dX5_append_15 : decode cX5_append 15 = .ok (.arraylength, 1) := by decide +kernel
theorem dX5_append_16 : decode cX5_append 16 = .ok (.if_icmp .ge 23, 3) := by decide +kernel
theorem dX5_append_19 : decode cX5_append 19 = .ok (.aload_n 0, 1) := by decide +kernel
theorem dX5_append_20 : decode cX5_append 20 = .ok (.getfield 9, 3) := by decide +kernel
theorem dX5_append_23 : decode cX5_append 23 = .ok (.aload_n 0, 1) := by decide +kernel
theorem dX5_append_24 : decode cX5_append 24 = .ok (.getfield 15, 3) := by decide +kernel
theorem dX5_append_27 : decode cX5_append 27 = .ok (.iload_n 1, 1) := by decide +kernel
theorem dX5_append_28 : decode cX5_append 28 = .ok (.iastore, 1) := by decide +kernel
theorem dX5_append_29 : decode cX5_append 29 = .ok (.aload_n 0, 1) := by decide +kernel
theorem dX5_append_30 : decode cX5_append 30 = .ok (.dup, 1) := by decide +kernel
theorem dX5_append_31 : decode cX5_append 31 = .ok (.getfield 15, 3) := by decide +kernel
theorem dX5_append_34 : decode cX5_append 34 = .ok (.iconst 1, 1) := by decide +kernel
theorem dX5_append_35 : decode cX5_append 35 = .ok (.iadd, 1) := by decide +kernel
theorem dX5_append_36 : decode cX5_append 36 = .ok (.putfield 15, 3) := by decide +kernel
theorem dX5_append_39 : decode cX5_append 39 = .ok (.return_, 1) := by decide +kernel
theorem dX5_letterAt_0 : decode cX5_letterAt 0 = .ok (.iload_n 1, 1) := by decide +kernel
theorem dX5_letterAt_1 : decode cX5_letterAt 1 = .ok (.ifCond .lt 29, 3) := by decide +kernel
theorem dX5_letterAt_4 : decode cX5_letterAt 4 = .ok (.iload_n 1, 1) := by decide +kernel
theorem dX5_letterAt_5 : decode cX5_letterAt 5 = .ok (.aload_n 0, 1) := by decide +kernel
theorem dX5_letterAt_6 : decode cX5_letterAt 6 = .ok (.getfield 15, 3) := by decide +kernel
theorem dX5_letterAt_9 : decode cX5_letterAt 9 = .ok (.if_icmp .ge 21, 3) := by decide +kernel
theorem dX5_letterAt_12 : decode cX5_letterAt 12 = .ok (.iload_n 1, 1) := by decide +kernel
theorem dX5_letterAt_13 : decode cX5_letterAt 13 = .ok (.aload_n 0, 1) := by decide +kernel
theorem dX5_letterAt_14 : decode cX5_letterAt 14 = .ok (.getfield 9, 3) := by decide +kernel
theorem dX5_letterAt_17 : decode cX5_letterAt 17 = .ok (.arraylength, 1) := by decide +kernel
theorem dX5_letterAt_18 : decode cX5_letterAt 18 = .ok (.if_icmp .ge 12, 3) := by decide +kernel
theorem dX5_letterAt_21 : decode cX5_letterAt 21 = .ok (.aload_n 0, 1) := by decide +kernel
theorem dX5_letterAt_22 : decode cX5_letterAt 22 = .ok (.getfield 9, 3) := by decide +kernel
theorem dX5_letterAt_25 : decode cX5_letterAt 25 = .ok (.iload_n 1, 1) := by decide +kernel
theorem dX5_letterAt_26 : decode cX5_letterAt 26 = .ok (.iaload, 1) := by decide +kernel
theorem dX5_letterAt_27 : decode cX5_letterAt 27 = .ok (.goto 4, 3) := by decide +kernel
theorem dX5_letterAt_30 : decode cX5_letterAt 30 = .ok (.iconst 0, 1) := by decide +kernel
theorem dX5_letterAt_31 : decode cX5_letterAt 31 = .ok (.ireturn, 1) := by decide +kernel
set_option maxRecDepth 20000 in
theorem ggX5_charCount_X5_letterAt : GoodIn wsX5_charCount wsX5_letterAt := goodIn_r _ [6, 1, 7, 11, 12] (by decide +kernel) (by decide +kernel)
set_option maxRecDepth 20000 in
theorem gX5_charCount_X5_letterAt : GoodIn wsX5_charCount (wsV RX5 19 RX5 yX5_letterAt wsX5_letterAt) := goodIn_app (goodIn_of _ (by decide +kernel)) ggX5_charCount_X5_letterAt
set_option maxRecDepth 20000 in
theorem ggX5_charCount_X8_charsOf : GoodIn wsX5_charCount wsX8_charsOf := goodIn_r _ [10] (by decide +kernel) (by decide +kernel)
set_option maxRecDepth 20000 in
theorem gX5_charCount_X8_charsOf_n23 : GoodIn wsX5_charCount (wsX8_charsOf) := ggX5_charCount_X8_charsOf
theorem dX5_charCount_0 : decode cX5_charCount 0 = .ok (.iconst 0, 1) := by decide +kernel
theorem dX5_charCount_1 : decode cX5_charCount 1 = .ok (.istore_n 1, 1) := by decide +kernel
theorem dX5_charCount_2 : decode cX5_charCount 2 = .ok (.iconst 0, 1) := by decide +kernel
theorem dX5_charCount_3 : decode cX5_charCount 3 = .ok (.istore_n 2, 1) := by decide +kernel
theorem dX5_charCount_4 : decode cX5_charCount 4 = .ok (.iload_n 2, 1) := by decide +kernel
theorem dX5_charCount_5 : decode cX5_charCount 5 = .ok (.aload_n 0, 1) := by decide +kernel
theorem dX5_charCount_6 : decode cX5_charCount 6 = .ok (.getfield 15, 3) := by decide +kernel
theorem dX5_charCount_9 : decode cX5_charCount 9 = .ok (.if_icmp .ge 20, 3) := by decide +kernel
theorem dX5_charCount_12 : decode cX5_charCount 12 = .ok (.iload_n 1, 1) := by decide +kernel
theorem dX5_charCount_13 : decode cX5_charCount 13 = .ok (.aload_n 0, 1) := by decide +kernel
theorem dX5_charCount_14 : decode cX5_charCount 14 = .ok (.iload_n 2, 1) := by decide +kernel
theorem dX5_charCount_15 : decode cX5_charCount 15 = .ok (.invokevirtual 19, 3) := by decide +kernel
theorem dX5_charCount_18 : decode cX5_charCount 18 = .ok (.invokestatic 23, 3) := by decide +kernel
theorem dX5_charCount_21 : decode cX5_charCount 21 = .ok (.iadd, 1) := by decide +kernel
theorem dX5_charCount_22 : decode cX5_charCount 22 = .ok (.istore_n 1, 1) := by decide +kernel
theorem dX5_charCount_23 : decode cX5_charCount 23 = .ok (.iinc 2 1, 3) := by decide +kernel
theorem dX5_charCount_26 : decode cX5_charCount 26 = .ok (.goto (-22), 3) := by decide +kernel
theorem dX5_charCount_29 : decode cX5_charCount 29 = .ok (.iload_n 1, 1) := by decide +kernel
theorem dX5_charCount_30 : decode cX5_charCount 30 = .ok (.ireturn, 1) := by decide +kernel
set_option maxRecDepth 20000 in
theorem ggX5_isSameAs_X5_letterAt : GoodIn wsX5_isSameAs wsX5_letterAt := goodIn_r _ [6, 1, 7, 8, 9] (by decide +kernel) (by decide +kernel)
set_option maxRecDepth 20000 in
theorem gX5_isSameAs_X5_letterAt : GoodIn wsX5_isSameAs (wsV RX5 19 RX5 yX5_letterAt wsX5_letterAt) := goodIn_app (goodIn_of _ (by decide +kernel)) ggX5_isSameAs_X5_letterAt
theorem dX5_isSameAs_0 : decode cX5_isSameAs 0 = .ok (.aload_n 0, 1) := by decide +kernel
theorem dX5_isSameAs_1 : decode cX5_isSameAs 1 = .ok (.getfield 15, 3) := by decide +kernel
theorem dX5_isSameAs_4 : decode cX5_isSameAs 4 = .ok (.aload_n 1, 1) := by decide +kernel
theorem dX5_isSameAs_5 : decode cX5_isSameAs 5 = .ok (.getfield 15, 3) := by decide +kernel
theorem dX5_isSameAs_8 : decode cX5_isSameAs 8 = .ok (.if_icmp .eq 5, 3) := by decide +kernel
theorem dX5_isSameAs_11 : decode cX5_isSameAs 11 = .ok (.iconst 0, 1) := by decide +kernel
theorem dX5_isSameAs_12 : decode cX5_isSameAs 12 = .ok (.ireturn, 1) := by decide +kernel
theorem dX5_isSameAs_13 : decode cX5_isSameAs 13 = .ok (.iconst 0, 1) := by decide +kernel
theorem dX5_isSameAs_14 : decode cX5_isSameAs 14 = .ok (.istore_n 2, 1) := by decide +kernel
theorem dX5_isSameAs_15 : decode cX5_isSameAs 15 = .ok (.iload_n 2, 1) := by decide +kernel
theorem dX5_isSameAs_16 : decode cX5_isSameAs 16 = .ok (.aload_n 0, 1) := by decide +kernel
theorem dX5_isSameAs_17 : decode cX5_isSameAs 17 = .ok (.getfield 15, 3) := by decide +kernel
theorem dX5_isSameAs_20 : decode cX5_isSameAs 20 = .ok (.if_icmp .ge 24, 3) := by decide +kernel
theorem dX5_isSameAs_23 : decode cX5_isSameAs 23 = .ok (.aload_n 0, 1) := by decide +kernel
theorem dX5_isSameAs_24 : decode cX5_isSameAs 24 = .ok (.iload_n 2, 1) := by decide +kernel
theorem dX5_isSameAs_25 : decode cX5_isSameAs 25 = .ok (.invokevirtual 19, 3) := by decide +kernel
theorem dX5_isSameAs_28 : decode cX5_isSameAs 28 = .ok (.aload_n 1, 1) := by decide +kernel
theorem dX5_isSameAs_29 : decode cX5_isSameAs 29 = .ok (.iload_n 2, 1) := by decide +kernel
theorem dX5_isSameAs_30 : decode cX5_isSameAs 30 = .ok (.invokevirtual 19, 3) := by decide +kernel
theorem dX5_isSameAs_33 : decode cX5_isSameAs 33 = .ok (.if_icmp .eq 5, 3) := by decide +kernel
theorem dX5_isSameAs_36 : decode cX5_isSameAs 36 = .ok (.iconst 0, 1) := by decide +kernel
theorem dX5_isSameAs_37 : decode cX5_isSameAs 37 = .ok (.ireturn, 1) := by decide +kernel
theorem dX5_isSameAs_38 : decode cX5_isSameAs 38 = .ok (.iinc 2 1, 3) := by decide +kernel
theorem dX5_isSameAs_41 : decode cX5_isSameAs 41 = .ok (.goto (-26), 3) := by decide +kernel
theorem dX5_isSameAs_44 : decode cX5_isSameAs 44 = .ok (.iconst 1, 1) := by decide +kernel
theorem dX5_isSameAs_45 : decode cX5_isSameAs 45 = .ok (.ireturn, 1) := by decide +kernel
set_option maxRecDepth 20000 in
theorem ggX5_copy_X5_init : GoodIn wsX5_copy wsX5_init := goodIn_r _ [7, 8, 9, 10, 11, 12, 4, 21, 22] (by decide +kernel) (by decide +kernel)
set_option maxRecDepth 20000 in
theorem gX5_copy_X5_init : GoodIn wsX5_copy (wsX5_init) := ggX5_copy_X5_init
set_option maxRecDepth 20000 in
theorem ggX5_copy_X5_letterAt : GoodIn wsX5_copy wsX5_letterAt := goodIn_r _ [16, 4, 12, 21, 22] (by decide +kernel) (by decide +kernel)
set_option maxRecDepth 20000 in
theorem gX5_copy_X5_letterAt : GoodIn wsX5_copy (wsV RX5 19 RX5 yX5_letterAt wsX5_letterAt) := goodIn_app (goodIn_of _ (by decide +kernel)) ggX5_copy_X5_letterAt
set_option maxRecDepth 20000 in
theorem ggX5_copy_X5_append : GoodIn wsX5_copy wsX5_append := goodIn_r _ [20, 4, 12, 21, 22] (by decide +kernel) (by decide +kernel)
set_option maxRecDepth 20000 in
theorem gX5_copy_X5_append : GoodIn wsX5_copy (wsV RX5 27 RX5 yX5_append wsX5_append) := goodIn_app (goodIn_of _ (by decide +kernel)) ggX5_copy_X5_append
theorem dX5_copy_0 : decode cX5_copy 0 = .ok (.new 10, 3) := by decide +kernel
theorem dX5_copy_3 : decode cX5_copy 3 = .ok (.dup, 1) := by decide +kernel
theorem dX5_copy_4 : decode cX5_copy 4 = .ok (.invokespecial 26, 3) := by decide +kernel
theorem dX5_copy_7 : decode cX5_copy 7 = .ok (.astore_n 1, 1) := by decide +kernel
theorem dX5_copy_8 : decode cX5_copy 8 = .ok (.iconst 0, 1) := by decide +kernel
theorem dX5_copy_9 : decode cX5_copy 9 = .ok (.istore_n 2, 1) := by decide +kernel
theorem dX5_copy_10 : decode cX5_copy 10 = .ok (.iload_n 2, 1) := by decide +kernel
theorem dX5_copy_11 : decode cX5_copy 11 = .ok (.aload_n 0, 1) := by decide +kernel
theorem dX5_copy_12 : decode cX5_copy 12 = .ok (.getfield 15, 3) := by decide +kernel
theorem dX5_copy_15 : decode cX5_copy 15 = .ok (.if_icmp .ge 18, 3) := by decide +kernel
theorem dX5_copy_18 : decode cX5_copy 18 = .ok (.aload_n 1, 1) := by decide +kernel
theorem dX5_copy_19 : decode cX5_copy 19 = .ok (.aload_n 0, 1) := by decide +kernel
theorem dX5_copy_20 : decode cX5_copy 20 = .ok (.iload_n 2, 1) := by decide +kernel
theorem dX5_copy_21 : decode cX5_copy 21 = .ok (.invokevirtual 19, 3) := by decide +kernel
theorem dX5_copy_24 : decode cX5_copy 24 = .ok (.invokevirtual 27, 3) := by decide +kernel
theorem dX5_copy_27 : decode cX5_copy 27 = .ok (.iinc 2 1, 3) := by decide +kernel
theorem dX5_copy_30 : decode cX5_copy 30 = .ok (.goto (-20), 3) := by decide +kernel
theorem dX5_copy_33 : decode cX5_copy 33 = .ok (.aload_n 1, 1) := by decide +kernel
theorem dX5_copy_34 : decode cX5_copy 34 = .ok (.areturn, 1) := by decide +kernel
theorem dX6_init_0 : decode cX6_init 0 = .ok (.aload_n 0, 1) := by decide +kernel
theorem dX6_init_1 : decode cX6_init 1 = .ok (.invokespecial 3, 3) := by decide +kernel
theorem dX6_init_4 : decode cX6_init 4 = .ok (.aload_n 0, 1) := by decide +kernel
theorem dX6_init_5 : decode cX6_init 5 = .ok (.bipush 6, 2) := by decide +kernel
theorem dX6_init_7 : decode cX6_init 7 = .ok (.newarray .int, 2) := by decide +kernel
theorem dX6_init_9 : decode cX6_init 9 = .ok (.putfield 9, 3) := by decide +kernel
theorem dX6_init_12 : decode cX6_init 12 = .ok (.aload_n 0, 1) := by decide +kernel
theorem dX6_init_13 : decode cX6_init 13 = .ok (.bipush 6, 2) := by decide +kernel
theorem dX6_init_15 : decode cX6_init 15 = .ok (.newarray .boolean, 2) := by decide +kernel
theorem dX6_init_17 : decode cX6_init 17 = .ok (.putfield 15, 3) := by decide +kernel
theorem dX6_init_20 : decode cX6_init 20 = .ok (.aload_n 0, 1) := by decide +kernel
theorem dX6_init_21 : decode cX6_init 21 = .ok (.iconst (-1), 1) := by decide +kernel
theorem dX6_init_22 : decode cX6_init 22 = .ok (.putfield 19, 3) := by decide +kernel
theorem dX6_init_25 : decode cX6_init 25 = .ok (.aload_n 0, 1) := by decide +kernel
theorem dX6_init_26 : decode cX6_init 26 = .ok (.iconst (-1), 1) := by decide +kernel
theorem dX6_init_27 : decode cX6_init 27 = .ok (.putfield 23, 3) := by decide +kernel
theorem dX6_init_30 : decode cX6_init 30 = .ok (.aload_n 0, 1) := by decide +kernel
theorem dX6_init_31 : decode cX6_init 31 = .ok (.iconst 0, 1) := by decide +kernel
theorem dX6_init_32 : decode cX6_init 32 = .ok (.putfield 26, 3) := by decide +kernel
theorem dX6_init_35 : decode cX6_init 35 = .ok (.aload_n 0, 1) := by decide +kernel
theorem dX6_init_36 : decode cX6_init 36 = .ok (.iconst 0, 1) := by decide +kernel
theorem dX6_init_37 : decode cX6_init 37 = .ok (.putfield 29, 3) := by decide +kernel
theorem dX6_init_40 : decode cX6_init 40 = .ok (.aload_n 0, 1) := by decide +kernel
theorem dX6_init_41 : decode cX6_init 41 = .ok (.iconst 0, 1) := by decide +kernel
theorem dX6_init_42 : decode cX6_init 42 = .ok (.putfield 32, 3) := by decide +kernel
theorem dX6_init_45 : decode cX6_init 45 = .ok (.aload_n 0, 1) := by decide +kernel
theorem dX6_init_46 : decode cX6_init 46 = .ok (.iload_n 1, 1) := by decide +kernel
theorem dX6_init_47 : decode cX6_init 47 = .ok (.putfield 35, 3) := by decide +kernel
theorem dX6_init_50 : decode cX6_init 50 = .ok (.aload_n 0, 1) := by decide +kernel
theorem dX6_init_51 : decode cX6_init 51 = .ok (.iload_n 2, 1) := by decide +kernel
theorem dX6_init_52 : decode cX6_init 52 = .ok (.putfield 38, 3) := by decide +kernel
theorem dX6_init_55 : decode cX6_init 55 = .ok (.return_, 1) := by decide +kernel
theorem dX6_standsAt_0 : decode cX6_standsAt 0 = .ok (.aload_n 0, 1) := by decide +kernel
theorem dX6_standsAt_1 : decode cX6_standsAt 1 = .ok (.getfield 35, 3) := by decide +kernel
theorem dX6_standsAt_4 : decode cX6_standsAt 4 = .ok (.ireturn, 1) := by decide +kernel
theorem dX6_aimsAt_0 : decode cX6_aimsAt 0 = .ok (.aload_n 0, 1) := by decide +kernel
theorem dX6_aimsAt_1 : decode cX6_aimsAt 1 = .ok (.getfield 19, 3) := by decide +kernel
theorem dX6_aimsAt_4 : decode cX6_aimsAt 4 = .ok (.ireturn, 1) := by decide +kernel
theorem dX6_hasStep_0 : decode cX6_hasStep 0 = .ok (.aload_n 0, 1) := by decide +kernel
theorem dX6_hasStep_1 : decode cX6_hasStep 1 = .ok (.getfield 23, 3) := by decide +kernel
theorem dX6_hasStep_4 : decode cX6_hasStep 4 = .ok (.iconst (-1), 1) := by decide +kernel
theorem dX6_hasStep_5 : decode cX6_hasStep 5 = .ok (.if_icmp .eq 7, 3) := by decide +kernel
theorem dX6_hasStep_8 : decode cX6_hasStep 8 = .ok (.iconst 1, 1) := by decide +kernel
theorem dX6_hasStep_9 : decode cX6_hasStep 9 = .ok (.goto 4, 3) := by decide +kernel
theorem dX6_hasStep_12 : decode cX6_hasStep 12 = .ok (.iconst 0, 1) := by decide +kernel
theorem dX6_hasStep_13 : decode cX6_hasStep 13 = .ok (.ireturn, 1) := by decide +kernel
set_option maxRecDepth 20000 in
theorem ggX6_isResting_X6_hasStep : GoodIn wsX6_isResting wsX6_hasStep := goodIn_r _ [6, 7, 8, 9, 10, 11, 12, 13, 14, 15, 16] (by decide +kernel) (by decide +kernel)
set_option maxRecDepth 20000 in
theorem gX6_isResting_X6_hasStep : GoodIn wsX6_isResting (wsV RX6 41 RX6 yX6_hasStep wsX6_hasStep) := goodIn_app (goodIn_of _ (by decide +kernel)) ggX6_isResting_X6_hasStep
theorem dX6_isResting_0 : decode cX6_isResting 0 = .ok (.aload_n 0, 1) := by decide +kernel
theorem dX6_isResting_1 : decode cX6_isResting 1 = .ok (.getfield 19, 3) := by decide +kernel
theorem dX6_isResting_4 : decode cX6_isResting 4 = .ok (.iconst (-1), 1) := by decide +kernel
theorem dX6_isResting_5 : decode cX6_isResting 5 = .ok (.if_icmp .ne 14, 3) := by decide +kernel
theorem dX6_isResting_8 : decode cX6_isResting 8 = .ok (.aload_n 0, 1) := by decide +kernel
theorem dX6_isResting_9 : decode cX6_isResting 9 = .ok (.invokevirtual 41, 3) := by decide +kernel
theorem dX6_isResting_12 : decode cX6_isResting 12 = .ok (.ifCond .ne 7, 3) := by decide +kernel
theorem dX6_isResting_15 : decode cX6_isResting 15 = .ok (.iconst 1, 1) := by decide +kernel
theorem dX6_isResting_16 : decode cX6_isResting 16 = .ok (.goto 4, 3) := by decide +kernel
theorem dX6_isResting_19 : decode cX6_isResting 19 = .ok (.iconst 0, 1) := by decide +kernel
theorem dX6_isResting_20 : decode cX6_isResting 20 = .ok (.ireturn, 1) := by decide +kernel
set_option maxRecDepth 20000 in
theorem ggX6_aimAt_X6_hasStep : GoodIn wsX6_aimAt wsX6_hasStep := goodIn_r _ [7, 8, 9, 10, 11, 12, 13, 14, 15, 16, 17] (by decide +kernel) (by decide +kernel)
set_option maxRecDepth 20000 in
theorem gX6_aimAt_X6_hasStep : GoodIn wsX6_aimAt (wsV RX6 41 RX6 yX6_hasStep wsX6_hasStep) := goodIn_app (goodIn_of _ (by decide +kernel)) ggX6_aimAt_X6_hasStep
theorem dX6_aimAt_0 : decode cX6_aimAt 0 = .ok (.aload_n 0, 1) := by decide +kernel
theorem dX6_aimAt_1 : decode cX6_aimAt 1 = .ok (.aload_n 0, 1) := by decide +kernel
theorem dX6_aimAt_2 : decode cX6_aimAt 2 = .ok (.invokevirtual 41, 3) := by decide +kernel
theorem dX6_aimAt_5 : decode cX6_aimAt 5 = .ok (.ifCond .ne 15, 3) := by decide +kernel
theorem dX6_aimAt_8 : decode cX6_aimAt 8 = .ok (.iload_n 1, 1) := by decide +kernel
theorem dX6_aimAt_9 : decode cX6_aimAt 9 = .ok (.aload_n 0, 1) := by decide +kernel
theorem dX6_aimAt_10 : decode cX6_aimAt 10 = .ok (.getfield 35, 3) := by decide +kernel
theorem dX6_aimAt_13 : decode cX6_aimAt 13 = .ok (.if_icmp .ne 7, 3) := by decide +kernel
theorem dX6_aimAt_16 : decode cX6_aimAt 16 = .ok (.iconst (-1), 1) := by decide +kernel
theorem dX6_aimAt_17 : decode cX6_aimAt 17 = .ok (.goto 4, 3) := by decide +kernel
theorem dX6_aimAt_20 : decode cX6_aimAt 20 = .ok (.iload_n 1, 1) := by decide +kernel
theorem dX6_aimAt_21 : decode cX6_aimAt 21 = .ok (.putfield 19, 3) := by decide +kernel
theorem dX6_aimAt_24 : decode cX6_aimAt 24 = .ok (.return_, 1) := by decide +kernel
theorem dX6_giveUp_0 : decode cX6_giveUp 0 = .ok (.aload_n 0, 1) := by decide +kernel
theorem dX6_giveUp_1 : decode cX6_giveUp 1 = .ok (.iconst (-1), 1) := by decide +kernel
theorem dX6_giveUp_2 : decode cX6_giveUp 2 = .ok (.putfield 19, 3) := by decide +kernel
theorem dX6_giveUp_5 : decode cX6_giveUp 5 = .ok (.return_, 1) := by decide +kernel
theorem dX6_begin_0 : decode cX6_begin 0 = .ok (.aload_n 0, 1) := by decide +kernel
theorem dX6_begin_1 : decode cX6_begin 1 = .ok (.iload_n 1, 1) := by decide +kernel
theorem dX6_begin_2 : decode cX6_begin 2 = .ok (.putfield 23, 3) := by decide +kernel
theorem dX6_begin_5 : decode cX6_begin 5 = .ok (.aload_n 0, 1) := by decide +kernel
theorem dX6_begin_6 : decode cX6_begin 6 = .ok (.iload_n 2, 1) := by decide +kernel
theorem dX6_begin_7 : decode cX6_begin 7 = .ok (.aload_n 0, 1) := by decide +kernel
theorem dX6_begin_8 : decode cX6_begin 8 = .ok (.getfield 38, 3) := by decide +kernel
theorem dX6_begin_11 : decode cX6_begin 11 = .ok (.imul, 1) := by decide +kernel
theorem dX6_begin_12 : decode cX6_begin 12 = .ok (.putfield 26, 3) := by decide +kernel
theorem dX6_begin_15 : decode cX6_begin 15 = .ok (.return_, 1) := by decide +kernel
set_option maxRecDepth 20000 in
theorem ggX6_spendMinute_X6_hasStep : GoodIn wsX6_spendMinute wsX6_hasStep := goodIn_r _ [9, 2, 10, 11, 12, 13, 14, 15, 16, 17, 18] (by decide +kernel) (by decide +kernel)
set_option maxRecDepth 20000 in
theorem gX6_spendMinute_X6_hasStep : GoodIn wsX6_spendMinute (wsV RX6 41 RX6 yX6_hasStep wsX6_hasStep) := goodIn_app (goodIn_of _ (by decide +kernel)) ggX6_spendMinute_X6_hasStep
theorem dX6_spendMinute_0 : decode cX6_spendMinute 0 = .ok (.aload_n 0, 1) := by decide +kernel
theorem dX6_spendMinute_1 : decode cX6_spendMinute 1 = .ok (.invokevirtual 41, 3) := by decide +kernel
theorem dX6_spendMinute_4 : decode cX6_spendMinute 4 = .ok (.ifCond .ne 5, 3) := by decide +kernel
theorem dX6_spendMinute_7 : decode cX6_spendMinute 7 = .ok (.iconst 0, 1) := by decide +kernel
theorem dX6_spendMinute_8 : decode cX6_spendMinute 8 = .ok (.ireturn, 1) := by decide +kernel
theorem dX6_spendMinute_9 : decode cX6_spendMinute 9 = .ok (.aload_n 0, 1) := by decide +kernel
theorem dX6_spendMinute_10 : decode cX6_spendMinute 10 = .ok (.dup, 1) := by decide +kernel
theorem dX6_spendMinute_11 : decode cX6_spendMinute 11 = .ok (.getfield 26, 3) := by decide +kernel
theorem dX6_spendMinute_14 : decode cX6_spendMinute 14 = .ok (.iconst 1, 1) := by decide +kernel
theorem dX6_spendMinute_15 : decode cX6_spendMinute 15 = .ok (.isub, 1) := by decide +kernel
theorem dX6_spendMinute_16 : decode cX6_spendMinute 16 = .ok (.putfield 26, 3) := by decide +kernel
theorem dX6_spendMinute_19 : decode cX6_spendMinute 19 = .ok (.aload_n 0, 1) := by decide +kernel
theorem dX6_spendMinute_20 : decode cX6_spendMinute 20 = .ok (.getfield 26, 3) := by decide +kernel
theorem dX6_spendMinute_23 : decode cX6_spendMinute 23 = .ok (.ifCond .le 5, 3) := by decide +kernel
theorem dX6_spendMinute_26 : decode cX6_spendMinute 26 = .ok (.iconst 0, 1) := by decide +kernel
theorem dX6_spendMinute_27 : decode cX6_spendMinute 27 = .ok (.ireturn, 1) := by decide +kernel
theorem dX6_spendMinute_28 : decode cX6_spendMinute 28 = .ok (.aload_n 0, 1) := by decide +kernel
theorem dX6_spendMinute_29 : decode cX6_spendMinute 29 = .ok (.aload_n 0, 1) := by decide +kernel
theorem dX6_spendMinute_30 : decode cX6_spendMinute 30 = .ok (.getfield 23, 3) := by decide +kernel
theorem dX6_spendMinute_33 : decode cX6_spendMinute 33 = .ok (.putfield 35, 3) := by decide +kernel
theorem dX6_spendMinute_36 : decode cX6_spendMinute 36 = .ok (.aload_n 0, 1) := by decide +kernel
theorem dX6_spendMinute_37 : decode cX6_spendMinute 37 = .ok (.iconst (-1), 1) := by decide +kernel
theorem dX6_spendMinute_38 : decode cX6_spendMinute 38 = .ok (.putfield 23, 3) := by decide +kernel
theorem dX6_spendMinute_41 : decode cX6_spendMinute 41 = .ok (.aload_n 0, 1) := by decide +kernel
theorem dX6_spendMinute_42 : decode cX6_spendMinute 42 = .ok (.getfield 35, 3) := by decide +kernel
theorem dX6_spendMinute_45 : decode cX6_spendMinute 45 = .ok (.aload_n 0, 1) := by decide +kernel
theorem dX6_spendMinute_46 : decode cX6_spendMinute 46 = .ok (.getfield 19, 3) := by decide +kernel
theorem dX6_spendMinute_49 : decode cX6_spendMinute 49 = .ok (.if_icmp .eq 5, 3) := by decide +kernel
theorem dX6_spendMinute_52 : decode cX6_spendMinute 52 = .ok (.iconst 0, 1) := by decide +kernel
theorem dX6_spendMinute_53 : decode cX6_spendMinute 53 = .ok (.ireturn, 1) := by decide +kernel
theorem dX6_spendMinute_54 : decode cX6_spendMinute 54 = .ok (.aload_n 0, 1) := by decide +kernel
theorem dX6_spendMinute_55 : decode cX6_spendMinute 55 = .ok (.iconst (-1), 1) := by decide +kernel
theorem dX6_spendMinute_56 : decode cX6_spendMinute 56 = .ok (.putfield 19, 3) := by decide +kernel
theorem dX6_spendMinute_59 : decode cX6_spendMinute 59 = .ok (.iconst 1, 1) := by decide +kernel
theorem dX6_spendMinute_60 : decode cX6_spendMinute 60 = .ok (.ireturn, 1) := by decide +kernel
theorem dX6_solvedCount_0 : decode cX6_solvedCount 0 = .ok (.aload_n 0, 1) := by decide +kernel
theorem dX6_solvedCount_1 : decode cX6_solvedCount 1 = .ok (.getfield 29, 3) := by decide +kernel
theorem dX6_solvedCount_4 : decode cX6_solvedCount 4 = .ok (.ireturn, 1) := by decide +kernel
theorem dX6_hasSolved_0 : decode cX6_hasSolved 0 = .ok (.iload_n 1, 1) := by decide +kernel
theorem dX6_hasSolved_1 : decode cX6_hasSolved 1 = .ok (.aload_n 0, 1) := by decide +kernel
theorem dX6_hasSolved_2 : decode cX6_hasSolved 2 = .ok (.getfield 29, 3) := by decide +kernel
theorem dX6_hasSolved_5 : decode cX6_hasSolved 5 = .ok (.if_icmp .ge 7, 3) := by decide +kernel
theorem dX6_hasSolved_8 : decode cX6_hasSolved 8 = .ok (.iconst 1, 1) := by decide +kernel
theorem dX6_hasSolved_9 : decode cX6_hasSolved 9 = .ok (.goto 4, 3) := by decide +kernel
theorem dX6_hasSolved_12 : decode cX6_hasSolved 12 = .ok (.iconst 0, 1) := by decide +kernel
theorem dX6_hasSolved_13 : decode cX6_hasSolved 13 = .ok (.ireturn, 1) := by decide +kernel
theorem dX6_wasTold_0 : decode cX6_wasTold 0 = .ok (.iload_n 1, 1) := by decide +kernel
theorem dX6_wasTold_1 : decode cX6_wasTold 1 = .ok (.ifCond .lt 25, 3) := by decide +kernel
theorem dX6_wasTold_4 : decode cX6_wasTold 4 = .ok (.iload_n 1, 1) := by decide +kernel
theorem dX6_wasTold_5 : decode cX6_wasTold 5 = .ok (.aload_n 0, 1) := by decide +kernel
theorem dX6_wasTold_6 : decode cX6_wasTold 6 = .ok (.getfield 15, 3) := by decide +kernel
theorem dX6_wasTold_9 : decode cX6_wasTold 9 = .ok (.arraylength, 1) := by decide +kernel
theorem dX6_wasTold_10 : decode cX6_wasTold 10 = .ok (.if_icmp .ge 16, 3) := by decide +kernel
theorem dX6_wasTold_13 : decode cX6_wasTold 13 = .ok (.aload_n 0, 1) := by decide +kernel
theorem dX6_wasTold_14 : decode cX6_wasTold 14 = .ok (.getfield 15, 3) := by decide +kernel
theorem dX6_wasTold_17 : decode cX6_wasTold 17 = .ok (.iload_n 1, 1) := by decide +kernel
theorem dX6_wasTold_18 : decode cX6_wasTold 18 = .ok (.baload, 1) := by decide +kernel
theorem dX6_wasTold_19 : decode cX6_wasTold 19 = .ok (.ifCond .eq 7, 3) := by decide +kernel
theorem dX6_wasTold_22 : decode cX6_wasTold 22 = .ok (.iconst 1, 1) := by decide +kernel
theorem dX6_wasTold_23 : decode cX6_wasTold 23 = .ok (.goto 4, 3) := by decide +kernel
theorem dX6_wasTold_26 : decode cX6_wasTold 26 = .ok (.iconst 0, 1) := by decide +kernel
theorem dX6_wasTold_27 : decode cX6_wasTold 27 = .ok (.ireturn, 1) := by decide +kernel
theorem dX6_keptScore_0 : decode cX6_keptScore 0 = .ok (.aload_n 0, 1) := by decide +kernel
theorem dX6_keptScore_1 : decode cX6_keptScore 1 = .ok (.getfield 32, 3) := by decide +kernel
theorem dX6_keptScore_4 : decode cX6_keptScore 4 = .ok (.ireturn, 1) := by decide +kernel
set_option maxRecDepth 20000 in
theorem ggX6_pointsOf_X6_wasTold : GoodIn wsX6_pointsOf wsX6_wasTold := goodIn_r _ [6, 7, 15, 16, 17, 18, 19, 20, 21, 22, 23] (by decide +kernel) (by decide +kernel)
set_option maxRecDepth 20000 in
theorem gX6_pointsOf_X6_wasTold : GoodIn wsX6_pointsOf (wsV RX6 45 RX6 yX6_wasTold wsX6_wasTold) := goodIn_app (goodIn_of _ (by decide +kernel)) ggX6_pointsOf_X6_wasTold
set_option maxRecDepth 20000 in
theorem ggX6_pointsOf_X8_pointsFor : GoodIn wsX6_pointsOf wsX8_pointsFor := goodIn_r _ [10, 11, 12, 13, 14] (by decide +kernel) (by decide +kernel)
set_option maxRecDepth 20000 in
theorem gX6_pointsOf_X8_pointsFor_n49 : GoodIn wsX6_pointsOf (wsX8_pointsFor) := ggX6_pointsOf_X8_pointsFor
theorem dX6_pointsOf_0 : decode cX6_pointsOf 0 = .ok (.iload_n 1, 1) := by decide +kernel
theorem dX6_pointsOf_1 : decode cX6_pointsOf 1 = .ok (.ifCond .lt 21, 3) := by decide +kernel
theorem dX6_pointsOf_4 : decode cX6_pointsOf 4 = .ok (.iload_n 1, 1) := by decide +kernel
theorem dX6_pointsOf_5 : decode cX6_pointsOf 5 = .ok (.aload_n 0, 1) := by decide +kernel
theorem dX6_pointsOf_6 : decode cX6_pointsOf 6 = .ok (.getfield 9, 3) := by decide +kernel
theorem dX6_pointsOf_9 : decode cX6_pointsOf 9 = .ok (.arraylength, 1) := by decide +kernel
theorem dX6_pointsOf_10 : decode cX6_pointsOf 10 = .ok (.if_icmp .ge 12, 3) := by decide +kernel
theorem dX6_pointsOf_13 : decode cX6_pointsOf 13 = .ok (.aload_n 0, 1) := by decide +kernel
theorem dX6_pointsOf_14 : decode cX6_pointsOf 14 = .ok (.getfield 9, 3) := by decide +kernel
theorem dX6_pointsOf_17 : decode cX6_pointsOf 17 = .ok (.iload_n 1, 1) := by decide +kernel
theorem dX6_pointsOf_18 : decode cX6_pointsOf 18 = .ok (.iaload, 1) := by decide +kernel
theorem dX6_pointsOf_19 : decode cX6_pointsOf 19 = .ok (.goto 4, 3) := by decide +kernel
theorem dX6_pointsOf_22 : decode cX6_pointsOf 22 = .ok (.iconst 0, 1) := by decide +kernel
theorem dX6_pointsOf_23 : decode cX6_pointsOf 23 = .ok (.istore_n 2, 1) := by decide +kernel
theorem dX6_pointsOf_24 : decode cX6_pointsOf 24 = .ok (.iload_n 2, 1) := by decide +kernel
theorem dX6_pointsOf_25 : decode cX6_pointsOf 25 = .ok (.aload_n 0, 1) := by decide +kernel
theorem dX6_pointsOf_26 : decode cX6_pointsOf 26 = .ok (.iload_n 1, 1) := by decide +kernel
theorem dX6_pointsOf_27 : decode cX6_pointsOf 27 = .ok (.invokevirtual 45, 3) := by decide +kernel
theorem dX6_pointsOf_30 : decode cX6_pointsOf 30 = .ok (.invokestatic 49, 3) := by decide +kernel
theorem dX6_pointsOf_33 : decode cX6_pointsOf 33 = .ok (.ireturn, 1) := by decide +kernel
set_option maxRecDepth 20000 in
theorem ggX6_solve_X6_pointsOf : GoodIn wsX6_solve wsX6_pointsOf := goodIn_r _ [7, 8, 9, 10, 11, 6, 12, 13, 14, 15, 16, 17, 18, 19, 20, 21, 22, 23, 24, 25, 26, 27, 28, 29] (by decide +kernel) (by decide +kernel)
set_option maxRecDepth 20000 in
theorem gX6_solve_X6_pointsOf : GoodIn wsX6_solve (wsV RX6 53 RX6 yX6_pointsOf wsX6_pointsOf) := goodIn_app (goodIn_of _ (by decide +kernel)) ggX6_solve_X6_pointsOf
theorem dX6_solve_0 : decode cX6_solve 0 = .ok (.aload_n 0, 1) := by decide +kernel
theorem dX6_solve_1 : decode cX6_solve 1 = .ok (.dup, 1) := by decide +kernel
theorem dX6_solve_2 : decode cX6_solve 2 = .ok (.getfield 29, 3) := by decide +kernel
theorem dX6_solve_5 : decode cX6_solve 5 = .ok (.iconst 1, 1) := by decide +kernel
theorem dX6_solve_6 : decode cX6_solve 6 = .ok (.iadd, 1) := by decide +kernel
theorem dX6_solve_7 : decode cX6_solve 7 = .ok (.putfield 29, 3) := by decide +kernel
theorem dX6_solve_10 : decode cX6_solve 10 = .ok (.aload_n 0, 1) := by decide +kernel
theorem dX6_solve_11 : decode cX6_solve 11 = .ok (.dup, 1) := by decide +kernel
theorem dX6_solve_12 : decode cX6_solve 12 = .ok (.getfield 32, 3) := by decide +kernel
theorem dX6_solve_15 : decode cX6_solve 15 = .ok (.aload_n 0, 1) := by decide +kernel
theorem dX6_solve_16 : decode cX6_solve 16 = .ok (.iload_n 1, 1) := by decide +kernel
theorem dX6_solve_17 : decode cX6_solve 17 = .ok (.invokevirtual 53, 3) := by decide +kernel
theorem dX6_solve_20 : decode cX6_solve 20 = .ok (.iadd, 1) := by decide +kernel
theorem dX6_solve_21 : decode cX6_solve 21 = .ok (.putfield 32, 3) := by decide +kernel
theorem dX6_solve_24 : decode cX6_solve 24 = .ok (.return_, 1) := by decide +kernel
theorem dX6_countWrong_0 : decode cX6_countWrong 0 = .ok (.iload_n 1, 1) := by decide +kernel
theorem dX6_countWrong_1 : decode cX6_countWrong 1 = .ok (.ifCond .lt 22, 3) := by decide +kernel
theorem dX6_countWrong_4 : decode cX6_countWrong 4 = .ok (.iload_n 1, 1) := by decide +kernel
theorem dX6_countWrong_5 : decode cX6_countWrong 5 = .ok (.aload_n 0, 1) := by decide +kernel
theorem dX6_countWrong_6 : decode cX6_countWrong 6 = .ok (.getfield 9, 3) := by decide +kernel
theorem dX6_countWrong_9 : decode cX6_countWrong 9 = .ok (.arraylength, 1) := by decide +kernel
theorem dX6_countWrong_10 : decode cX6_countWrong 10 = .ok (.if_icmp .ge 13, 3) := by decide +kernel
theorem dX6_countWrong_13 : decode cX6_countWrong 13 = .ok (.aload_n 0, 1) := by decide +kernel
theorem dX6_countWrong_14 : decode cX6_countWrong 14 = .ok (.getfield 9, 3) := by decide +kernel
theorem dX6_countWrong_17 : decode cX6_countWrong 17 = .ok (.iload_n 1, 1) := by decide +kernel
theorem dX6_countWrong_18 : decode cX6_countWrong 18 = .ok (.dup2, 1) := by decide +kernel
theorem dX6_countWrong_19 : decode cX6_countWrong 19 = .ok (.iaload, 1) := by decide +kernel
theorem dX6_countWrong_20 : decode cX6_countWrong 20 = .ok (.iconst 1, 1) := by decide +kernel
theorem dX6_countWrong_21 : decode cX6_countWrong 21 = .ok (.iadd, 1) := by decide +kernel
theorem dX6_countWrong_22 : decode cX6_countWrong 22 = .ok (.iastore, 1) := by decide +kernel
theorem dX6_countWrong_23 : decode cX6_countWrong 23 = .ok (.return_, 1) := by decide +kernel
theorem dX6_hear_0 : decode cX6_hear 0 = .ok (.iload_n 1, 1) := by decide +kernel
theorem dX6_hear_1 : decode cX6_hear 1 = .ok (.ifCond .lt 19, 3) := by decide +kernel
theorem dX6_hear_4 : decode cX6_hear 4 = .ok (.iload_n 1, 1) := by decide +kernel
theorem dX6_hear_5 : decode cX6_hear 5 = .ok (.aload_n 0, 1) := by decide +kernel
theorem dX6_hear_6 : decode cX6_hear 6 = .ok (.getfield 15, 3) := by decide +kernel
theorem dX6_hear_9 : decode cX6_hear 9 = .ok (.arraylength, 1) := by decide +kernel
theorem dX6_hear_10 : decode cX6_hear 10 = .ok (.if_icmp .ge 10, 3) := by decide +kernel
theorem dX6_hear_13 : decode cX6_hear 13 = .ok (.aload_n 0, 1) := by decide +kernel
theorem dX6_hear_14 : decode cX6_hear 14 = .ok (.getfield 15, 3) := by decide +kernel
theorem dX6_hear_17 : decode cX6_hear 17 = .ok (.iload_n 1, 1) := by decide +kernel
theorem dX6_hear_18 : decode cX6_hear 18 = .ok (.iconst 1, 1) := by decide +kernel
theorem dX6_hear_19 : decode cX6_hear 19 = .ok (.bastore, 1) := by decide +kernel
theorem dX6_hear_20 : decode cX6_hear 20 = .ok (.return_, 1) := by decide +kernel
theorem dX7_init_0 : decode cX7_init 0 = .ok (.aload_n 0, 1) := by decide +kernel
theorem dX7_init_1 : decode cX7_init 1 = .ok (.invokespecial 3, 3) := by decide +kernel
theorem dX7_init_4 : decode cX7_init 4 = .ok (.aload_n 0, 1) := by decide +kernel
theorem dX7_init_5 : decode cX7_init 5 = .ok (.bipush 64, 2) := by decide +kernel
theorem dX7_init_7 : decode cX7_init 7 = .ok (.newarray .int, 2) := by decide +kernel
theorem dX7_init_9 : decode cX7_init 9 = .ok (.putfield 9, 3) := by decide +kernel
theorem dX7_init_12 : decode cX7_init 12 = .ok (.aload_n 0, 1) := by decide +kernel
theorem dX7_init_13 : decode cX7_init 13 = .ok (.bipush 64, 2) := by decide +kernel
theorem dX7_init_15 : decode cX7_init 15 = .ok (.newarray .boolean, 2) := by decide +kernel
theorem dX7_init_17 : decode cX7_init 17 = .ok (.putfield 15, 3) := by decide +kernel
theorem dX7_init_20 : decode cX7_init 20 = .ok (.return_, 1) := by decide +kernel
set_option maxRecDepth 20000 in
theorem ggX7_measureNearestFirst_X7_startAt : GoodIn wsX7_measureNearestFirst wsX7_startAt := goodIn_r _ [6, 7, 8, 1, 60, 61] (by decide +kernel) (by decide +kernel)
set_option maxRecDepth 20000 in
theorem gX7_measureNearestFirst_X7_startAt : GoodIn wsX7_measureNearestFirst (wsV RX7 19 RX7 yX7_startAt wsX7_startAt) := goodIn_app (goodIn_of _ (by decide +kernel)) ggX7_measureNearestFirst_X7_startAt
set_option maxRecDepth 20000 in
theorem ggX7_measureNearestFirst_X7_nearestUnsettled : GoodIn wsX7_measureNearestFirst wsX7_nearestUnsettled := goodIn_r _ [12, 8, 1, 7, 60, 61] (by decide +kernel) (by decide +kernel)
set_option maxRecDepth 20000 in
theorem gX7_measureNearestFirst_X7_nearestUnsettled : GoodIn wsX7_measureNearestFirst (wsV RX7 23 RX7 yX7_nearestUnsettled wsX7_nearestUnsettled) := goodIn_app (goodIn_of _ (by decide +kernel)) ggX7_measureNearestFirst_X7_nearestUnsettled
set_option maxRecDepth 20000 in
theorem ggX7_measureNearestFirst_X3_isPlace : GoodIn wsX7_measureNearestFirst wsX3_isPlace := goodIn_r _ [16] (by decide +kernel) (by decide +kernel)
set_option maxRecDepth 20000 in
theorem gX7_measureNearestFirst_X3_isPlace : GoodIn wsX7_measureNearestFirst (va_wsS RX7 27 yX3_isPlace wsX3_isPlace) := goodIn_app (goodIn_of _ (by decide +kernel)) ggX7_measureNearestFirst_X3_isPlace
set_option maxRecDepth 20000 in
theorem ggX7_measureNearestFirst_X3_canEnter : GoodIn wsX7_measureNearestFirst wsX3_canEnter := goodIn_r _ [20, 21, 22, 14, 15, 16, 62, 63] (by decide +kernel) (by decide +kernel)
set_option maxRecDepth 20000 in
theorem gX7_measureNearestFirst_X3_canEnter : GoodIn wsX7_measureNearestFirst (wsV RX7 33 RX3 yX3_canEnter wsX3_canEnter) := goodIn_app (goodIn_of _ (by decide +kernel)) ggX7_measureNearestFirst_X3_canEnter
set_option maxRecDepth 20000 in
theorem ggX7_measureNearestFirst_X7_reachNeighboursOf : GoodIn wsX7_measureNearestFirst wsX7_reachNeighboursOf := goodIn_r _ [26, 7, 27, 28, 29, 30, 31, 32, 15, 33, 34, 35, 36, 37, 38, 39, 13, 14, 16, 40, 41, 42, 5, 43, 8, 17, 18, 19, 20, 21, 22, 44, 45, 46, 47, 48, 49, 50, 51, 52, 53, 54, 55, 56, 57, 58, 59, 60, 61, 62, 63] (by decide +kernel) (by decide +kernel)
set_option maxRecDepth 20000 in
theorem gX7_measureNearestFirst_X7_reachNeighboursOf : GoodIn wsX7_measureNearestFirst (wsV RX7 36 RX7 yX7_reachNeighboursOf wsX7_reachNeighboursOf) := goodIn_app (goodIn_of _ (by decide +kernel)) ggX7_measureNearestFirst_X7_reachNeighboursOf
theorem dX7_measureNearestFirst_0 : decode cX7_measureNearestFirst 0 = .ok (.aload_n 0, 1) := by decide +kernel
theorem dX7_measureNearestFirst_1 : decode cX7_measureNearestFirst 1 = .ok (.iload_n 1, 1) := by decide +kernel
theorem dX7_measureNearestFirst_2 : decode cX7_measureNearestFirst 2 = .ok (.invokevirtual 19, 3) := by decide +kernel
theorem dX7_measureNearestFirst_5 : decode cX7_measureNearestFirst 5 = .ok (.iconst 0, 1) := by decide +kernel
theorem dX7_measureNearestFirst_6 : decode cX7_measureNearestFirst 6 = .ok (.istore_n 3, 1) := by decide +kernel
theorem dX7_measureNearestFirst_7 : decode cX7_measureNearestFirst 7 = .ok (.iload_n 3, 1) := by decide +kernel
theorem dX7_measureNearestFirst_8 : decode cX7_measureNearestFirst 8 = .ok (.bipush 64, 2) := by decide +kernel
theorem dX7_measureNearestFirst_10 : decode cX7_measureNearestFirst 10 = .ok (.if_icmp .ge 48, 3) := by decide +kernel
theorem dX7_measureNearestFirst_13 : decode cX7_measureNearestFirst 13 = .ok (.aload_n 0, 1) := by decide +kernel
theorem dX7_measureNearestFirst_14 : decode cX7_measureNearestFirst 14 = .ok (.invokevirtual 23, 3) := by decide +kernel
theorem dX7_measureNearestFirst_17 : decode cX7_measureNearestFirst 17 = .ok (.istore 4, 2) := by decide +kernel
theorem dX7_measureNearestFirst_19 : decode cX7_measureNearestFirst 19 = .ok (.iload 4, 2) := by decide +kernel
theorem dX7_measureNearestFirst_21 : decode cX7_measureNearestFirst 21 = .ok (.invokestatic 27, 3) := by decide +kernel
theorem dX7_measureNearestFirst_24 : decode cX7_measureNearestFirst 24 = .ok (.ifCond .ne 4, 3) := by decide +kernel
theorem dX7_measureNearestFirst_27 : decode cX7_measureNearestFirst 27 = .ok (.return_, 1) := by decide +kernel
theorem dX7_measureNearestFirst_28 : decode cX7_measureNearestFirst 28 = .ok (.aload_n 0, 1) := by decide +kernel
theorem dX7_measureNearestFirst_29 : decode cX7_measureNearestFirst 29 = .ok (.getfield 15, 3) := by decide +kernel
theorem dX7_measureNearestFirst_32 : decode cX7_measureNearestFirst 32 = .ok (.iload 4, 2) := by decide +kernel
theorem dX7_measureNearestFirst_34 : decode cX7_measureNearestFirst 34 = .ok (.iconst 1, 1) := by decide +kernel
theorem dX7_measureNearestFirst_35 : decode cX7_measureNearestFirst 35 = .ok (.bastore, 1) := by decide +kernel
theorem dX7_measureNearestFirst_36 : decode cX7_measureNearestFirst 36 = .ok (.aload_n 2, 1) := by decide +kernel
theorem dX7_measureNearestFirst_37 : decode cX7_measureNearestFirst 37 = .ok (.iload 4, 2) := by decide +kernel
theorem dX7_measureNearestFirst_39 : decode cX7_measureNearestFirst 39 = .ok (.invokevirtual 33, 3) := by decide +kernel
theorem dX7_measureNearestFirst_42 : decode cX7_measureNearestFirst 42 = .ok (.ifCond .eq 10, 3) := by decide +kernel
theorem dX7_measureNearestFirst_45 : decode cX7_measureNearestFirst 45 = .ok (.aload_n 0, 1) := by decide +kernel
theorem dX7_measureNearestFirst_46 : decode cX7_measureNearestFirst 46 = .ok (.iload 4, 2) := by decide +kernel
theorem dX7_measureNearestFirst_48 : decode cX7_measureNearestFirst 48 = .ok (.aload_n 2, 1) := by decide +kernel
theorem dX7_measureNearestFirst_49 : decode cX7_measureNearestFirst 49 = .ok (.invokevirtual 36, 3) := by decide +kernel
theorem dX7_measureNearestFirst_52 : decode cX7_measureNearestFirst 52 = .ok (.iinc 3 1, 3) := by decide +kernel
theorem dX7_measureNearestFirst_55 : decode cX7_measureNearestFirst 55 = .ok (.goto (-48), 3) := by decide +kernel
theorem dX7_measureNearestFirst_58 : decode cX7_measureNearestFirst 58 = .ok (.return_, 1) := by decide +kernel
set_option maxRecDepth 20000 in
theorem ggX7_measureInRounds_X7_startAt : GoodIn wsX7_measureInRounds wsX7_startAt := goodIn_r _ [5, 6, 7, 8, 60, 61] (by decide +kernel) (by decide +kernel)
set_option maxRecDepth 20000 in
theorem gX7_measureInRounds_X7_startAt : GoodIn wsX7_measureInRounds (wsV RX7 19 RX7 yX7_startAt wsX7_startAt) := goodIn_app (goodIn_of _ (by decide +kernel)) ggX7_measureInRounds_X7_startAt
set_option maxRecDepth 20000 in
theorem ggX7_measureInRounds_X7_betterAll : GoodIn wsX7_measureInRounds wsX7_betterAll := goodIn_r _ [12, 6, 13, 14, 15, 4, 16, 7, 17, 18, 19, 20, 21, 22, 23, 24, 25, 26, 27, 28, 29, 30, 31, 32, 33, 34, 35, 36, 37, 38, 39, 40, 41, 42, 43, 44, 45, 46, 47, 48, 49, 50, 51, 52, 53, 54, 55, 56, 57, 58, 59, 60, 61, 62, 63] (by decide +kernel) (by decide +kernel)
set_option maxRecDepth 20000 in
theorem gX7_measureInRounds_X7_betterAll : GoodIn wsX7_measureInRounds (wsV RX7 40 RX7 yX7_betterAll wsX7_betterAll) := goodIn_app (goodIn_of _ (by decide +kernel)) ggX7_measureInRounds_X7_betterAll
theorem dX7_measureInRounds_0 : decode cX7_measureInRounds 0 = .ok (.aload_n 0, 1) := by decide +kernel
theorem dX7_measureInRounds_1 : decode cX7_measureInRounds 1 = .ok (.iload_n 1, 1) := by decide +kernel
theorem dX7_measureInRounds_2 : decode cX7_measureInRounds 2 = .ok (.invokevirtual 19, 3) := by decide +kernel
theorem dX7_measureInRounds_5 : decode cX7_measureInRounds 5 = .ok (.iconst 1, 1) := by decide +kernel
theorem dX7_measureInRounds_6 : decode cX7_measureInRounds 6 = .ok (.istore_n 3, 1) := by decide +kernel
theorem dX7_measureInRounds_7 : decode cX7_measureInRounds 7 = .ok (.iconst 0, 1) := by decide +kernel
theorem dX7_measureInRounds_8 : decode cX7_measureInRounds 8 = .ok (.istore 4, 2) := by decide +kernel
theorem dX7_measureInRounds_10 : decode cX7_measureInRounds 10 = .ok (.iload 4, 2) := by decide +kernel
theorem dX7_measureInRounds_12 : decode cX7_measureInRounds 12 = .ok (.bipush 64, 2) := by decide +kernel
theorem dX7_measureInRounds_14 : decode cX7_measureInRounds 14 = .ok (.if_icmp .ge 19, 3) := by decide +kernel
theorem dX7_measureInRounds_17 : decode cX7_measureInRounds 17 = .ok (.iload_n 3, 1) := by decide +kernel
theorem dX7_measureInRounds_18 : decode cX7_measureInRounds 18 = .ok (.ifCond .eq 15, 3) := by decide +kernel
theorem dX7_measureInRounds_21 : decode cX7_measureInRounds 21 = .ok (.aload_n 0, 1) := by decide +kernel
theorem dX7_measureInRounds_22 : decode cX7_measureInRounds 22 = .ok (.aload_n 2, 1) := by decide +kernel
theorem dX7_measureInRounds_23 : decode cX7_measureInRounds 23 = .ok (.invokevirtual 40, 3) := by decide +kernel
theorem dX7_measureInRounds_26 : decode cX7_measureInRounds 26 = .ok (.istore_n 3, 1) := by decide +kernel
theorem dX7_measureInRounds_27 : decode cX7_measureInRounds 27 = .ok (.iinc 4 1, 3) := by decide +kernel
theorem dX7_measureInRounds_30 : decode cX7_measureInRounds 30 = .ok (.goto (-20), 3) := by decide +kernel
theorem dX7_measureInRounds_33 : decode cX7_measureInRounds 33 = .ok (.return_, 1) := by decide +kernel
set_option maxRecDepth 20000 in
theorem ggX7_sumFrom_X7_sumKeptOf : GoodIn wsX7_sumFrom wsX7_sumKeptOf := goodIn_r _ [6, 7, 1, 8, 9, 10, 11, 12, 13] (by decide +kernel) (by decide +kernel)
set_option maxRecDepth 20000 in
theorem gX7_sumFrom_X7_sumKeptOf : GoodIn wsX7_sumFrom (wsV RX7 44 RX7 yX7_sumKeptOf wsX7_sumKeptOf) := goodIn_app (goodIn_of _ (by decide +kernel)) ggX7_sumFrom_X7_sumKeptOf
theorem dX7_sumFrom_0 : decode cX7_sumFrom 0 = .ok (.aload_n 0, 1) := by decide +kernel
theorem dX7_sumFrom_1 : decode cX7_sumFrom 1 = .ok (.iload_n 1, 1) := by decide +kernel
theorem dX7_sumFrom_2 : decode cX7_sumFrom 2 = .ok (.invokevirtual 44, 3) := by decide +kernel
theorem dX7_sumFrom_5 : decode cX7_sumFrom 5 = .ok (.istore_n 2, 1) := by decide +kernel
theorem dX7_sumFrom_6 : decode cX7_sumFrom 6 = .ok (.iload_n 2, 1) := by decide +kernel
theorem dX7_sumFrom_7 : decode cX7_sumFrom 7 = .ok (.ldc 48, 2) := by decide +kernel
theorem dX7_sumFrom_9 : decode cX7_sumFrom 9 = .ok (.if_icmp .ge 7, 3) := by decide +kernel
theorem dX7_sumFrom_12 : decode cX7_sumFrom 12 = .ok (.iload_n 2, 1) := by decide +kernel
theorem dX7_sumFrom_13 : decode cX7_sumFrom 13 = .ok (.goto 4, 3) := by decide +kernel
theorem dX7_sumFrom_16 : decode cX7_sumFrom 16 = .ok (.iconst (-1), 1) := by decide +kernel
theorem dX7_sumFrom_17 : decode cX7_sumFrom 17 = .ok (.ireturn, 1) := by decide +kernel
set_option maxRecDepth 20000 in
theorem ggX7_bestStepFrom_X3_neighbour : GoodIn wsX7_bestStepFrom wsX3_neighbour := goodIn_r _ [5, 6, 7, 4, 8, 9, 10, 11] (by decide +kernel) (by decide +kernel)
set_option maxRecDepth 20000 in
theorem gX7_bestStepFrom_X3_neighbour : GoodIn wsX7_bestStepFrom (va_wsS RX7 49 yX3_neighbour wsX3_neighbour) := goodIn_app (goodIn_of _ (by decide +kernel)) ggX7_bestStepFrom_X3_neighbour
set_option maxRecDepth 20000 in
theorem ggX7_bestStepFrom_X7_sumOver : GoodIn wsX7_bestStepFrom wsX7_sumOver := goodIn_r _ [16, 1, 17, 18, 19, 20, 21, 22, 23, 4, 24, 25, 26, 27, 28, 29, 30, 31, 32, 33, 34, 35, 36, 37, 38, 39, 40, 41, 42, 43, 15, 44, 45, 46, 47, 48, 49, 50] (by decide +kernel) (by decide +kernel)
set_option maxRecDepth 20000 in
theorem gX7_bestStepFrom_X7_sumOver : GoodIn wsX7_bestStepFrom (wsV RX7 53 RX7 yX7_sumOver wsX7_sumOver) := goodIn_app (goodIn_of _ (by decide +kernel)) ggX7_bestStepFrom_X7_sumOver
theorem dX7_bestStepFrom_0 : decode cX7_bestStepFrom 0 = .ok (.iconst (-1), 1) := by decide +kernel
theorem dX7_bestStepFrom_1 : decode cX7_bestStepFrom 1 = .ok (.istore_n 3, 1) := by decide +kernel
theorem dX7_bestStepFrom_2 : decode cX7_bestStepFrom 2 = .ok (.ldc 48, 2) := by decide +kernel
theorem dX7_bestStepFrom_4 : decode cX7_bestStepFrom 4 = .ok (.istore 4, 2) := by decide +kernel
theorem dX7_bestStepFrom_6 : decode cX7_bestStepFrom 6 = .ok (.iconst 0, 1) := by decide +kernel
theorem dX7_bestStepFrom_7 : decode cX7_bestStepFrom 7 = .ok (.istore 5, 2) := by decide +kernel
theorem dX7_bestStepFrom_9 : decode cX7_bestStepFrom 9 = .ok (.iload 5, 2) := by decide +kernel
theorem dX7_bestStepFrom_11 : decode cX7_bestStepFrom 11 = .ok (.iconst 4, 1) := by decide +kernel
theorem dX7_bestStepFrom_12 : decode cX7_bestStepFrom 12 = .ok (.if_icmp .ge 41, 3) := by decide +kernel
theorem dX7_bestStepFrom_15 : decode cX7_bestStepFrom 15 = .ok (.iload_n 1, 1) := by decide +kernel
theorem dX7_bestStepFrom_16 : decode cX7_bestStepFrom 16 = .ok (.iload 5, 2) := by decide +kernel
theorem dX7_bestStepFrom_18 : decode cX7_bestStepFrom 18 = .ok (.invokestatic 49, 3) := by decide +kernel
theorem dX7_bestStepFrom_21 : decode cX7_bestStepFrom 21 = .ok (.istore 6, 2) := by decide +kernel
theorem dX7_bestStepFrom_23 : decode cX7_bestStepFrom 23 = .ok (.aload_n 0, 1) := by decide +kernel
theorem dX7_bestStepFrom_24 : decode cX7_bestStepFrom 24 = .ok (.iload_n 1, 1) := by decide +kernel
theorem dX7_bestStepFrom_25 : decode cX7_bestStepFrom 25 = .ok (.iload 6, 2) := by decide +kernel
theorem dX7_bestStepFrom_27 : decode cX7_bestStepFrom 27 = .ok (.aload_n 2, 1) := by decide +kernel
theorem dX7_bestStepFrom_28 : decode cX7_bestStepFrom 28 = .ok (.invokevirtual 53, 3) := by decide +kernel
theorem dX7_bestStepFrom_31 : decode cX7_bestStepFrom 31 = .ok (.istore 7, 2) := by decide +kernel
theorem dX7_bestStepFrom_33 : decode cX7_bestStepFrom 33 = .ok (.iload 7, 2) := by decide +kernel
theorem dX7_bestStepFrom_35 : decode cX7_bestStepFrom 35 = .ok (.iload 4, 2) := by decide +kernel
theorem dX7_bestStepFrom_37 : decode cX7_bestStepFrom 37 = .ok (.if_icmp .ge 10, 3) := by decide +kernel
theorem dX7_bestStepFrom_40 : decode cX7_bestStepFrom 40 = .ok (.iload 7, 2) := by decide +kernel
theorem dX7_bestStepFrom_42 : decode cX7_bestStepFrom 42 = .ok (.istore 4, 2) := by decide +kernel
theorem dX7_bestStepFrom_44 : decode cX7_bestStepFrom 44 = .ok (.iload 6, 2) := by decide +kernel
theorem dX7_bestStepFrom_46 : decode cX7_bestStepFrom 46 = .ok (.istore_n 3, 1) := by decide +kernel
theorem dX7_bestStepFrom_47 : decode cX7_bestStepFrom 47 = .ok (.iinc 5 1, 3) := by decide +kernel
theorem dX7_bestStepFrom_50 : decode cX7_bestStepFrom 50 = .ok (.goto (-41), 3) := by decide +kernel
theorem dX7_bestStepFrom_53 : decode cX7_bestStepFrom 53 = .ok (.iload_n 3, 1) := by decide +kernel
theorem dX7_bestStepFrom_54 : decode cX7_bestStepFrom 54 = .ok (.ireturn, 1) := by decide +kernel
theorem dX7_startAt_0 : decode cX7_startAt 0 = .ok (.iconst 0, 1) := by decide +kernel
theorem dX7_startAt_1 : decode cX7_startAt 1 = .ok (.istore_n 2, 1) := by decide +kernel
theorem dX7_startAt_2 : decode cX7_startAt 2 = .ok (.iload_n 2, 1) := by decide +kernel
theorem dX7_startAt_3 : decode cX7_startAt 3 = .ok (.bipush 64, 2) := by decide +kernel
theorem dX7_startAt_5 : decode cX7_startAt 5 = .ok (.if_icmp .ge 33, 3) := by decide +kernel
theorem dX7_startAt_8 : decode cX7_startAt 8 = .ok (.aload_n 0, 1) := by decide +kernel
theorem dX7_startAt_9 : decode cX7_startAt 9 = .ok (.getfield 9, 3) := by decide +kernel
theorem dX7_startAt_12 : decode cX7_startAt 12 = .ok (.iload_n 2, 1) := by decide +kernel
theorem dX7_startAt_13 : decode cX7_startAt 13 = .ok (.iload_n 2, 1) := by decide +kernel
theorem dX7_startAt_14 : decode cX7_startAt 14 = .ok (.iload_n 1, 1) := by decide +kernel
theorem dX7_startAt_15 : decode cX7_startAt 15 = .ok (.if_icmp .ne 7, 3) := by decide +kernel
theorem dX7_startAt_18 : decode cX7_startAt 18 = .ok (.iconst 0, 1) := by decide +kernel
theorem dX7_startAt_19 : decode cX7_startAt 19 = .ok (.goto 5, 3) := by decide +kernel
theorem dX7_startAt_22 : decode cX7_startAt 22 = .ok (.ldc 48, 2) := by decide +kernel
theorem dX7_startAt_24 : decode cX7_startAt 24 = .ok (.iastore, 1) := by decide +kernel
theorem dX7_startAt_25 : decode cX7_startAt 25 = .ok (.aload_n 0, 1) := by decide +kernel
theorem dX7_startAt_26 : decode cX7_startAt 26 = .ok (.getfield 15, 3) := by decide +kernel
theorem dX7_startAt_29 : decode cX7_startAt 29 = .ok (.iload_n 2, 1) := by decide +kernel
theorem dX7_startAt_30 : decode cX7_startAt 30 = .ok (.iconst 0, 1) := by decide +kernel
theorem dX7_startAt_31 : decode cX7_startAt 31 = .ok (.bastore, 1) := by decide +kernel
theorem dX7_startAt_32 : decode cX7_startAt 32 = .ok (.iinc 2 1, 3) := by decide +kernel
theorem dX7_startAt_35 : decode cX7_startAt 35 = .ok (.goto (-33), 3) := by decide +kernel
theorem dX7_startAt_38 : decode cX7_startAt 38 = .ok (.return_, 1) := by decide +kernel
theorem dX7_nearestUnsettled_0 : decode cX7_nearestUnsettled 0 = .ok (.iconst (-1), 1) := by decide +kernel
theorem dX7_nearestUnsettled_1 : decode cX7_nearestUnsettled 1 = .ok (.istore_n 1, 1) := by decide +kernel
theorem dX7_nearestUnsettled_2 : decode cX7_nearestUnsettled 2 = .ok (.ldc 48, 2) := by decide +kernel
theorem dX7_nearestUnsettled_4 : decode cX7_nearestUnsettled 4 = .ok (.istore_n 2, 1) := by decide +kernel
theorem dX7_nearestUnsettled_5 : decode cX7_nearestUnsettled 5 = .ok (.iconst 0, 1) := by decide +kernel
theorem dX7_nearestUnsettled_6 : decode cX7_nearestUnsettled 6 = .ok (.istore_n 3, 1) := by decide +kernel
theorem dX7_nearestUnsettled_7 : decode cX7_nearestUnsettled 7 = .ok (.iload_n 3, 1) := by decide +kernel
theorem dX7_nearestUnsettled_8 : decode cX7_nearestUnsettled 8 = .ok (.bipush 64, 2) := by decide +kernel
theorem dX7_nearestUnsettled_10 : decode cX7_nearestUnsettled 10 = .ok (.if_icmp .ge 37, 3) := by decide +kernel
theorem dX7_nearestUnsettled_13 : decode cX7_nearestUnsettled 13 = .ok (.aload_n 0, 1) := by decide +kernel
theorem dX7_nearestUnsettled_14 : decode cX7_nearestUnsettled 14 = .ok (.getfield 15, 3) := by decide +kernel
theorem dX7_nearestUnsettled_17 : decode cX7_nearestUnsettled 17 = .ok (.iload_n 3, 1) := by decide +kernel
theorem dX7_nearestUnsettled_18 : decode cX7_nearestUnsettled 18 = .ok (.baload, 1) := by decide +kernel
theorem dX7_nearestUnsettled_19 : decode cX7_nearestUnsettled 19 = .ok (.ifCond .ne 22, 3) := by decide +kernel
theorem dX7_nearestUnsettled_22 : decode cX7_nearestUnsettled 22 = .ok (.aload_n 0, 1) := by decide +kernel
theorem dX7_nearestUnsettled_23 : decode cX7_nearestUnsettled 23 = .ok (.getfield 9, 3) := by decide +kernel
theorem dX7_nearestUnsettled_26 : decode cX7_nearestUnsettled 26 = .ok (.iload_n 3, 1) := by decide +kernel
theorem dX7_nearestUnsettled_27 : decode cX7_nearestUnsettled 27 = .ok (.iaload, 1) := by decide +kernel
theorem dX7_nearestUnsettled_28 : decode cX7_nearestUnsettled 28 = .ok (.iload_n 2, 1) := by decide +kernel
theorem dX7_nearestUnsettled_29 : decode cX7_nearestUnsettled 29 = .ok (.if_icmp .ge 12, 3) := by decide +kernel
theorem dX7_nearestUnsettled_32 : decode cX7_nearestUnsettled 32 = .ok (.aload_n 0, 1) := by decide +kernel
theorem dX7_nearestUnsettled_33 : decode cX7_nearestUnsettled 33 = .ok (.getfield 9, 3) := by decide +kernel
theorem dX7_nearestUnsettled_36 : decode cX7_nearestUnsettled 36 = .ok (.iload_n 3, 1) := by decide +kernel
theorem dX7_nearestUnsettled_37 : decode cX7_nearestUnsettled 37 = .ok (.iaload, 1) := by decide +kernel
theorem dX7_nearestUnsettled_38 : decode cX7_nearestUnsettled 38 = .ok (.istore_n 2, 1) := by decide +kernel
theorem dX7_nearestUnsettled_39 : decode cX7_nearestUnsettled 39 = .ok (.iload_n 3, 1) := by decide +kernel
theorem dX7_nearestUnsettled_40 : decode cX7_nearestUnsettled 40 = .ok (.istore_n 1, 1) := by decide +kernel
theorem dX7_nearestUnsettled_41 : decode cX7_nearestUnsettled 41 = .ok (.iinc 3 1, 3) := by decide +kernel
theorem dX7_nearestUnsettled_44 : decode cX7_nearestUnsettled 44 = .ok (.goto (-37), 3) := by decide +kernel
theorem dX7_nearestUnsettled_47 : decode cX7_nearestUnsettled 47 = .ok (.iload_n 1, 1) := by decide +kernel
theorem dX7_nearestUnsettled_48 : decode cX7_nearestUnsettled 48 = .ok (.ireturn, 1) := by decide +kernel
set_option maxRecDepth 20000 in
theorem ggX7_reachNeighboursOf_X3_neighbour : GoodIn wsX7_reachNeighboursOf wsX3_neighbour := goodIn_r _ [9, 10, 11, 8, 12, 13, 14, 15] (by decide +kernel) (by decide +kernel)
set_option maxRecDepth 20000 in
theorem gX7_reachNeighboursOf_X3_neighbour : GoodIn wsX7_reachNeighboursOf (va_wsS RX7 49 yX3_neighbour wsX3_neighbour) := goodIn_app (goodIn_of _ (by decide +kernel)) ggX7_reachNeighboursOf_X3_neighbour
set_option maxRecDepth 20000 in
theorem ggX7_reachNeighboursOf_X3_isPlace : GoodIn wsX7_reachNeighboursOf wsX3_isPlace := goodIn_r _ [18] (by decide +kernel) (by decide +kernel)
set_option maxRecDepth 20000 in
theorem gX7_reachNeighboursOf_X3_isPlace : GoodIn wsX7_reachNeighboursOf (va_wsS RX7 27 yX3_isPlace wsX3_isPlace) := goodIn_app (goodIn_of _ (by decide +kernel)) ggX7_reachNeighboursOf_X3_isPlace
set_option maxRecDepth 20000 in
theorem ggX7_reachNeighboursOf_X7_sumOver : GoodIn wsX7_reachNeighboursOf wsX7_sumOver := goodIn_r _ [23, 24, 2, 3, 4, 5, 25, 26, 27, 8, 28, 29, 30, 17, 18, 31, 32, 33, 34, 35, 36, 37, 38, 39, 40, 41, 42, 43, 44, 45, 22, 46, 1, 16, 49, 50, 47, 48] (by decide +kernel) (by decide +kernel)
set_option maxRecDepth 20000 in
theorem gX7_reachNeighboursOf_X7_sumOver : GoodIn wsX7_reachNeighboursOf (wsV RX7 53 RX7 yX7_sumOver wsX7_sumOver) := goodIn_app (goodIn_of _ (by decide +kernel)) ggX7_reachNeighboursOf_X7_sumOver
theorem dX7_reachNeighboursOf_0 : decode cX7_reachNeighboursOf 0 = .ok (.iconst 0, 1) := by decide +kernel
theorem dX7_reachNeighboursOf_1 : decode cX7_reachNeighboursOf 1 = .ok (.istore_n 3, 1) := by decide +kernel
theorem dX7_reachNeighboursOf_2 : decode cX7_reachNeighboursOf 2 = .ok (.iload_n 3, 1) := by decide +kernel
theorem dX7_reachNeighboursOf_3 : decode cX7_reachNeighboursOf 3 = .ok (.iconst 4, 1) := by decide +kernel
theorem dX7_reachNeighboursOf_4 : decode cX7_reachNeighboursOf 4 = .ok (.if_icmp .ge 49, 3) := by decide +kernel
theorem dX7_reachNeighboursOf_7 : decode cX7_reachNeighboursOf 7 = .ok (.iload_n 1, 1) := by decide +kernel
theorem dX7_reachNeighboursOf_8 : decode cX7_reachNeighboursOf 8 = .ok (.iload_n 3, 1) := by decide +kernel
theorem dX7_reachNeighboursOf_9 : decode cX7_reachNeighboursOf 9 = .ok (.invokestatic 49, 3) := by decide +kernel
theorem dX7_reachNeighboursOf_12 : decode cX7_reachNeighboursOf 12 = .ok (.istore 4, 2) := by decide +kernel
theorem dX7_reachNeighboursOf_14 : decode cX7_reachNeighboursOf 14 = .ok (.iload 4, 2) := by decide +kernel
theorem dX7_reachNeighboursOf_16 : decode cX7_reachNeighboursOf 16 = .ok (.invokestatic 27, 3) := by decide +kernel
theorem dX7_reachNeighboursOf_19 : decode cX7_reachNeighboursOf 19 = .ok (.ifCond .eq 28, 3) := by decide +kernel
theorem dX7_reachNeighboursOf_22 : decode cX7_reachNeighboursOf 22 = .ok (.aload_n 0, 1) := by decide +kernel
theorem dX7_reachNeighboursOf_23 : decode cX7_reachNeighboursOf 23 = .ok (.getfield 9, 3) := by decide +kernel
theorem dX7_reachNeighboursOf_26 : decode cX7_reachNeighboursOf 26 = .ok (.iload 4, 2) := by decide +kernel
theorem dX7_reachNeighboursOf_28 : decode cX7_reachNeighboursOf 28 = .ok (.aload_n 0, 1) := by decide +kernel
theorem dX7_reachNeighboursOf_29 : decode cX7_reachNeighboursOf 29 = .ok (.getfield 9, 3) := by decide +kernel
theorem dX7_reachNeighboursOf_32 : decode cX7_reachNeighboursOf 32 = .ok (.iload 4, 2) := by decide +kernel
theorem dX7_reachNeighboursOf_34 : decode cX7_reachNeighboursOf 34 = .ok (.iaload, 1) := by decide +kernel
theorem dX7_reachNeighboursOf_35 : decode cX7_reachNeighboursOf 35 = .ok (.aload_n 0, 1) := by decide +kernel
theorem dX7_reachNeighboursOf_36 : decode cX7_reachNeighboursOf 36 = .ok (.iload 4, 2) := by decide +kernel
theorem dX7_reachNeighboursOf_38 : decode cX7_reachNeighboursOf 38 = .ok (.iload_n 1, 1) := by decide +kernel
theorem dX7_reachNeighboursOf_39 : decode cX7_reachNeighboursOf 39 = .ok (.aload_n 2, 1) := by decide +kernel
theorem dX7_reachNeighboursOf_40 : decode cX7_reachNeighboursOf 40 = .ok (.invokevirtual 53, 3) := by decide +kernel
theorem dX7_reachNeighboursOf_43 : decode cX7_reachNeighboursOf 43 = .ok (.invokestatic 57, 3) := by decide +kernel
theorem dX7_reachNeighboursOf_46 : decode cX7_reachNeighboursOf 46 = .ok (.iastore, 1) := by decide +kernel
theorem dX7_reachNeighboursOf_47 : decode cX7_reachNeighboursOf 47 = .ok (.iinc 3 1, 3) := by decide +kernel
theorem dX7_reachNeighboursOf_50 : decode cX7_reachNeighboursOf 50 = .ok (.goto (-48), 3) := by decide +kernel
theorem dX7_reachNeighboursOf_53 : decode cX7_reachNeighboursOf 53 = .ok (.return_, 1) := by decide +kernel
set_option maxRecDepth 20000 in
theorem ggX7_betterAll_X7_bestStepFrom : GoodIn wsX7_betterAll wsX7_bestStepFrom := goodIn_r _ [6, 7, 8, 9, 10, 11, 12, 13, 14, 15, 16, 17, 18, 19, 20, 5, 21, 22, 23, 24, 25, 26, 27, 28, 29, 30, 31, 32, 33, 34, 35, 36, 37, 38, 39, 40, 41, 42, 43, 44, 45, 46, 47, 48, 49, 1, 50, 53, 54, 51, 52] (by decide +kernel) (by decide +kernel)
set_option maxRecDepth 20000 in
theorem gX7_betterAll_X7_bestStepFrom : GoodIn wsX7_betterAll (wsV RX7 62 RX7 yX7_bestStepFrom wsX7_bestStepFrom) := goodIn_app (goodIn_of _ (by decide +kernel)) ggX7_betterAll_X7_bestStepFrom
set_option maxRecDepth 20000 in
theorem ggX7_betterAll_X7_sumOver : GoodIn wsX7_betterAll wsX7_sumOver := goodIn_r _ [21, 7, 22, 23, 24, 25, 26, 27, 28, 10, 29, 30, 31, 32, 33, 34, 35, 36, 37, 38, 39, 40, 41, 42, 43, 44, 45, 46, 47, 48, 5, 49, 1, 50, 53, 54, 51, 52] (by decide +kernel) (by decide +kernel)
set_option maxRecDepth 20000 in
theorem gX7_betterAll_X7_sumOver : GoodIn wsX7_betterAll (wsV RX7 53 RX7 yX7_sumOver wsX7_sumOver) := goodIn_app (goodIn_of _ (by decide +kernel)) ggX7_betterAll_X7_sumOver
theorem dX7_betterAll_0 : decode cX7_betterAll 0 = .ok (.iconst 0, 1) := by decide +kernel
theorem dX7_betterAll_1 : decode cX7_betterAll 1 = .ok (.istore_n 2, 1) := by decide +kernel
theorem dX7_betterAll_2 : decode cX7_betterAll 2 = .ok (.iconst 0, 1) := by decide +kernel
theorem dX7_betterAll_3 : decode cX7_betterAll 3 = .ok (.istore_n 3, 1) := by decide +kernel
theorem dX7_betterAll_4 : decode cX7_betterAll 4 = .ok (.iload_n 3, 1) := by decide +kernel
theorem dX7_betterAll_5 : decode cX7_betterAll 5 = .ok (.bipush 64, 2) := by decide +kernel
theorem dX7_betterAll_7 : decode cX7_betterAll 7 = .ok (.if_icmp .ge 44, 3) := by decide +kernel
theorem dX7_betterAll_10 : decode cX7_betterAll 10 = .ok (.aload_n 0, 1) := by decide +kernel
theorem dX7_betterAll_11 : decode cX7_betterAll 11 = .ok (.iload_n 3, 1) := by decide +kernel
theorem dX7_betterAll_12 : decode cX7_betterAll 12 = .ok (.aload_n 0, 1) := by decide +kernel
theorem dX7_betterAll_13 : decode cX7_betterAll 13 = .ok (.iload_n 3, 1) := by decide +kernel
theorem dX7_betterAll_14 : decode cX7_betterAll 14 = .ok (.aload_n 1, 1) := by decide +kernel
theorem dX7_betterAll_15 : decode cX7_betterAll 15 = .ok (.invokevirtual 62, 3) := by decide +kernel
theorem dX7_betterAll_18 : decode cX7_betterAll 18 = .ok (.aload_n 1, 1) := by decide +kernel
theorem dX7_betterAll_19 : decode cX7_betterAll 19 = .ok (.invokevirtual 53, 3) := by decide +kernel
theorem dX7_betterAll_22 : decode cX7_betterAll 22 = .ok (.istore 4, 2) := by decide +kernel
theorem dX7_betterAll_24 : decode cX7_betterAll 24 = .ok (.iload 4, 2) := by decide +kernel
theorem dX7_betterAll_26 : decode cX7_betterAll 26 = .ok (.aload_n 0, 1) := by decide +kernel
theorem dX7_betterAll_27 : decode cX7_betterAll 27 = .ok (.getfield 9, 3) := by decide +kernel
theorem dX7_betterAll_30 : decode cX7_betterAll 30 = .ok (.iload_n 3, 1) := by decide +kernel
theorem dX7_betterAll_31 : decode cX7_betterAll 31 = .ok (.iaload, 1) := by decide +kernel
theorem dX7_betterAll_32 : decode cX7_betterAll 32 = .ok (.if_icmp .ge 13, 3) := by decide +kernel
theorem dX7_betterAll_35 : decode cX7_betterAll 35 = .ok (.aload_n 0, 1) := by decide +kernel
theorem dX7_betterAll_36 : decode cX7_betterAll 36 = .ok (.getfield 9, 3) := by decide +kernel
theorem dX7_betterAll_39 : decode cX7_betterAll 39 = .ok (.iload_n 3, 1) := by decide +kernel
theorem dX7_betterAll_40 : decode cX7_betterAll 40 = .ok (.iload 4, 2) := by decide +kernel
theorem dX7_betterAll_42 : decode cX7_betterAll 42 = .ok (.iastore, 1) := by decide +kernel
theorem dX7_betterAll_43 : decode cX7_betterAll 43 = .ok (.iconst 1, 1) := by decide +kernel
theorem dX7_betterAll_44 : decode cX7_betterAll 44 = .ok (.istore_n 2, 1) := by decide +kernel
theorem dX7_betterAll_45 : decode cX7_betterAll 45 = .ok (.iinc 3 1, 3) := by decide +kernel
theorem dX7_betterAll_48 : decode cX7_betterAll 48 = .ok (.goto (-44), 3) := by decide +kernel
theorem dX7_betterAll_51 : decode cX7_betterAll 51 = .ok (.iload_n 2, 1) := by decide +kernel
theorem dX7_betterAll_52 : decode cX7_betterAll 52 = .ok (.ireturn, 1) := by decide +kernel
set_option maxRecDepth 20000 in
theorem ggX7_sumOver_X3_canEnter : GoodIn wsX7_sumOver wsX3_canEnter := goodIn_r _ [10, 11, 12, 13, 9, 14, 34, 35] (by decide +kernel) (by decide +kernel)
set_option maxRecDepth 20000 in
theorem gX7_sumOver_X3_canEnter : GoodIn wsX7_sumOver (wsV RX7 33 RX3 yX3_canEnter wsX3_canEnter) := goodIn_app (goodIn_of _ (by decide +kernel)) ggX7_sumOver_X3_canEnter
set_option maxRecDepth 20000 in
theorem ggX7_sumOver_X3_stepCost : GoodIn wsX7_sumOver wsX3_stepCost := goodIn_r _ [18, 19, 20, 4, 21, 22, 23, 24, 9, 25, 26, 34, 35] (by decide +kernel) (by decide +kernel)
set_option maxRecDepth 20000 in
theorem gX7_sumOver_X3_stepCost : GoodIn wsX7_sumOver (wsV RX7 66 RX3 yX3_stepCost wsX3_stepCost) := goodIn_app (goodIn_of _ (by decide +kernel)) ggX7_sumOver_X3_stepCost
set_option maxRecDepth 20000 in
theorem ggX7_sumOver_X7_sumKeptOf : GoodIn wsX7_sumOver wsX7_sumKeptOf := goodIn_r _ [31, 32, 1, 33, 13, 9, 14, 36, 37] (by decide +kernel) (by decide +kernel)
set_option maxRecDepth 20000 in
theorem gX7_sumOver_X7_sumKeptOf : GoodIn wsX7_sumOver (wsV RX7 44 RX7 yX7_sumKeptOf wsX7_sumKeptOf) := goodIn_app (goodIn_of _ (by decide +kernel)) ggX7_sumOver_X7_sumKeptOf
theorem dX7_sumOver_0 : decode cX7_sumOver 0 = .ok (.aload_n 3, 1) := by decide +kernel
theorem dX7_sumOver_1 : decode cX7_sumOver 1 = .ok (.iload_n 2, 1) := by decide +kernel
theorem dX7_sumOver_2 : decode cX7_sumOver 2 = .ok (.invokevirtual 33, 3) := by decide +kernel
theorem dX7_sumOver_5 : decode cX7_sumOver 5 = .ok (.ifCond .ne 6, 3) := by decide +kernel
theorem dX7_sumOver_8 : decode cX7_sumOver 8 = .ok (.ldc 48, 2) := by decide +kernel
theorem dX7_sumOver_10 : decode cX7_sumOver 10 = .ok (.ireturn, 1) := by decide +kernel
theorem dX7_sumOver_11 : decode cX7_sumOver 11 = .ok (.ldc 48, 2) := by decide +kernel
theorem dX7_sumOver_13 : decode cX7_sumOver 13 = .ok (.aload_n 3, 1) := by decide +kernel
theorem dX7_sumOver_14 : decode cX7_sumOver 14 = .ok (.iload_n 1, 1) := by decide +kernel
theorem dX7_sumOver_15 : decode cX7_sumOver 15 = .ok (.iload_n 2, 1) := by decide +kernel
theorem dX7_sumOver_16 : decode cX7_sumOver 16 = .ok (.invokevirtual 66, 3) := by decide +kernel
theorem dX7_sumOver_19 : decode cX7_sumOver 19 = .ok (.aload_n 0, 1) := by decide +kernel
theorem dX7_sumOver_20 : decode cX7_sumOver 20 = .ok (.iload_n 2, 1) := by decide +kernel
theorem dX7_sumOver_21 : decode cX7_sumOver 21 = .ok (.invokevirtual 44, 3) := by decide +kernel
theorem dX7_sumOver_24 : decode cX7_sumOver 24 = .ok (.iadd, 1) := by decide +kernel
theorem dX7_sumOver_25 : decode cX7_sumOver 25 = .ok (.invokestatic 57, 3) := by decide +kernel
theorem dX7_sumOver_28 : decode cX7_sumOver 28 = .ok (.ireturn, 1) := by decide +kernel
set_option maxRecDepth 20000 in
theorem ggX7_sumKeptOf_X3_isPlace : GoodIn wsX7_sumKeptOf wsX3_isPlace := goodIn_r _ [6] (by decide +kernel) (by decide +kernel)
set_option maxRecDepth 20000 in
theorem gX7_sumKeptOf_X3_isPlace : GoodIn wsX7_sumKeptOf (va_wsS RX7 27 yX3_isPlace wsX3_isPlace) := goodIn_app (goodIn_of _ (by decide +kernel)) ggX7_sumKeptOf_X3_isPlace
theorem dX7_sumKeptOf_0 : decode cX7_sumKeptOf 0 = .ok (.iload_n 1, 1) := by decide +kernel
theorem dX7_sumKeptOf_1 : decode cX7_sumKeptOf 1 = .ok (.invokestatic 27, 3) := by decide +kernel
theorem dX7_sumKeptOf_4 : decode cX7_sumKeptOf 4 = .ok (.ifCond .eq 12, 3) := by decide +kernel
theorem dX7_sumKeptOf_7 : decode cX7_sumKeptOf 7 = .ok (.aload_n 0, 1) := by decide +kernel
theorem dX7_sumKeptOf_8 : decode cX7_sumKeptOf 8 = .ok (.getfield 9, 3) := by decide +kernel
theorem dX7_sumKeptOf_11 : decode cX7_sumKeptOf 11 = .ok (.iload_n 1, 1) := by decide +kernel
theorem dX7_sumKeptOf_12 : decode cX7_sumKeptOf 12 = .ok (.iaload, 1) := by decide +kernel
theorem dX7_sumKeptOf_13 : decode cX7_sumKeptOf 13 = .ok (.goto 5, 3) := by decide +kernel
theorem dX7_sumKeptOf_16 : decode cX7_sumKeptOf 16 = .ok (.ldc 48, 2) := by decide +kernel
theorem dX7_sumKeptOf_18 : decode cX7_sumKeptOf 18 = .ok (.ireturn, 1) := by decide +kernel
set_option maxRecDepth 20000 in
theorem ggX8_init_X3_init : GoodIn wsX8_init wsX3_init := goodIn_r _ [34, 35, 2, 3, 21, 36, 37, 38, 75, 76] (by decide +kernel) (by decide +kernel)
set_option maxRecDepth 20000 in
theorem gX8_init_X3_init_n11 : GoodIn wsX8_init (wsX3_init) := ggX8_init_X3_init
set_option maxRecDepth 20000 in
theorem ggX8_init_X7_init : GoodIn wsX8_init wsX7_init := goodIn_r _ [40, 41, 2, 3, 21, 42, 37, 43, 87, 88] (by decide +kernel) (by decide +kernel)
set_option maxRecDepth 20000 in
theorem gX8_init_X7_init_n18 : GoodIn wsX8_init (wsX7_init) := ggX8_init_X7_init
set_option maxRecDepth 20000 in
theorem ggX8_init_X5_init : GoodIn wsX8_init wsX5_init := goodIn_r _ [45, 46, 2, 3, 21, 47, 48, 89, 90] (by decide +kernel) (by decide +kernel)
set_option maxRecDepth 20000 in
theorem gX8_init_X5_init_n25 : GoodIn wsX8_init (wsX5_init) := ggX8_init_X5_init
set_option maxRecDepth 20000 in
theorem ggX8_init_Jx4a65c_init_da8c8 : GoodIn wsX8_init wsJx4a65c_init_da8c8 := goodIn_r _ [51, 52, 53, 54, 55, 56, 57, 58, 59, 60, 61, 62, 63, 2, 3, 91, 92, 93] (by decide +kernel) (by decide +kernel)
set_option maxRecDepth 20000 in
theorem gX8_init_Jx4a65c_init_da8c8 : GoodIn wsX8_init (wsJx4a65c_init_da8c8) := ggX8_init_Jx4a65c_init_da8c8
set_option maxRecDepth 20000 in
theorem ggX8_init_X0_init : GoodIn wsX8_init wsX0_init := goodIn_r _ [65, 66, 2, 3, 21, 67, 68, 94, 95] (by decide +kernel) (by decide +kernel)
set_option maxRecDepth 20000 in
theorem gX8_init_X0_init_n46 : GoodIn wsX8_init (wsX0_init) := ggX8_init_X0_init
set_option maxRecDepth 20000 in
theorem ggX8_init_X2_init : GoodIn wsX8_init wsX2_init := goodIn_r _ [70, 71, 2, 3, 72, 17, 18, 73, 74, 50, 51, 52, 53, 54, 55, 56, 57, 58, 59, 60, 61, 62, 63, 91, 92, 93, 96] (by decide +kernel) (by decide +kernel)
set_option maxRecDepth 20000 in
theorem gX8_init_X2_init_n53 : GoodIn wsX8_init (wsX2_init) := ggX8_init_X2_init
theorem dX8_init_0 : decode cX8_init 0 = .ok (.aload_n 0, 1) := by decide +kernel
theorem dX8_init_1 : decode cX8_init 1 = .ok (.invokespecial 3, 3) := by decide +kernel
theorem dX8_init_4 : decode cX8_init 4 = .ok (.aload_n 0, 1) := by decide +kernel
theorem dX8_init_5 : decode cX8_init 5 = .ok (.new 9, 3) := by decide +kernel
theorem dX8_init_8 : decode cX8_init 8 = .ok (.dup, 1) := by decide +kernel
theorem dX8_init_9 : decode cX8_init 9 = .ok (.invokespecial 11, 3) := by decide +kernel
theorem dX8_init_12 : decode cX8_init 12 = .ok (.putfield 12, 3) := by decide +kernel
theorem dX8_init_15 : decode cX8_init 15 = .ok (.aload_n 0, 1) := by decide +kernel
theorem dX8_init_16 : decode cX8_init 16 = .ok (.new 16, 3) := by decide +kernel
theorem dX8_init_19 : decode cX8_init 19 = .ok (.dup, 1) := by decide +kernel
theorem dX8_init_20 : decode cX8_init 20 = .ok (.invokespecial 18, 3) := by decide +kernel
theorem dX8_init_23 : decode cX8_init 23 = .ok (.putfield 19, 3) := by decide +kernel
theorem dX8_init_26 : decode cX8_init 26 = .ok (.aload_n 0, 1) := by decide +kernel
theorem dX8_init_27 : decode cX8_init 27 = .ok (.new 23, 3) := by decide +kernel
theorem dX8_init_30 : decode cX8_init 30 = .ok (.dup, 1) := by decide +kernel
theorem dX8_init_31 : decode cX8_init 31 = .ok (.invokespecial 25, 3) := by decide +kernel
theorem dX8_init_34 : decode cX8_init 34 = .ok (.putfield 26, 3) := by decide +kernel
theorem dX8_init_37 : decode cX8_init 37 = .ok (.aload_n 0, 1) := by decide +kernel
theorem dX8_init_38 : decode cX8_init 38 = .ok (.new 30, 3) := by decide +kernel
theorem dX8_init_41 : decode cX8_init 41 = .ok (.dup, 1) := by decide +kernel
theorem dX8_init_42 : decode cX8_init 42 = .ok (.invokespecial 32, 3) := by decide +kernel
theorem dX8_init_45 : decode cX8_init 45 = .ok (.putfield 33, 3) := by decide +kernel
theorem dX8_init_48 : decode cX8_init 48 = .ok (.aload_n 0, 1) := by decide +kernel
theorem dX8_init_49 : decode cX8_init 49 = .ok (.new 30, 3) := by decide +kernel
theorem dX8_init_52 : decode cX8_init 52 = .ok (.dup, 1) := by decide +kernel
theorem dX8_init_53 : decode cX8_init 53 = .ok (.invokespecial 32, 3) := by decide +kernel
theorem dX8_init_56 : decode cX8_init 56 = .ok (.putfield 37, 3) := by decide +kernel
theorem dX8_init_59 : decode cX8_init 59 = .ok (.aload_n 0, 1) := by decide +kernel
theorem dX8_init_60 : decode cX8_init 60 = .ok (.iconst 4, 1) := by decide +kernel
theorem dX8_init_61 : decode cX8_init 61 = .ok (.newarray .int, 2) := by decide +kernel
theorem dX8_init_63 : decode cX8_init 63 = .ok (.putfield 40, 3) := by decide +kernel
theorem dX8_init_66 : decode cX8_init 66 = .ok (.aload_n 0, 1) := by decide +kernel
theorem dX8_init_67 : decode cX8_init 67 = .ok (.new 44, 3) := by decide +kernel
theorem dX8_init_70 : decode cX8_init 70 = .ok (.dup, 1) := by decide +kernel
theorem dX8_init_71 : decode cX8_init 71 = .ok (.invokespecial 46, 3) := by decide +kernel
theorem dX8_init_74 : decode cX8_init 74 = .ok (.putfield 47, 3) := by decide +kernel
theorem dX8_init_77 : decode cX8_init 77 = .ok (.aload_n 0, 1) := by decide +kernel
theorem dX8_init_78 : decode cX8_init 78 = .ok (.new 51, 3) := by decide +kernel
theorem dX8_init_81 : decode cX8_init 81 = .ok (.dup, 1) := by decide +kernel
theorem dX8_init_82 : decode cX8_init 82 = .ok (.invokespecial 53, 3) := by decide +kernel
theorem dX8_init_85 : decode cX8_init 85 = .ok (.putfield 54, 3) := by decide +kernel
theorem dX8_init_88 : decode cX8_init 88 = .ok (.aload_n 0, 1) := by decide +kernel
theorem dX8_init_89 : decode cX8_init 89 = .ok (.iconst 0, 1) := by decide +kernel
theorem dX8_init_90 : decode cX8_init 90 = .ok (.putfield 58, 3) := by decide +kernel
theorem dX8_init_93 : decode cX8_init 93 = .ok (.aload_n 0, 1) := by decide +kernel
theorem dX8_init_94 : decode cX8_init 94 = .ok (.iconst 0, 1) := by decide +kernel
theorem dX8_init_95 : decode cX8_init 95 = .ok (.putfield 62, 3) := by decide +kernel
theorem dX8_init_98 : decode cX8_init 98 = .ok (.return_, 1) := by decide +kernel
set_option maxRecDepth 20000 in
theorem ggX8_setHeight_X8_requirePlace : GoodIn wsX8_setHeight wsX8_requirePlace := goodIn_ca (goodIn_r _ [10, 11, 12, 13, 14, 15, 16] (by decide +kernel) (by decide +kernel)) (goodIn_sub (fun _ h => List.mem_cons_of_mem _ (List.mem_append_right _ h)) (by decide +kernel))
set_option maxRecDepth 20000 in
theorem gX8_setHeight_X8_requirePlace : GoodIn wsX8_setHeight (va_wsS RX8 65 yX8_requirePlace wsX8_requirePlace) := goodIn_app (goodIn_of _ (by decide +kernel)) ggX8_setHeight_X8_requirePlace
set_option maxRecDepth 20000 in
theorem ggX8_setHeight_X3_shape : GoodIn wsX8_setHeight wsX3_shape := goodIn_r _ [20, 21, 22, 14, 15, 16, 123, 124] (by decide +kernel) (by decide +kernel)
set_option maxRecDepth 20000 in
theorem gX8_setHeight_X3_shape : GoodIn wsX8_setHeight (wsV RX8 72 RX3 yX3_shape wsX3_shape) := goodIn_app (goodIn_of _ (by decide +kernel)) ggX8_setHeight_X3_shape
set_option maxRecDepth 20000 in
theorem ggX8_setHeight_X2_lookAgainAt : GoodIn wsX8_setHeight wsX2_lookAgainAt := goodIn_r _ [27, 28, 29, 30, 31, 32, 33, 34, 35, 36, 37, 38, 39, 40, 41, 42, 43, 44, 45, 46, 47, 48, 49, 50, 51, 52, 53, 54, 55, 56, 57, 58, 59, 60, 61, 62, 63, 64, 65, 66, 67, 68, 69, 15, 70, 71, 72, 73, 74, 75, 76, 77, 78, 79, 80, 81, 82, 125, 126, 127, 128, 129, 130, 131, 132, 133] (by decide +kernel) (by decide +kernel)
set_option maxRecDepth 20000 in
theorem gX8_setHeight_X2_lookAgainAt : GoodIn wsX8_setHeight (wsV RX8 76 RX2 yX2_lookAgainAt wsX2_lookAgainAt) := goodIn_app (goodIn_of _ (by decide +kernel)) ggX8_setHeight_X2_lookAgainAt
set_option maxRecDepth 20000 in
theorem ggX8_setHeight_Jx4a65c_size_8abf5 : GoodIn wsX8_setHeight wsJx4a65c_size_8abf5 := goodIn_r _ [34, 35, 126, 127, 128] (by decide +kernel) (by decide +kernel)
set_option maxRecDepth 20000 in
theorem gX8_setHeight_Jx4a65c_size_8abf5 : GoodIn wsX8_setHeight (wsV RX8 79 RJx4a65c yJx4a65c_size_8abf5 wsJx4a65c_size_8abf5) := goodIn_app (goodIn_of _ (by decide +kernel)) ggX8_setHeight_Jx4a65c_size_8abf5
set_option maxRecDepth 20000 in
theorem ggX8_setHeight_Jx4a65c_get_915e3 : GoodIn wsX8_setHeight wsJx4a65c_get_915e3 := goodIn_r _ [39, 35, 40, 41, 42, 43, 44, 45, 46, 47, 48, 49, 50, 33, 51, 52, 126, 127, 128] (by decide +kernel) (by decide +kernel)
set_option maxRecDepth 20000 in
theorem gX8_setHeight_Jx4a65c_get_915e3 : GoodIn wsX8_setHeight (wsV RX8 83 RJx4a65c yJx4a65c_get_915e3 wsJx4a65c_get_915e3) := goodIn_app (goodIn_of _ (by decide +kernel)) ggX8_setHeight_Jx4a65c_get_915e3
set_option maxRecDepth 20000 in
theorem ggX8_setHeight_X4_follow : GoodIn wsX8_setHeight wsX4_follow := goodIn_r _ [89, 90, 91, 92, 93, 24, 25, 26, 27, 28, 29, 30, 31, 32, 33, 34, 35, 36, 37, 38, 39, 40, 41, 42, 43, 44, 45, 46, 47, 48, 49, 50, 51, 52, 53, 54, 55, 56, 57, 58, 59, 60, 61, 62, 63, 64, 65, 66, 67, 68, 69, 15, 70, 71, 72, 73, 74, 75, 76, 77, 78, 79, 80, 81, 82, 94, 95, 96, 97, 98, 99, 100, 101, 102, 103, 104, 105, 106, 107, 108, 109, 110, 111, 9, 112, 134, 135, 136, 137, 125, 126, 127, 128, 129, 130, 131, 132, 133] (by decide +kernel) (by decide +kernel)
set_option maxRecDepth 20000 in
theorem gX8_setHeight_X4_follow : GoodIn wsX8_setHeight (wsV RX8 89 RX4 yX4_follow wsX4_follow) := goodIn_app (goodIn_of _ (by decide +kernel)) ggX8_setHeight_X4_follow
theorem dX8_setHeight_0 : decode cX8_setHeight 0 = .ok (.iload_n 1, 1) := by decide +kernel
theorem dX8_setHeight_1 : decode cX8_setHeight 1 = .ok (.invokestatic 65, 3) := by decide +kernel
theorem dX8_setHeight_4 : decode cX8_setHeight 4 = .ok (.iload_n 2, 1) := by decide +kernel
theorem dX8_setHeight_5 : decode cX8_setHeight 5 = .ok (.ifCond .lt 9, 3) := by decide +kernel
theorem dX8_setHeight_8 : decode cX8_setHeight 8 = .ok (.iload_n 2, 1) := by decide +kernel
theorem dX8_setHeight_9 : decode cX8_setHeight 9 = .ok (.bipush 9, 2) := by decide +kernel
theorem dX8_setHeight_11 : decode cX8_setHeight 11 = .ok (.if_icmp .le 11, 3) := by decide +kernel
theorem dX8_setHeight_14 : decode cX8_setHeight 14 = .ok (.new 69, 3) := by decide +kernel
theorem dX8_setHeight_17 : decode cX8_setHeight 17 = .ok (.dup, 1) := by decide +kernel
theorem dX8_setHeight_18 : decode cX8_setHeight 18 = .ok (.invokespecial 71, 3) := by decide +kernel
theorem dX8_setHeight_21 : decode cX8_setHeight 21 = .ok (.athrow, 1) := by decide +kernel
theorem dX8_setHeight_22 : decode cX8_setHeight 22 = .ok (.aload_n 0, 1) := by decide +kernel
theorem dX8_setHeight_23 : decode cX8_setHeight 23 = .ok (.getfield 12, 3) := by decide +kernel
theorem dX8_setHeight_26 : decode cX8_setHeight 26 = .ok (.iload_n 1, 1) := by decide +kernel
theorem dX8_setHeight_27 : decode cX8_setHeight 27 = .ok (.iload_n 2, 1) := by decide +kernel
theorem dX8_setHeight_28 : decode cX8_setHeight 28 = .ok (.invokevirtual 72, 3) := by decide +kernel
theorem dX8_setHeight_31 : decode cX8_setHeight 31 = .ok (.aload_n 0, 1) := by decide +kernel
theorem dX8_setHeight_32 : decode cX8_setHeight 32 = .ok (.getfield 54, 3) := by decide +kernel
theorem dX8_setHeight_35 : decode cX8_setHeight 35 = .ok (.iload_n 1, 1) := by decide +kernel
theorem dX8_setHeight_36 : decode cX8_setHeight 36 = .ok (.iload_n 2, 1) := by decide +kernel
theorem dX8_setHeight_37 : decode cX8_setHeight 37 = .ok (.invokevirtual 76, 3) := by decide +kernel
theorem dX8_setHeight_40 : decode cX8_setHeight 40 = .ok (.iconst 0, 1) := by decide +kernel
theorem dX8_setHeight_41 : decode cX8_setHeight 41 = .ok (.istore_n 3, 1) := by decide +kernel
theorem dX8_setHeight_42 : decode cX8_setHeight 42 = .ok (.iconst 0, 1) := by decide +kernel
theorem dX8_setHeight_43 : decode cX8_setHeight 43 = .ok (.istore 4, 2) := by decide +kernel
theorem dX8_setHeight_45 : decode cX8_setHeight 45 = .ok (.iload 4, 2) := by decide +kernel
theorem dX8_setHeight_47 : decode cX8_setHeight 47 = .ok (.aload_n 0, 1) := by decide +kernel
theorem dX8_setHeight_48 : decode cX8_setHeight 48 = .ok (.getfield 33, 3) := by decide +kernel
theorem dX8_setHeight_51 : decode cX8_setHeight 51 = .ok (.invokevirtual 79, 3) := by decide +kernel
theorem dX8_setHeight_54 : decode cX8_setHeight 54 = .ok (.if_icmp .ge 32, 3) := by decide +kernel
theorem dX8_setHeight_57 : decode cX8_setHeight 57 = .ok (.aload_n 0, 1) := by decide +kernel
theorem dX8_setHeight_58 : decode cX8_setHeight 58 = .ok (.getfield 33, 3) := by decide +kernel
