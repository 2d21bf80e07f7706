set_option maxRecDepth 20000 in
theorem ggX0_write_X0_codeOf : GoodIn wsX0_write wsX0_codeOf := goodIn_r _ [6] (by decide +kernel) (by decide +kernel)
set_option maxRecDepth 20000 in
theorem gX0_write_X0_codeOf : GoodIn wsX0_write (va_wsS RX0 19 yX0_codeOf wsX0_codeOf) := goodIn_app (goodIn_of _ (by decide +kernel)) ggX0_write_X0_codeOf
theorem dX0_write_0 : decode cX0_write 0 = .ok (.aload_n 0, 1) := by decide +kernel
theorem dX0_write_1 : decode cX0_write 1 = .ok (.getfield 15, 3) := by decide +kernel
theorem dX0_write_4 : decode cX0_write 4 = .ok (.ifCond .lt 41, 3) := by decide +kernel
theorem dX0_write_7 : decode cX0_write 7 = .ok (.aload_n 0, 1) := by decide +kernel
theorem dX0_write_8 : decode cX0_write 8 = .ok (.getfield 15, 3) := by decide +kernel
theorem dX0_write_11 : decode cX0_write 11 = .ok (.aload_n 0, 1) := by decide +kernel
theorem dX0_write_12 : decode cX0_write 12 = .ok (.getfield 9, 3) := by decide +kernel
theorem dX0_write_15 : decode cX0_write 15 = .ok (.arraylength, 1) := by decide +kernel
theorem dX0_write_16 : decode cX0_write 16 = .ok (.if_icmp .ge 29, 3) := by decide +kernel
theorem dX0_write_19 : decode cX0_write 19 = .ok (.aload_n 0, 1) := by decide +kernel
theorem dX0_write_20 : decode cX0_write 20 = .ok (.getfield 9, 3) := by decide +kernel
theorem dX0_write_23 : decode cX0_write 23 = .ok (.aload_n 0, 1) := by decide +kernel
theorem dX0_write_24 : decode cX0_write 24 = .ok (.getfield 15, 3) := by decide +kernel
theorem dX0_write_27 : decode cX0_write 27 = .ok (.iload_n 2, 1) := by decide +kernel
theorem dX0_write_28 : decode cX0_write 28 = .ok (.iload_n 3, 1) := by decide +kernel
theorem dX0_write_29 : decode cX0_write 29 = .ok (.invokestatic 19, 3) := by decide +kernel
theorem dX0_write_32 : decode cX0_write 32 = .ok (.iload_n 1, 1) := by decide +kernel
theorem dX0_write_33 : decode cX0_write 33 = .ok (.iadd, 1) := by decide +kernel
theorem dX0_write_34 : decode cX0_write 34 = .ok (.iastore, 1) := by decide +kernel
theorem dX0_write_35 : decode cX0_write 35 = .ok (.aload_n 0, 1) := by decide +kernel
theorem dX0_write_36 : decode cX0_write 36 = .ok (.dup, 1) := by decide +kernel
theorem dX0_write_37 : decode cX0_write 37 = .ok (.getfield 15, 3) := by decide +kernel
theorem dX0_write_40 : decode cX0_write 40 = .ok (.iconst 1, 1) := by decide +kernel
theorem dX0_write_41 : decode cX0_write 41 = .ok (.iadd, 1) := by decide +kernel
theorem dX0_write_42 : decode cX0_write 42 = .ok (.putfield 15, 3) := by decide +kernel
theorem dX0_write_45 : decode cX0_write 45 = .ok (.return_, 1) := by decide +kernel
set_option maxRecDepth 20000 in
theorem ggX0_scoreOf_X0_pointsFound : GoodIn wsX0_scoreOf wsX0_pointsFound := goodIn_r _ [5, 6, 7, 8, 9, 4, 10, 11, 12, 13, 14, 15, 16, 17, 18, 19] (by decide +kernel) (by decide +kernel)
set_option maxRecDepth 20000 in
theorem gX0_scoreOf_X0_pointsFound : GoodIn wsX0_scoreOf (wsV RX0 23 RX0 yX0_pointsFound wsX0_pointsFound) := goodIn_app (goodIn_of _ (by decide +kernel)) ggX0_scoreOf_X0_pointsFound
theorem dX0_scoreOf_0 : decode cX0_scoreOf 0 = .ok (.iconst 0, 1) := by decide +kernel
theorem dX0_scoreOf_1 : decode cX0_scoreOf 1 = .ok (.istore_n 2, 1) := by decide +kernel
theorem dX0_scoreOf_2 : decode cX0_scoreOf 2 = .ok (.iconst 0, 1) := by decide +kernel
theorem dX0_scoreOf_3 : decode cX0_scoreOf 3 = .ok (.istore_n 3, 1) := by decide +kernel
theorem dX0_scoreOf_4 : decode cX0_scoreOf 4 = .ok (.iload_n 3, 1) := by decide +kernel
theorem dX0_scoreOf_5 : decode cX0_scoreOf 5 = .ok (.bipush 6, 2) := by decide +kernel
theorem dX0_scoreOf_7 : decode cX0_scoreOf 7 = .ok (.if_icmp .ge 18, 3) := by decide +kernel
theorem dX0_scoreOf_10 : decode cX0_scoreOf 10 = .ok (.iload_n 2, 1) := by decide +kernel
theorem dX0_scoreOf_11 : decode cX0_scoreOf 11 = .ok (.aload_n 0, 1) := by decide +kernel
theorem dX0_scoreOf_12 : decode cX0_scoreOf 12 = .ok (.iload_n 1, 1) := by decide +kernel
theorem dX0_scoreOf_13 : decode cX0_scoreOf 13 = .ok (.iload_n 3, 1) := by decide +kernel
theorem dX0_scoreOf_14 : decode cX0_scoreOf 14 = .ok (.invokevirtual 23, 3) := by decide +kernel
theorem dX0_scoreOf_17 : decode cX0_scoreOf 17 = .ok (.iadd, 1) := by decide +kernel
theorem dX0_scoreOf_18 : decode cX0_scoreOf 18 = .ok (.istore_n 2, 1) := by decide +kernel
theorem dX0_scoreOf_19 : decode cX0_scoreOf 19 = .ok (.iinc 3 1, 3) := by decide +kernel
theorem dX0_scoreOf_22 : decode cX0_scoreOf 22 = .ok (.goto (-18), 3) := by decide +kernel
theorem dX0_scoreOf_25 : decode cX0_scoreOf 25 = .ok (.iload_n 2, 1) := by decide +kernel
theorem dX0_scoreOf_26 : decode cX0_scoreOf 26 = .ok (.ireturn, 1) := by decide +kernel
set_option maxRecDepth 20000 in
theorem ggX0_pointsFound_X0_codeOf : GoodIn wsX0_pointsFound wsX0_codeOf := goodIn_r _ [6] (by decide +kernel) (by decide +kernel)
set_option maxRecDepth 20000 in
theorem gX0_pointsFound_X0_codeOf : GoodIn wsX0_pointsFound (va_wsS RX0 19 yX0_codeOf wsX0_codeOf) := goodIn_app (goodIn_of _ (by decide +kernel)) ggX0_pointsFound_X0_codeOf
set_option maxRecDepth 20000 in
theorem ggX0_pointsFound_X8_pointsFor : GoodIn wsX0_pointsFound wsX8_pointsFor := goodIn_r _ [9, 10, 11, 12, 13] (by decide +kernel) (by decide +kernel)
set_option maxRecDepth 20000 in
theorem gX0_pointsFound_X8_pointsFor_n26 : GoodIn wsX0_pointsFound (wsX8_pointsFor) := ggX0_pointsFound_X8_pointsFor
theorem dX0_pointsFound_0 : decode cX0_pointsFound 0 = .ok (.iload_n 1, 1) := by decide +kernel
theorem dX0_pointsFound_1 : decode cX0_pointsFound 1 = .ok (.iload_n 2, 1) := by decide +kernel
theorem dX0_pointsFound_2 : decode cX0_pointsFound 2 = .ok (.invokestatic 19, 3) := by decide +kernel
theorem dX0_pointsFound_5 : decode cX0_pointsFound 5 = .ok (.istore_n 3, 1) := by decide +kernel
theorem dX0_pointsFound_6 : decode cX0_pointsFound 6 = .ok (.iconst 0, 1) := by decide +kernel
theorem dX0_pointsFound_7 : decode cX0_pointsFound 7 = .ok (.istore 4, 2) := by decide +kernel
theorem dX0_pointsFound_9 : decode cX0_pointsFound 9 = .ok (.iconst 0, 1) := by decide +kernel
theorem dX0_pointsFound_10 : decode cX0_pointsFound 10 = .ok (.istore 5, 2) := by decide +kernel
theorem dX0_pointsFound_12 : decode cX0_pointsFound 12 = .ok (.iconst 0, 1) := by decide +kernel
theorem dX0_pointsFound_13 : decode cX0_pointsFound 13 = .ok (.istore 6, 2) := by decide +kernel
theorem dX0_pointsFound_15 : decode cX0_pointsFound 15 = .ok (.iload 6, 2) := by decide +kernel
theorem dX0_pointsFound_17 : decode cX0_pointsFound 17 = .ok (.aload_n 0, 1) := by decide +kernel
theorem dX0_pointsFound_18 : decode cX0_pointsFound 18 = .ok (.getfield 15, 3) := by decide +kernel
theorem dX0_pointsFound_21 : decode cX0_pointsFound 21 = .ok (.if_icmp .ge 70, 3) := by decide +kernel
theorem dX0_pointsFound_24 : decode cX0_pointsFound 24 = .ok (.iload 6, 2) := by decide +kernel
theorem dX0_pointsFound_26 : decode cX0_pointsFound 26 = .ok (.aload_n 0, 1) := by decide +kernel
theorem dX0_pointsFound_27 : decode cX0_pointsFound 27 = .ok (.getfield 9, 3) := by decide +kernel
theorem dX0_pointsFound_30 : decode cX0_pointsFound 30 = .ok (.arraylength, 1) := by decide +kernel
theorem dX0_pointsFound_31 : decode cX0_pointsFound 31 = .ok (.if_icmp .ge 60, 3) := by decide +kernel
theorem dX0_pointsFound_34 : decode cX0_pointsFound 34 = .ok (.aload_n 0, 1) := by decide +kernel
theorem dX0_pointsFound_35 : decode cX0_pointsFound 35 = .ok (.getfield 9, 3) := by decide +kernel
theorem dX0_pointsFound_38 : decode cX0_pointsFound 38 = .ok (.iload 6, 2) := by decide +kernel
theorem dX0_pointsFound_40 : decode cX0_pointsFound 40 = .ok (.iaload, 1) := by decide +kernel
theorem dX0_pointsFound_41 : decode cX0_pointsFound 41 = .ok (.iload_n 3, 1) := by decide +kernel
theorem dX0_pointsFound_42 : decode cX0_pointsFound 42 = .ok (.isub, 1) := by decide +kernel
theorem dX0_pointsFound_43 : decode cX0_pointsFound 43 = .ok (.istore 7, 2) := by decide +kernel
theorem dX0_pointsFound_45 : decode cX0_pointsFound 45 = .ok (.iload 7, 2) := by decide +kernel
theorem dX0_pointsFound_47 : decode cX0_pointsFound 47 = .ok (.ifCond .ne 11, 3) := by decide +kernel
theorem dX0_pointsFound_50 : decode cX0_pointsFound 50 = .ok (.iload 4, 2) := by decide +kernel
theorem dX0_pointsFound_52 : decode cX0_pointsFound 52 = .ok (.iload 5, 2) := by decide +kernel
theorem dX0_pointsFound_54 : decode cX0_pointsFound 54 = .ok (.invokestatic 26, 3) := by decide +kernel
theorem dX0_pointsFound_57 : decode cX0_pointsFound 57 = .ok (.ireturn, 1) := by decide +kernel
theorem dX0_pointsFound_58 : decode cX0_pointsFound 58 = .ok (.iload 7, 2) := by decide +kernel
theorem dX0_pointsFound_60 : decode cX0_pointsFound 60 = .ok (.iconst 1, 1) := by decide +kernel
theorem dX0_pointsFound_61 : decode cX0_pointsFound 61 = .ok (.if_icmp .ne 6, 3) := by decide +kernel
theorem dX0_pointsFound_64 : decode cX0_pointsFound 64 = .ok (.iinc 4 1, 3) := by decide +kernel
theorem dX0_pointsFound_67 : decode cX0_pointsFound 67 = .ok (.iload 5, 2) := by decide +kernel
theorem dX0_pointsFound_69 : decode cX0_pointsFound 69 = .ok (.ifCond .ne 9, 3) := by decide +kernel
theorem dX0_pointsFound_72 : decode cX0_pointsFound 72 = .ok (.iload 7, 2) := by decide +kernel
theorem dX0_pointsFound_74 : decode cX0_pointsFound 74 = .ok (.iconst 2, 1) := by decide +kernel
theorem dX0_pointsFound_75 : decode cX0_pointsFound 75 = .ok (.if_icmp .ne 7, 3) := by decide +kernel
theorem dX0_pointsFound_78 : decode cX0_pointsFound 78 = .ok (.iconst 1, 1) := by decide +kernel
theorem dX0_pointsFound_79 : decode cX0_pointsFound 79 = .ok (.goto 4, 3) := by decide +kernel
theorem dX0_pointsFound_82 : decode cX0_pointsFound 82 = .ok (.iconst 0, 1) := by decide +kernel
theorem dX0_pointsFound_83 : decode cX0_pointsFound 83 = .ok (.istore 5, 2) := by decide +kernel
theorem dX0_pointsFound_85 : decode cX0_pointsFound 85 = .ok (.iinc 6 1, 3) := by decide +kernel
theorem dX0_pointsFound_88 : decode cX0_pointsFound 88 = .ok (.goto (-73), 3) := by decide +kernel
theorem dX0_pointsFound_91 : decode cX0_pointsFound 91 = .ok (.iconst 0, 1) := by decide +kernel
theorem dX0_pointsFound_92 : decode cX0_pointsFound 92 = .ok (.ireturn, 1) := by decide +kernel
theorem dX0_codeOf_0 : decode cX0_codeOf 0 = .ok (.iload_n 0, 1) := by decide +kernel
theorem dX0_codeOf_1 : decode cX0_codeOf 1 = .ok (.bipush 6, 2) := by decide +kernel
theorem dX0_codeOf_3 : decode cX0_codeOf 3 = .ok (.imul, 1) := by decide +kernel
theorem dX0_codeOf_4 : decode cX0_codeOf 4 = .ok (.iload_n 1, 1) := by decide +kernel
theorem dX0_codeOf_5 : decode cX0_codeOf 5 = .ok (.iadd, 1) := by decide +kernel
theorem dX0_codeOf_6 : decode cX0_codeOf 6 = .ok (.iconst 3, 1) := by decide +kernel
theorem dX0_codeOf_7 : decode cX0_codeOf 7 = .ok (.imul, 1) := by decide +kernel
theorem dX0_codeOf_8 : decode cX0_codeOf 8 = .ok (.ireturn, 1) := by decide +kernel
theorem dX1_init_0 : decode cX1_init 0 = .ok (.aload_n 0, 1) := by decide +kernel
theorem dX1_init_1 : decode cX1_init 1 = .ok (.invokespecial 3, 3) := by decide +kernel
theorem dX1_init_4 : decode cX1_init 4 = .ok (.aload_n 0, 1) := by decide +kernel
theorem dX1_init_5 : decode cX1_init 5 = .ok (.lconst 0, 1) := by decide +kernel
theorem dX1_init_6 : decode cX1_init 6 = .ok (.putfield 9, 3) := by decide +kernel
theorem dX1_init_9 : decode cX1_init 9 = .ok (.aload_n 0, 1) := by decide +kernel
theorem dX1_init_10 : decode cX1_init 10 = .ok (.iload_n 1, 1) := by decide +kernel
theorem dX1_init_11 : decode cX1_init 11 = .ok (.putfield 15, 3) := by decide +kernel
theorem dX1_init_14 : decode cX1_init 14 = .ok (.aload_n 0, 1) := by decide +kernel
theorem dX1_init_15 : decode cX1_init 15 = .ok (.iload_n 2, 1) := by decide +kernel
theorem dX1_init_16 : decode cX1_init 16 = .ok (.putfield 19, 3) := by decide +kernel
theorem dX1_init_19 : decode cX1_init 19 = .ok (.aload_n 0, 1) := by decide +kernel
theorem dX1_init_20 : decode cX1_init 20 = .ok (.iload_n 3, 1) := by decide +kernel
theorem dX1_init_21 : decode cX1_init 21 = .ok (.putfield 22, 3) := by decide +kernel
theorem dX1_init_24 : decode cX1_init 24 = .ok (.aload_n 0, 1) := by decide +kernel
theorem dX1_init_25 : decode cX1_init 25 = .ok (.iload 4, 2) := by decide +kernel
theorem dX1_init_27 : decode cX1_init 27 = .ok (.putfield 25, 3) := by decide +kernel
theorem dX1_init_30 : decode cX1_init 30 = .ok (.return_, 1) := by decide +kernel
set_option maxRecDepth 20000 in
theorem ggX1_holdsAt_X3_rowOf : GoodIn wsX1_holdsAt wsX3_rowOf := goodIn_r _ [8] (by decide +kernel) (by decide +kernel)
set_option maxRecDepth 20000 in
theorem gX1_holdsAt_X3_rowOf : GoodIn wsX1_holdsAt (va_wsS RX1 29 yX3_rowOf wsX3_rowOf) := goodIn_app (goodIn_of _ (by decide +kernel)) ggX1_holdsAt_X3_rowOf
set_option maxRecDepth 20000 in
theorem ggX1_holdsAt_X3_columnOf : GoodIn wsX1_holdsAt wsX3_columnOf := goodIn_r _ [11] (by decide +kernel) (by decide +kernel)
set_option maxRecDepth 20000 in
theorem gX1_holdsAt_X3_columnOf : GoodIn wsX1_holdsAt (va_wsS RX1 35 yX3_columnOf wsX3_columnOf) := goodIn_app (goodIn_of _ (by decide +kernel)) ggX1_holdsAt_X3_columnOf
set_option maxRecDepth 20000 in
theorem ggX1_holdsAt_X3_distance : GoodIn wsX1_holdsAt wsX3_distance := goodIn_r _ [14, 15, 16, 17, 18, 19, 6, 7, 8, 20, 10, 11] (by decide +kernel) (by decide +kernel)
set_option maxRecDepth 20000 in
theorem gX1_holdsAt_X3_distance : GoodIn wsX1_holdsAt (va_wsS RX1 38 yX3_distance wsX3_distance) := goodIn_app (goodIn_of _ (by decide +kernel)) ggX1_holdsAt_X3_distance
theorem dX1_holdsAt_0 : decode cX1_holdsAt 0 = .ok (.aload_n 0, 1) := by decide +kernel
theorem dX1_holdsAt_1 : decode cX1_holdsAt 1 = .ok (.getfield 15, 3) := by decide +kernel
theorem dX1_holdsAt_4 : decode cX1_holdsAt 4 = .ok (.tableswitch 113 0 3 #[32, 52, 72, 89], 32) := by decide +kernel
theorem dX1_holdsAt_36 : decode cX1_holdsAt 36 = .ok (.iload_n 1, 1) := by decide +kernel
theorem dX1_holdsAt_37 : decode cX1_holdsAt 37 = .ok (.invokestatic 29, 3) := by decide +kernel
theorem dX1_holdsAt_40 : decode cX1_holdsAt 40 = .ok (.aload_n 0, 1) := by decide +kernel
theorem dX1_holdsAt_41 : decode cX1_holdsAt 41 = .ok (.getfield 19, 3) := by decide +kernel
theorem dX1_holdsAt_44 : decode cX1_holdsAt 44 = .ok (.if_icmp .ge 7, 3) := by decide +kernel
theorem dX1_holdsAt_47 : decode cX1_holdsAt 47 = .ok (.iconst 1, 1) := by decide +kernel
theorem dX1_holdsAt_48 : decode cX1_holdsAt 48 = .ok (.goto 4, 3) := by decide +kernel
theorem dX1_holdsAt_51 : decode cX1_holdsAt 51 = .ok (.iconst 0, 1) := by decide +kernel
theorem dX1_holdsAt_52 : decode cX1_holdsAt 52 = .ok (.istore_n 3, 1) := by decide +kernel
theorem dX1_holdsAt_53 : decode cX1_holdsAt 53 = .ok (.goto 88, 3) := by decide +kernel
theorem dX1_holdsAt_56 : decode cX1_holdsAt 56 = .ok (.iload_n 1, 1) := by decide +kernel
theorem dX1_holdsAt_57 : decode cX1_holdsAt 57 = .ok (.invokestatic 35, 3) := by decide +kernel
theorem dX1_holdsAt_60 : decode cX1_holdsAt 60 = .ok (.aload_n 0, 1) := by decide +kernel
theorem dX1_holdsAt_61 : decode cX1_holdsAt 61 = .ok (.getfield 19, 3) := by decide +kernel
theorem dX1_holdsAt_64 : decode cX1_holdsAt 64 = .ok (.if_icmp .ge 7, 3) := by decide +kernel
theorem dX1_holdsAt_67 : decode cX1_holdsAt 67 = .ok (.iconst 1, 1) := by decide +kernel
theorem dX1_holdsAt_68 : decode cX1_holdsAt 68 = .ok (.goto 4, 3) := by decide +kernel
theorem dX1_holdsAt_71 : decode cX1_holdsAt 71 = .ok (.iconst 0, 1) := by decide +kernel
theorem dX1_holdsAt_72 : decode cX1_holdsAt 72 = .ok (.istore_n 3, 1) := by decide +kernel
theorem dX1_holdsAt_73 : decode cX1_holdsAt 73 = .ok (.goto 68, 3) := by decide +kernel
theorem dX1_holdsAt_76 : decode cX1_holdsAt 76 = .ok (.iload_n 2, 1) := by decide +kernel
theorem dX1_holdsAt_77 : decode cX1_holdsAt 77 = .ok (.aload_n 0, 1) := by decide +kernel
theorem dX1_holdsAt_78 : decode cX1_holdsAt 78 = .ok (.getfield 19, 3) := by decide +kernel
theorem dX1_holdsAt_81 : decode cX1_holdsAt 81 = .ok (.if_icmp .lt 7, 3) := by decide +kernel
theorem dX1_holdsAt_84 : decode cX1_holdsAt 84 = .ok (.iconst 1, 1) := by decide +kernel
theorem dX1_holdsAt_85 : decode cX1_holdsAt 85 = .ok (.goto 4, 3) := by decide +kernel
theorem dX1_holdsAt_88 : decode cX1_holdsAt 88 = .ok (.iconst 0, 1) := by decide +kernel
theorem dX1_holdsAt_89 : decode cX1_holdsAt 89 = .ok (.istore_n 3, 1) := by decide +kernel
theorem dX1_holdsAt_90 : decode cX1_holdsAt 90 = .ok (.goto 51, 3) := by decide +kernel
theorem dX1_holdsAt_93 : decode cX1_holdsAt 93 = .ok (.iload_n 1, 1) := by decide +kernel
theorem dX1_holdsAt_94 : decode cX1_holdsAt 94 = .ok (.aload_n 0, 1) := by decide +kernel
theorem dX1_holdsAt_95 : decode cX1_holdsAt 95 = .ok (.getfield 22, 3) := by decide +kernel
theorem dX1_holdsAt_98 : decode cX1_holdsAt 98 = .ok (.invokestatic 38, 3) := by decide +kernel
theorem dX1_holdsAt_101 : decode cX1_holdsAt 101 = .ok (.aload_n 0, 1) := by decide +kernel
theorem dX1_holdsAt_102 : decode cX1_holdsAt 102 = .ok (.getfield 19, 3) := by decide +kernel
theorem dX1_holdsAt_105 : decode cX1_holdsAt 105 = .ok (.if_icmp .gt 7, 3) := by decide +kernel
theorem dX1_holdsAt_108 : decode cX1_holdsAt 108 = .ok (.iconst 1, 1) := by decide +kernel
theorem dX1_holdsAt_109 : decode cX1_holdsAt 109 = .ok (.goto 4, 3) := by decide +kernel
theorem dX1_holdsAt_112 : decode cX1_holdsAt 112 = .ok (.iconst 0, 1) := by decide +kernel
theorem dX1_holdsAt_113 : decode cX1_holdsAt 113 = .ok (.istore_n 3, 1) := by decide +kernel
theorem dX1_holdsAt_114 : decode cX1_holdsAt 114 = .ok (.goto 27, 3) := by decide +kernel
theorem dX1_holdsAt_117 : decode cX1_holdsAt 117 = .ok (.iload_n 1, 1) := by decide +kernel
theorem dX1_holdsAt_118 : decode cX1_holdsAt 118 = .ok (.invokestatic 29, 3) := by decide +kernel
theorem dX1_holdsAt_121 : decode cX1_holdsAt 121 = .ok (.iload_n 1, 1) := by decide +kernel
theorem dX1_holdsAt_122 : decode cX1_holdsAt 122 = .ok (.invokestatic 35, 3) := by decide +kernel
theorem dX1_holdsAt_125 : decode cX1_holdsAt 125 = .ok (.iadd, 1) := by decide +kernel
theorem dX1_holdsAt_126 : decode cX1_holdsAt 126 = .ok (.iconst 2, 1) := by decide +kernel
theorem dX1_holdsAt_127 : decode cX1_holdsAt 127 = .ok (.irem, 1) := by decide +kernel
theorem dX1_holdsAt_128 : decode cX1_holdsAt 128 = .ok (.aload_n 0, 1) := by decide +kernel
theorem dX1_holdsAt_129 : decode cX1_holdsAt 129 = .ok (.getfield 19, 3) := by decide +kernel
theorem dX1_holdsAt_132 : decode cX1_holdsAt 132 = .ok (.if_icmp .ne 7, 3) := by decide +kernel
theorem dX1_holdsAt_135 : decode cX1_holdsAt 135 = .ok (.iconst 1, 1) := by decide +kernel
theorem dX1_holdsAt_136 : decode cX1_holdsAt 136 = .ok (.goto 4, 3) := by decide +kernel
theorem dX1_holdsAt_139 : decode cX1_holdsAt 139 = .ok (.iconst 0, 1) := by decide +kernel
theorem dX1_holdsAt_140 : decode cX1_holdsAt 140 = .ok (.istore_n 3, 1) := by decide +kernel
theorem dX1_holdsAt_141 : decode cX1_holdsAt 141 = .ok (.iload_n 3, 1) := by decide +kernel
theorem dX1_holdsAt_142 : decode cX1_holdsAt 142 = .ok (.aload_n 0, 1) := by decide +kernel
theorem dX1_holdsAt_143 : decode cX1_holdsAt 143 = .ok (.getfield 25, 3) := by decide +kernel
theorem dX1_holdsAt_146 : decode cX1_holdsAt 146 = .ok (.if_icmp .eq 7, 3) := by decide +kernel
theorem dX1_holdsAt_149 : decode cX1_holdsAt 149 = .ok (.iconst 1, 1) := by decide +kernel
theorem dX1_holdsAt_150 : decode cX1_holdsAt 150 = .ok (.goto 4, 3) := by decide +kernel
theorem dX1_holdsAt_153 : decode cX1_holdsAt 153 = .ok (.iconst 0, 1) := by decide +kernel
theorem dX1_holdsAt_154 : decode cX1_holdsAt 154 = .ok (.ireturn, 1) := by decide +kernel
set_option maxRecDepth 20000 in
theorem ggX1_keep_X1_holdsAt : GoodIn wsX1_keep wsX1_holdsAt := goodIn_r _ [7, 8, 9, 10, 11, 12, 13, 14, 15, 16, 17, 18, 19, 20, 21, 22, 23, 24, 25, 26, 27, 28, 29, 30, 31, 32] (by decide +kernel) (by decide +kernel)
set_option maxRecDepth 20000 in
theorem gX1_keep_X1_holdsAt : GoodIn wsX1_keep (wsV RX1 42 RX1 yX1_holdsAt wsX1_holdsAt) := goodIn_app (goodIn_of _ (by decide +kernel)) ggX1_keep_X1_holdsAt
theorem dX1_keep_0 : decode cX1_keep 0 = .ok (.aload_n 0, 1) := by decide +kernel
theorem dX1_keep_1 : decode cX1_keep 1 = .ok (.iload_n 1, 1) := by decide +kernel
theorem dX1_keep_2 : decode cX1_keep 2 = .ok (.iload_n 2, 1) := by decide +kernel
theorem dX1_keep_3 : decode cX1_keep 3 = .ok (.invokevirtual 42, 3) := by decide +kernel
theorem dX1_keep_6 : decode cX1_keep 6 = .ok (.ifCond .eq 18, 3) := by decide +kernel
theorem dX1_keep_9 : decode cX1_keep 9 = .ok (.aload_n 0, 1) := by decide +kernel
theorem dX1_keep_10 : decode cX1_keep 10 = .ok (.dup, 1) := by decide +kernel
theorem dX1_keep_11 : decode cX1_keep 11 = .ok (.getfield 9, 3) := by decide +kernel
theorem dX1_keep_14 : decode cX1_keep 14 = .ok (.lconst 1, 1) := by decide +kernel
theorem dX1_keep_15 : decode cX1_keep 15 = .ok (.iload_n 1, 1) := by decide +kernel
theorem dX1_keep_16 : decode cX1_keep 16 = .ok (.lshl, 1) := by decide +kernel
theorem dX1_keep_17 : decode cX1_keep 17 = .ok (.lor, 1) := by decide +kernel
theorem dX1_keep_18 : decode cX1_keep 18 = .ok (.putfield 9, 3) := by decide +kernel
theorem dX1_keep_21 : decode cX1_keep 21 = .ok (.goto 19, 3) := by decide +kernel
theorem dX1_keep_24 : decode cX1_keep 24 = .ok (.aload_n 0, 1) := by decide +kernel
theorem dX1_keep_25 : decode cX1_keep 25 = .ok (.dup, 1) := by decide +kernel
theorem dX1_keep_26 : decode cX1_keep 26 = .ok (.getfield 9, 3) := by decide +kernel
theorem dX1_keep_29 : decode cX1_keep 29 = .ok (.lconst 1, 1) := by decide +kernel
theorem dX1_keep_30 : decode cX1_keep 30 = .ok (.iload_n 1, 1) := by decide +kernel
theorem dX1_keep_31 : decode cX1_keep 31 = .ok (.lshl, 1) := by decide +kernel
theorem dX1_keep_32 : decode cX1_keep 32 = .ok (.ldc2_w 46, 3) := by decide +kernel
theorem dX1_keep_35 : decode cX1_keep 35 = .ok (.lxor, 1) := by decide +kernel
theorem dX1_keep_36 : decode cX1_keep 36 = .ok (.land, 1) := by decide +kernel
theorem dX1_keep_37 : decode cX1_keep 37 = .ok (.putfield 9, 3) := by decide +kernel
theorem dX1_keep_40 : decode cX1_keep 40 = .ok (.return_, 1) := by decide +kernel
theorem dX1_keptPlaces_0 : decode cX1_keptPlaces 0 = .ok (.aload_n 0, 1) := by decide +kernel
theorem dX1_keptPlaces_1 : decode cX1_keptPlaces 1 = .ok (.getfield 9, 3) := by decide +kernel
theorem dX1_keptPlaces_4 : decode cX1_keptPlaces 4 = .ok (.lreturn, 1) := by decide +kernel
set_option maxRecDepth 20000 in
theorem ggX2_init_Jx4a65c_init_da8c8 : GoodIn wsX2_init wsJx4a65c_init_da8c8 := goodIn_r _ [10, 11, 12, 13, 14, 15, 16, 17, 18, 19, 20, 21, 22, 2, 3, 23, 24, 25] (by decide +kernel) (by decide +kernel)
set_option maxRecDepth 20000 in
theorem gX2_init_Jx4a65c_init_da8c8 : GoodIn wsX2_init (wsJx4a65c_init_da8c8) := ggX2_init_Jx4a65c_init_da8c8
theorem dX2_init_0 : decode cX2_init 0 = .ok (.aload_n 0, 1) := by decide +kernel
theorem dX2_init_1 : decode cX2_init 1 = .ok (.invokespecial 3, 3) := by decide +kernel
theorem dX2_init_4 : decode cX2_init 4 = .ok (.aload_n 0, 1) := by decide +kernel
theorem dX2_init_5 : decode cX2_init 5 = .ok (.new 9, 3) := by decide +kernel
theorem dX2_init_8 : decode cX2_init 8 = .ok (.dup, 1) := by decide +kernel
theorem dX2_init_9 : decode cX2_init 9 = .ok (.invokespecial 11, 3) := by decide +kernel
theorem dX2_init_12 : decode cX2_init 12 = .ok (.putfield 12, 3) := by decide +kernel
theorem dX2_init_15 : decode cX2_init 15 = .ok (.return_, 1) := by decide +kernel
set_option maxRecDepth 20000 in
theorem ggX2_count_Jx4a65c_size_8abf5 : GoodIn wsX2_count wsJx4a65c_size_8abf5 := goodIn_r _ [6, 7, 9, 10, 11] (by decide +kernel) (by decide +kernel)
set_option maxRecDepth 20000 in
theorem gX2_count_Jx4a65c_size_8abf5 : GoodIn wsX2_count (wsV RX2 18 RJx4a65c yJx4a65c_size_8abf5 wsJx4a65c_size_8abf5) := goodIn_app (goodIn_of _ (by decide +kernel)) ggX2_count_Jx4a65c_size_8abf5
theorem dX2_count_0 : decode cX2_count 0 = .ok (.aload_n 0, 1) := by decide +kernel
theorem dX2_count_1 : decode cX2_count 1 = .ok (.getfield 12, 3) := by decide +kernel
theorem dX2_count_4 : decode cX2_count 4 = .ok (.invokevirtual 18, 3) := by decide +kernel
theorem dX2_count_7 : decode cX2_count 7 = .ok (.ireturn, 1) := by decide +kernel
set_option maxRecDepth 20000 in
theorem ggX2_empty_Jx4a65c_clear_da8c8 : GoodIn wsX2_empty wsJx4a65c_clear_da8c8 := goodIn_r _ [6, 7, 8, 9, 10, 12, 13, 14] (by decide +kernel) (by decide +kernel)
set_option maxRecDepth 20000 in
theorem gX2_empty_Jx4a65c_clear_da8c8 : GoodIn wsX2_empty (wsV RX2 22 RJx4a65c yJx4a65c_clear_da8c8 wsJx4a65c_clear_da8c8) := goodIn_app (goodIn_of _ (by decide +kernel)) ggX2_empty_Jx4a65c_clear_da8c8
theorem dX2_empty_0 : decode cX2_empty 0 = .ok (.aload_n 0, 1) := by decide +kernel
theorem dX2_empty_1 : decode cX2_empty 1 = .ok (.getfield 12, 3) := by decide +kernel
theorem dX2_empty_4 : decode cX2_empty 4 = .ok (.invokevirtual 22, 3) := by decide +kernel
theorem dX2_empty_7 : decode cX2_empty 7 = .ok (.return_, 1) := by decide +kernel
set_option maxRecDepth 20000 in
theorem ggX2_add_X3_heightOf : GoodIn wsX2_add wsX3_heightOf := goodIn_r _ [6, 7, 94, 95] (by decide +kernel) (by decide +kernel)
set_option maxRecDepth 20000 in
theorem gX2_add_X3_heightOf : GoodIn wsX2_add (wsV RX2 25 RX3 yX3_heightOf wsX3_heightOf) := goodIn_app (goodIn_of _ (by decide +kernel)) ggX2_add_X3_heightOf
set_option maxRecDepth 20000 in
theorem ggX2_add_X1_keep : GoodIn wsX2_add wsX1_keep := goodIn_r _ [12, 13, 14, 15, 16, 17, 11, 18, 19, 20, 21, 22, 23, 24, 5, 25, 26, 27, 28, 29, 30, 31, 32, 33, 34, 35, 36, 37, 96, 97, 98, 99, 100] (by decide +kernel) (by decide +kernel)
set_option maxRecDepth 20000 in
theorem gX2_add_X1_keep : GoodIn wsX2_add (wsV RX2 31 RX1 yX1_keep wsX1_keep) := goodIn_app (goodIn_of _ (by decide +kernel)) ggX2_add_X1_keep
set_option maxRecDepth 20000 in
theorem ggX2_add_Jx4a65c_add_9ea2d : GoodIn wsX2_add wsJx4a65c_add_9ea2d := goodIn_r _ [42, 43, 44, 45, 46, 47, 48, 49, 41, 50, 51, 52, 53, 54, 55, 56, 57, 58, 59, 60, 61, 34, 62, 63, 64, 65, 66, 67, 68, 69, 70, 71, 72, 73, 74, 75, 76, 77, 78, 79, 80, 81, 82, 83, 84, 85, 86, 87, 88, 89, 90, 91, 92, 101, 102, 103] (by decide +kernel) (by decide +kernel)
set_option maxRecDepth 20000 in
theorem gX2_add_Jx4a65c_add_9ea2d : GoodIn wsX2_add (wsV RX2 37 RJx4a65c yJx4a65c_add_9ea2d wsJx4a65c_add_9ea2d) := goodIn_app (goodIn_of _ (by decide +kernel)) ggX2_add_Jx4a65c_add_9ea2d
theorem dX2_add_0 : decode cX2_add 0 = .ok (.iconst 0, 1) := by decide +kernel
theorem dX2_add_1 : decode cX2_add 1 = .ok (.istore_n 3, 1) := by decide +kernel
theorem dX2_add_2 : decode cX2_add 2 = .ok (.iload_n 3, 1) := by decide +kernel
theorem dX2_add_3 : decode cX2_add 3 = .ok (.bipush 64, 2) := by decide +kernel
theorem dX2_add_5 : decode cX2_add 5 = .ok (.if_icmp .ge 19, 3) := by decide +kernel
theorem dX2_add_8 : decode cX2_add 8 = .ok (.aload_n 1, 1) := by decide +kernel
theorem dX2_add_9 : decode cX2_add 9 = .ok (.iload_n 3, 1) := by decide +kernel
theorem dX2_add_10 : decode cX2_add 10 = .ok (.aload_n 2, 1) := by decide +kernel
theorem dX2_add_11 : decode cX2_add 11 = .ok (.iload_n 3, 1) := by decide +kernel
theorem dX2_add_12 : decode cX2_add 12 = .ok (.invokevirtual 25, 3) := by decide +kernel
theorem dX2_add_15 : decode cX2_add 15 = .ok (.invokevirtual 31, 3) := by decide +kernel
theorem dX2_add_18 : decode cX2_add 18 = .ok (.iinc 3 1, 3) := by decide +kernel
theorem dX2_add_21 : decode cX2_add 21 = .ok (.goto (-19), 3) := by decide +kernel
theorem dX2_add_24 : decode cX2_add 24 = .ok (.aload_n 0, 1) := by decide +kernel
theorem dX2_add_25 : decode cX2_add 25 = .ok (.getfield 12, 3) := by decide +kernel
theorem dX2_add_28 : decode cX2_add 28 = .ok (.aload_n 1, 1) := by decide +kernel
theorem dX2_add_29 : decode cX2_add 29 = .ok (.invokevirtual 37, 3) := by decide +kernel
theorem dX2_add_32 : decode cX2_add 32 = .ok (.pop, 1) := by decide +kernel
theorem dX2_add_33 : decode cX2_add 33 = .ok (.return_, 1) := by decide +kernel
set_option maxRecDepth 20000 in
theorem ggX2_lookAgainAt_Jx4a65c_size_8abf5 : GoodIn wsX2_lookAgainAt wsJx4a65c_size_8abf5 := goodIn_r _ [7, 8, 58, 59, 60] (by decide +kernel) (by decide +kernel)
set_option maxRecDepth 20000 in
theorem gX2_lookAgainAt_Jx4a65c_size_8abf5 : GoodIn wsX2_lookAgainAt (wsV RX2 18 RJx4a65c yJx4a65c_size_8abf5 wsJx4a65c_size_8abf5) := goodIn_app (goodIn_of _ (by decide +kernel)) ggX2_lookAgainAt_Jx4a65c_size_8abf5
set_option maxRecDepth 20000 in
theorem ggX2_lookAgainAt_Jx4a65c_get_915e3 : GoodIn wsX2_lookAgainAt wsJx4a65c_get_915e3 := goodIn_r _ [12, 8, 13, 14, 15, 16, 17, 18, 19, 20, 21, 22, 23, 6, 24, 25, 58, 59, 60] (by decide +kernel) (by decide +kernel)
set_option maxRecDepth 20000 in
theorem gX2_lookAgainAt_Jx4a65c_get_915e3 : GoodIn wsX2_lookAgainAt (wsV RX2 41 RJx4a65c yJx4a65c_get_915e3 wsJx4a65c_get_915e3) := goodIn_app (goodIn_of _ (by decide +kernel)) ggX2_lookAgainAt_Jx4a65c_get_915e3
set_option maxRecDepth 20000 in
theorem ggX2_lookAgainAt_X1_keep : GoodIn wsX2_lookAgainAt wsX1_keep := goodIn_r _ [30, 31, 32, 33, 34, 35, 29, 36, 37, 38, 39, 40, 41, 42, 43, 44, 45, 46, 47, 48, 49, 50, 51, 52, 53, 54, 55, 56, 61, 62, 63, 64, 65] (by decide +kernel) (by decide +kernel)
set_option maxRecDepth 20000 in
theorem gX2_lookAgainAt_X1_keep : GoodIn wsX2_lookAgainAt (wsV RX2 31 RX1 yX1_keep wsX1_keep) := goodIn_app (goodIn_of _ (by decide +kernel)) ggX2_lookAgainAt_X1_keep
theorem dX2_lookAgainAt_0 : decode cX2_lookAgainAt 0 = .ok (.iconst 0, 1) := by decide +kernel
theorem dX2_lookAgainAt_1 : decode cX2_lookAgainAt 1 = .ok (.istore_n 3, 1) := by decide +kernel
theorem dX2_lookAgainAt_2 : decode cX2_lookAgainAt 2 = .ok (.iload_n 3, 1) := by decide +kernel
theorem dX2_lookAgainAt_3 : decode cX2_lookAgainAt 3 = .ok (.aload_n 0, 1) := by decide +kernel
theorem dX2_lookAgainAt_4 : decode cX2_lookAgainAt 4 = .ok (.getfield 12, 3) := by decide +kernel
theorem dX2_lookAgainAt_7 : decode cX2_lookAgainAt 7 = .ok (.invokevirtual 18, 3) := by decide +kernel
theorem dX2_lookAgainAt_10 : decode cX2_lookAgainAt 10 = .ok (.if_icmp .ge 25, 3) := by decide +kernel
theorem dX2_lookAgainAt_13 : decode cX2_lookAgainAt 13 = .ok (.aload_n 0, 1) := by decide +kernel
theorem dX2_lookAgainAt_14 : decode cX2_lookAgainAt 14 = .ok (.getfield 12, 3) := by decide +kernel
theorem dX2_lookAgainAt_17 : decode cX2_lookAgainAt 17 = .ok (.iload_n 3, 1) := by decide +kernel
theorem dX2_lookAgainAt_18 : decode cX2_lookAgainAt 18 = .ok (.invokevirtual 41, 3) := by decide +kernel
theorem dX2_lookAgainAt_21 : decode cX2_lookAgainAt 21 = .ok (.checkcast 32, 3) := by decide +kernel
theorem dX2_lookAgainAt_24 : decode cX2_lookAgainAt 24 = .ok (.iload_n 1, 1) := by decide +kernel
theorem dX2_lookAgainAt_25 : decode cX2_lookAgainAt 25 = .ok (.iload_n 2, 1) := by decide +kernel
theorem dX2_lookAgainAt_26 : decode cX2_lookAgainAt 26 = .ok (.invokevirtual 31, 3) := by decide +kernel
theorem dX2_lookAgainAt_29 : decode cX2_lookAgainAt 29 = .ok (.iinc 3 1, 3) := by decide +kernel
theorem dX2_lookAgainAt_32 : decode cX2_lookAgainAt 32 = .ok (.goto (-30), 3) := by decide +kernel
theorem dX2_lookAgainAt_35 : decode cX2_lookAgainAt 35 = .ok (.return_, 1) := by decide +kernel
set_option maxRecDepth 20000 in
theorem ggX2_keptPlaces_X2_keptPlacesWithout : GoodIn wsX2_keptPlaces wsX2_keptPlacesWithout := goodIn_r _ [5, 6, 7, 8, 9, 10, 11, 12, 13, 14, 15, 16, 17, 18, 19, 20, 21, 22, 23, 24, 25, 26, 27, 28, 29, 30, 31, 32, 33, 34, 35, 36, 37, 38, 39, 40, 41, 42, 43, 44, 45, 46] (by decide +kernel) (by decide +kernel)
set_option maxRecDepth 20000 in
theorem gX2_keptPlaces_X2_keptPlacesWithout : GoodIn wsX2_keptPlaces (wsV RX2 45 RX2 yX2_keptPlacesWithout wsX2_keptPlacesWithout) := goodIn_app (goodIn_of _ (by decide +kernel)) ggX2_keptPlaces_X2_keptPlacesWithout
theorem dX2_keptPlaces_0 : decode cX2_keptPlaces 0 = .ok (.aload_n 0, 1) := by decide +kernel
theorem dX2_keptPlaces_1 : decode cX2_keptPlaces 1 = .ok (.iconst (-1), 1) := by decide +kernel
theorem dX2_keptPlaces_2 : decode cX2_keptPlaces 2 = .ok (.invokevirtual 45, 3) := by decide +kernel
theorem dX2_keptPlaces_5 : decode cX2_keptPlaces 5 = .ok (.lreturn, 1) := by decide +kernel
set_option maxRecDepth 20000 in
theorem ggX2_keptPlace_X2_keptPlaces : GoodIn wsX2_keptPlace wsX2_keptPlaces := goodIn_r _ [5, 6, 7, 8, 4, 9, 10, 11, 12, 13, 14, 15, 16, 17, 18, 19, 20, 21, 22, 23, 24, 25, 26, 27, 28, 29, 30, 31, 32, 33, 34, 35, 36, 37, 38, 39, 40, 41, 45, 46, 47, 48, 49, 50, 51, 52, 53] (by decide +kernel) (by decide +kernel)
set_option maxRecDepth 20000 in
theorem gX2_keptPlace_X2_keptPlaces : GoodIn wsX2_keptPlace (wsV RX2 49 RX2 yX2_keptPlaces wsX2_keptPlaces) := goodIn_app (goodIn_of _ (by decide +kernel)) ggX2_keptPlace_X2_keptPlaces
set_option maxRecDepth 20000 in
theorem ggX2_keptPlace_X8_onlyPlaceIn : GoodIn wsX2_keptPlace wsX8_onlyPlaceIn := goodIn_r _ [44] (by decide +kernel) (by decide +kernel)
set_option maxRecDepth 20000 in
theorem gX2_keptPlace_X8_onlyPlaceIn_n53 : GoodIn wsX2_keptPlace (wsX8_onlyPlaceIn) := ggX2_keptPlace_X8_onlyPlaceIn
theorem dX2_keptPlace_0 : decode cX2_keptPlace 0 = .ok (.aload_n 0, 1) := by decide +kernel
theorem dX2_keptPlace_1 : decode cX2_keptPlace 1 = .ok (.invokevirtual 49, 3) := by decide +kernel
theorem dX2_keptPlace_4 : decode cX2_keptPlace 4 = .ok (.invokestatic 53, 3) := by decide +kernel
theorem dX2_keptPlace_7 : decode cX2_keptPlace 7 = .ok (.ireturn, 1) := by decide +kernel
set_option maxRecDepth 20000 in
theorem ggX2_hasNeedlessHint_Jx4a65c_size_8abf5 : GoodIn wsX2_hasNeedlessHint wsJx4a65c_size_8abf5 := goodIn_r _ [6, 7, 42, 43, 44] (by decide +kernel) (by decide +kernel)
set_option maxRecDepth 20000 in
theorem gX2_hasNeedlessHint_Jx4a65c_size_8abf5 : GoodIn wsX2_hasNeedlessHint (wsV RX2 18 RJx4a65c yJx4a65c_size_8abf5 wsJx4a65c_size_8abf5) := goodIn_app (goodIn_of _ (by decide +kernel)) ggX2_hasNeedlessHint_Jx4a65c_size_8abf5
set_option maxRecDepth 20000 in
theorem ggX2_hasNeedlessHint_X2_keptPlacesWithout : GoodIn wsX2_hasNeedlessHint wsX2_keptPlacesWithout := goodIn_r _ [12, 13, 1, 14, 2, 3, 4, 5, 6, 7, 15, 16, 17, 18, 19, 20, 21, 22, 23, 24, 25, 26, 27, 28, 29, 30, 31, 32, 33, 34, 35, 36, 37, 41, 42, 43, 44, 45, 46, 47, 48, 49] (by decide +kernel) (by decide +kernel)
set_option maxRecDepth 20000 in
theorem gX2_hasNeedlessHint_X2_keptPlacesWithout : GoodIn wsX2_hasNeedlessHint (wsV RX2 45 RX2 yX2_keptPlacesWithout wsX2_keptPlacesWithout) := goodIn_app (goodIn_of _ (by decide +kernel)) ggX2_hasNeedlessHint_X2_keptPlacesWithout
set_option maxRecDepth 20000 in
theorem ggX2_hasNeedlessHint_X8_onlyPlaceIn : GoodIn wsX2_hasNeedlessHint wsX8_onlyPlaceIn := goodIn_r _ [40] (by decide +kernel) (by decide +kernel)
set_option maxRecDepth 20000 in
theorem gX2_hasNeedlessHint_X8_onlyPlaceIn_n53 : GoodIn wsX2_hasNeedlessHint (wsX8_onlyPlaceIn) := ggX2_hasNeedlessHint_X8_onlyPlaceIn
theorem dX2_hasNeedlessHint_0 : decode cX2_hasNeedlessHint 0 = .ok (.iconst 0, 1) := by decide +kernel
theorem dX2_hasNeedlessHint_1 : decode cX2_hasNeedlessHint 1 = .ok (.istore_n 1, 1) := by decide +kernel
theorem dX2_hasNeedlessHint_2 : decode cX2_hasNeedlessHint 2 = .ok (.iload_n 1, 1) := by decide +kernel
theorem dX2_hasNeedlessHint_3 : decode cX2_hasNeedlessHint 3 = .ok (.aload_n 0, 1) := by decide +kernel
theorem dX2_hasNeedlessHint_4 : decode cX2_hasNeedlessHint 4 = .ok (.getfield 12, 3) := by decide +kernel
theorem dX2_hasNeedlessHint_7 : decode cX2_hasNeedlessHint 7 = .ok (.invokevirtual 18, 3) := by decide +kernel
theorem dX2_hasNeedlessHint_10 : decode cX2_hasNeedlessHint 10 = .ok (.if_icmp .ge 23, 3) := by decide +kernel
theorem dX2_hasNeedlessHint_13 : decode cX2_hasNeedlessHint 13 = .ok (.aload_n 0, 1) := by decide +kernel
theorem dX2_hasNeedlessHint_14 : decode cX2_hasNeedlessHint 14 = .ok (.iload_n 1, 1) := by decide +kernel
theorem dX2_hasNeedlessHint_15 : decode cX2_hasNeedlessHint 15 = .ok (.invokevirtual 45, 3) := by decide +kernel
theorem dX2_hasNeedlessHint_18 : decode cX2_hasNeedlessHint 18 = .ok (.invokestatic 53, 3) := by decide +kernel
theorem dX2_hasNeedlessHint_21 : decode cX2_hasNeedlessHint 21 = .ok (.iconst (-1), 1) := by decide +kernel
theorem dX2_hasNeedlessHint_22 : decode cX2_hasNeedlessHint 22 = .ok (.if_icmp .eq 5, 3) := by decide +kernel
theorem dX2_hasNeedlessHint_25 : decode cX2_hasNeedlessHint 25 = .ok (.iconst 1, 1) := by decide +kernel
theorem dX2_hasNeedlessHint_26 : decode cX2_hasNeedlessHint 26 = .ok (.ireturn, 1) := by decide +kernel
theorem dX2_hasNeedlessHint_27 : decode cX2_hasNeedlessHint 27 = .ok (.iinc 1 1, 3) := by decide +kernel
theorem dX2_hasNeedlessHint_30 : decode cX2_hasNeedlessHint 30 = .ok (.goto (-28), 3) := by decide +kernel
theorem dX2_hasNeedlessHint_33 : decode cX2_hasNeedlessHint 33 = .ok (.iconst 0, 1) := by decide +kernel
theorem dX2_hasNeedlessHint_34 : decode cX2_hasNeedlessHint 34 = .ok (.ireturn, 1) := by decide +kernel
set_option maxRecDepth 20000 in
theorem ggX2_placeAskedOf_X3_heightOf : GoodIn wsX2_placeAskedOf wsX3_heightOf := goodIn_r _ [5, 6, 61, 62] (by decide +kernel) (by decide +kernel)
set_option maxRecDepth 20000 in
theorem gX2_placeAskedOf_X3_heightOf : GoodIn wsX2_placeAskedOf (wsV RX2 25 RX3 yX3_heightOf wsX3_heightOf) := goodIn_app (goodIn_of _ (by decide +kernel)) ggX2_placeAskedOf_X3_heightOf
set_option maxRecDepth 20000 in
theorem ggX2_placeAskedOf_X2_allHoldAt : GoodIn wsX2_placeAskedOf wsX2_allHoldAt := goodIn_r _ [11, 12, 13, 14, 15, 16, 17, 18, 19, 20, 21, 22, 23, 24, 25, 26, 27, 28, 29, 30, 31, 32, 33, 34, 35, 36, 37, 38, 39, 40, 41, 42, 43, 44, 45, 46, 47, 4, 48, 49, 50, 51, 52, 53, 54, 55, 56, 57, 58, 59, 60, 63, 64, 65, 66, 67, 68, 69, 70, 71] (by decide +kernel) (by decide +kernel)
set_option maxRecDepth 20000 in
theorem gX2_placeAskedOf_X2_allHoldAt : GoodIn wsX2_placeAskedOf (wsV RX2 57 RX2 yX2_allHoldAt wsX2_allHoldAt) := goodIn_app (goodIn_of _ (by decide +kernel)) ggX2_placeAskedOf_X2_allHoldAt
theorem dX2_placeAskedOf_0 : decode cX2_placeAskedOf 0 = .ok (.iconst (-1), 1) := by decide +kernel
theorem dX2_placeAskedOf_1 : decode cX2_placeAskedOf 1 = .ok (.istore_n 2, 1) := by decide +kernel
theorem dX2_placeAskedOf_2 : decode cX2_placeAskedOf 2 = .ok (.iconst 0, 1) := by decide +kernel
theorem dX2_placeAskedOf_3 : decode cX2_placeAskedOf 3 = .ok (.istore_n 3, 1) := by decide +kernel
theorem dX2_placeAskedOf_4 : decode cX2_placeAskedOf 4 = .ok (.iload_n 3, 1) := by decide +kernel
theorem dX2_placeAskedOf_5 : decode cX2_placeAskedOf 5 = .ok (.bipush 64, 2) := by decide +kernel
theorem dX2_placeAskedOf_7 : decode cX2_placeAskedOf 7 = .ok (.if_icmp .ge 31, 3) := by decide +kernel
theorem dX2_placeAskedOf_10 : decode cX2_placeAskedOf 10 = .ok (.aload_n 0, 1) := by decide +kernel
theorem dX2_placeAskedOf_11 : decode cX2_placeAskedOf 11 = .ok (.iload_n 3, 1) := by decide +kernel
theorem dX2_placeAskedOf_12 : decode cX2_placeAskedOf 12 = .ok (.aload_n 1, 1) := by decide +kernel
theorem dX2_placeAskedOf_13 : decode cX2_placeAskedOf 13 = .ok (.iload_n 3, 1) := by decide +kernel
theorem dX2_placeAskedOf_14 : decode cX2_placeAskedOf 14 = .ok (.invokevirtual 25, 3) := by decide +kernel
theorem dX2_placeAskedOf_17 : decode cX2_placeAskedOf 17 = .ok (.invokevirtual 57, 3) := by decide +kernel
theorem dX2_placeAskedOf_20 : decode cX2_placeAskedOf 20 = .ok (.ifCond .eq 12, 3) := by decide +kernel
theorem dX2_placeAskedOf_23 : decode cX2_placeAskedOf 23 = .ok (.iload_n 2, 1) := by decide +kernel
theorem dX2_placeAskedOf_24 : decode cX2_placeAskedOf 24 = .ok (.iconst (-1), 1) := by decide +kernel
theorem dX2_placeAskedOf_25 : decode cX2_placeAskedOf 25 = .ok (.if_icmp .eq 5, 3) := by decide +kernel
theorem dX2_placeAskedOf_28 : decode cX2_placeAskedOf 28 = .ok (.iconst (-1), 1) := by decide +kernel
theorem dX2_placeAskedOf_29 : decode cX2_placeAskedOf 29 = .ok (.ireturn, 1) := by decide +kernel
theorem dX2_placeAskedOf_30 : decode cX2_placeAskedOf 30 = .ok (.iload_n 3, 1) := by decide +kernel
theorem dX2_placeAskedOf_31 : decode cX2_placeAskedOf 31 = .ok (.istore_n 2, 1) := by decide +kernel
theorem dX2_placeAskedOf_32 : decode cX2_placeAskedOf 32 = .ok (.iinc 3 1, 3) := by decide +kernel
theorem dX2_placeAskedOf_35 : decode cX2_placeAskedOf 35 = .ok (.goto (-31), 3) := by decide +kernel
theorem dX2_placeAskedOf_38 : decode cX2_placeAskedOf 38 = .ok (.iload_n 2, 1) := by decide +kernel
theorem dX2_placeAskedOf_39 : decode cX2_placeAskedOf 39 = .ok (.ireturn, 1) := by decide +kernel
set_option maxRecDepth 20000 in
theorem ggX2_keptPlacesWithout_Jx4a65c_size_8abf5 : GoodIn wsX2_keptPlacesWithout wsJx4a65c_size_8abf5 := goodIn_r _ [8, 9, 34, 35, 36] (by decide +kernel) (by decide +kernel)
set_option maxRecDepth 20000 in
theorem gX2_keptPlacesWithout_Jx4a65c_size_8abf5 : GoodIn wsX2_keptPlacesWithout (wsV RX2 18 RJx4a65c yJx4a65c_size_8abf5 wsJx4a65c_size_8abf5) := goodIn_app (goodIn_of _ (by decide +kernel)) ggX2_keptPlacesWithout_Jx4a65c_size_8abf5
set_option maxRecDepth 20000 in
theorem ggX2_keptPlacesWithout_Jx4a65c_get_915e3 : GoodIn wsX2_keptPlacesWithout wsJx4a65c_get_915e3 := goodIn_r _ [13, 9, 14, 15, 16, 17, 18, 19, 20, 21, 22, 23, 24, 7, 25, 26, 34, 35, 36] (by decide +kernel) (by decide +kernel)
set_option maxRecDepth 20000 in
theorem gX2_keptPlacesWithout_Jx4a65c_get_915e3 : GoodIn wsX2_keptPlacesWithout (wsV RX2 41 RJx4a65c yJx4a65c_get_915e3 wsJx4a65c_get_915e3) := goodIn_app (goodIn_of _ (by decide +kernel)) ggX2_keptPlacesWithout_Jx4a65c_get_915e3
set_option maxRecDepth 20000 in
theorem ggX2_keptPlacesWithout_X1_keptPlaces : GoodIn wsX2_keptPlacesWithout wsX1_keptPlaces := goodIn_r _ [31, 32, 37, 38, 39, 40, 41] (by decide +kernel) (by decide +kernel)
set_option maxRecDepth 20000 in
theorem gX2_keptPlacesWithout_X1_keptPlaces : GoodIn wsX2_keptPlacesWithout (wsV RX2 63 RX1 yX1_keptPlaces wsX1_keptPlaces) := goodIn_app (goodIn_of _ (by decide +kernel)) ggX2_keptPlacesWithout_X1_keptPlaces
theorem dX2_keptPlacesWithout_0 : decode cX2_keptPlacesWithout 0 = .ok (.ldc2_w 61, 3) := by decide +kernel
theorem dX2_keptPlacesWithout_3 : decode cX2_keptPlacesWithout 3 = .ok (.lstore_n 2, 1) := by decide +kernel
theorem dX2_keptPlacesWithout_4 : decode cX2_keptPlacesWithout 4 = .ok (.iconst 0, 1) := by decide +kernel
theorem dX2_keptPlacesWithout_5 : decode cX2_keptPlacesWithout 5 = .ok (.istore 4, 2) := by decide +kernel
theorem dX2_keptPlacesWithout_7 : decode cX2_keptPlacesWithout 7 = .ok (.iload 4, 2) := by decide +kernel
theorem dX2_keptPlacesWithout_9 : decode cX2_keptPlacesWithout 9 = .ok (.aload_n 0, 1) := by decide +kernel
theorem dX2_keptPlacesWithout_10 : decode cX2_keptPlacesWithout 10 = .ok (.getfield 12, 3) := by decide +kernel
theorem dX2_keptPlacesWithout_13 : decode cX2_keptPlacesWithout 13 = .ok (.invokevirtual 18, 3) := by decide +kernel
theorem dX2_keptPlacesWithout_16 : decode cX2_keptPlacesWithout 16 = .ok (.if_icmp .ge 33, 3) := by decide +kernel
theorem dX2_keptPlacesWithout_19 : decode cX2_keptPlacesWithout 19 = .ok (.iload 4, 2) := by decide +kernel
theorem dX2_keptPlacesWithout_21 : decode cX2_keptPlacesWithout 21 = .ok (.iload_n 1, 1) := by decide +kernel
theorem dX2_keptPlacesWithout_22 : decode cX2_keptPlacesWithout 22 = .ok (.if_icmp .eq 21, 3) := by decide +kernel
theorem dX2_keptPlacesWithout_25 : decode cX2_keptPlacesWithout 25 = .ok (.lload_n 2, 1) := by decide +kernel
theorem dX2_keptPlacesWithout_26 : decode cX2_keptPlacesWithout 26 = .ok (.aload_n 0, 1) := by decide +kernel
theorem dX2_keptPlacesWithout_27 : decode cX2_keptPlacesWithout 27 = .ok (.getfield 12, 3) := by decide +kernel
theorem dX2_keptPlacesWithout_30 : decode cX2_keptPlacesWithout 30 = .ok (.iload 4, 2) := by decide +kernel
theorem dX2_keptPlacesWithout_32 : decode cX2_keptPlacesWithout 32 = .ok (.invokevirtual 41, 3) := by decide +kernel
theorem dX2_keptPlacesWithout_35 : decode cX2_keptPlacesWithout 35 = .ok (.checkcast 32, 3) := by decide +kernel
theorem dX2_keptPlacesWithout_38 : decode cX2_keptPlacesWithout 38 = .ok (.invokevirtual 63, 3) := by decide +kernel
theorem dX2_keptPlacesWithout_41 : decode cX2_keptPlacesWithout 41 = .ok (.land, 1) := by decide +kernel
theorem dX2_keptPlacesWithout_42 : decode cX2_keptPlacesWithout 42 = .ok (.lstore_n 2, 1) := by decide +kernel
theorem dX2_keptPlacesWithout_43 : decode cX2_keptPlacesWithout 43 = .ok (.iinc 4 1, 3) := by decide +kernel
theorem dX2_keptPlacesWithout_46 : decode cX2_keptPlacesWithout 46 = .ok (.goto (-39), 3) := by decide +kernel
theorem dX2_keptPlacesWithout_49 : decode cX2_keptPlacesWithout 49 = .ok (.lload_n 2, 1) := by decide +kernel
theorem dX2_keptPlacesWithout_50 : decode cX2_keptPlacesWithout 50 = .ok (.lreturn, 1) := by decide +kernel
set_option maxRecDepth 20000 in
theorem ggX2_allHoldAt_Jx4a65c_size_8abf5 : GoodIn wsX2_allHoldAt wsJx4a65c_size_8abf5 := goodIn_r _ [7, 8, 52, 53, 54] (by decide +kernel) (by decide +kernel)
set_option maxRecDepth 20000 in
theorem gX2_allHoldAt_Jx4a65c_size_8abf5 : GoodIn wsX2_allHoldAt (wsV RX2 18 RJx4a65c yJx4a65c_size_8abf5 wsJx4a65c_size_8abf5) := goodIn_app (goodIn_of _ (by decide +kernel)) ggX2_allHoldAt_Jx4a65c_size_8abf5
set_option maxRecDepth 20000 in
theorem ggX2_allHoldAt_Jx4a65c_get_915e3 : GoodIn wsX2_allHoldAt wsJx4a65c_get_915e3 := goodIn_r _ [12, 8, 13, 14, 15, 16, 17, 18, 19, 20, 21, 22, 23, 6, 24, 25, 52, 53, 54] (by decide +kernel) (by decide +kernel)
set_option maxRecDepth 20000 in
theorem gX2_allHoldAt_Jx4a65c_get_915e3 : GoodIn wsX2_allHoldAt (wsV RX2 41 RJx4a65c yJx4a65c_get_915e3 wsJx4a65c_get_915e3) := goodIn_app (goodIn_of _ (by decide +kernel)) ggX2_allHoldAt_Jx4a65c_get_915e3
set_option maxRecDepth 20000 in
theorem ggX2_allHoldAt_X1_holdsAt : GoodIn wsX2_allHoldAt wsX1_holdsAt := goodIn_r _ [30, 31, 32, 33, 34, 35, 36, 37, 38, 39, 40, 41, 42, 43, 44, 45, 46, 47, 48, 49, 50, 55, 56, 57, 58, 59] (by decide +kernel) (by decide +kernel)
set_option maxRecDepth 20000 in
theorem gX2_allHoldAt_X1_holdsAt : GoodIn wsX2_allHoldAt (wsV RX2 64 RX1 yX1_holdsAt wsX1_holdsAt) := goodIn_app (goodIn_of _ (by decide +kernel)) ggX2_allHoldAt_X1_holdsAt
theorem dX2_allHoldAt_0 : decode cX2_allHoldAt 0 = .ok (.iconst 0, 1) := by decide +kernel
theorem dX2_allHoldAt_1 : decode cX2_allHoldAt 1 = .ok (.istore_n 3, 1) := by decide +kernel
theorem dX2_allHoldAt_2 : decode cX2_allHoldAt 2 = .ok (.iload_n 3, 1) := by decide +kernel
theorem dX2_allHoldAt_3 : decode cX2_allHoldAt 3 = .ok (.aload_n 0, 1) := by decide +kernel
theorem dX2_allHoldAt_4 : decode cX2_allHoldAt 4 = .ok (.getfield 12, 3) := by decide +kernel
theorem dX2_allHoldAt_7 : decode cX2_allHoldAt 7 = .ok (.invokevirtual 18, 3) := by decide +kernel
theorem dX2_allHoldAt_10 : decode cX2_allHoldAt 10 = .ok (.if_icmp .ge 30, 3) := by decide +kernel
theorem dX2_allHoldAt_13 : decode cX2_allHoldAt 13 = .ok (.aload_n 0, 1) := by decide +kernel
theorem dX2_allHoldAt_14 : decode cX2_allHoldAt 14 = .ok (.getfield 12, 3) := by decide +kernel
theorem dX2_allHoldAt_17 : decode cX2_allHoldAt 17 = .ok (.iload_n 3, 1) := by decide +kernel
theorem dX2_allHoldAt_18 : decode cX2_allHoldAt 18 = .ok (.invokevirtual 41, 3) := by decide +kernel
theorem dX2_allHoldAt_21 : decode cX2_allHoldAt 21 = .ok (.checkcast 32, 3) := by decide +kernel
theorem dX2_allHoldAt_24 : decode cX2_allHoldAt 24 = .ok (.iload_n 1, 1) := by decide +kernel
theorem dX2_allHoldAt_25 : decode cX2_allHoldAt 25 = .ok (.iload_n 2, 1) := by decide +kernel
theorem dX2_allHoldAt_26 : decode cX2_allHoldAt 26 = .ok (.invokevirtual 64, 3) := by decide +kernel
theorem dX2_allHoldAt_29 : decode cX2_allHoldAt 29 = .ok (.ifCond .ne 5, 3) := by decide +kernel
theorem dX2_allHoldAt_32 : decode cX2_allHoldAt 32 = .ok (.iconst 0, 1) := by decide +kernel
theorem dX2_allHoldAt_33 : decode cX2_allHoldAt 33 = .ok (.ireturn, 1) := by decide +kernel
theorem dX2_allHoldAt_34 : decode cX2_allHoldAt 34 = .ok (.iinc 3 1, 3) := by decide +kernel
theorem dX2_allHoldAt_37 : decode cX2_allHoldAt 37 = .ok (.goto (-35), 3) := by decide +kernel
theorem dX2_allHoldAt_40 : decode cX2_allHoldAt 40 = .ok (.iconst 1, 1) := by decide +kernel
theorem dX2_allHoldAt_41 : decode cX2_allHoldAt 41 = .ok (.ireturn, 1) := by decide +kernel
theorem dX3_init_0 : decode cX3_init 0 = .ok (.aload_n 0, 1) := by decide +kernel
theorem dX3_init_1 : decode cX3_init 1 = .ok (.invokespecial 3, 3) := by decide +kernel
theorem dX3_init_4 : decode cX3_init 4 = .ok (.aload_n 0, 1) := by decide +kernel
theorem dX3_init_5 : decode cX3_init 5 = .ok (.bipush 64, 2) := by decide +kernel
theorem dX3_init_7 : decode cX3_init 7 = .ok (.newarray .int, 2) := by decide +kernel
theorem dX3_init_9 : decode cX3_init 9 = .ok (.putfield 9, 3) := by decide +kernel
theorem dX3_init_12 : decode cX3_init 12 = .ok (.aload_n 0, 1) := by decide +kernel
theorem dX3_init_13 : decode cX3_init 13 = .ok (.bipush 64, 2) := by decide +kernel
theorem dX3_init_15 : decode cX3_init 15 = .ok (.newarray .boolean, 2) := by decide +kernel
theorem dX3_init_17 : decode cX3_init 17 = .ok (.putfield 15, 3) := by decide +kernel
theorem dX3_init_20 : decode cX3_init 20 = .ok (.return_, 1) := by decide +kernel
theorem dX3_isPlace_0 : decode cX3_isPlace 0 = .ok (.iload_n 0, 1) := by decide +kernel
theorem dX3_isPlace_1 : decode cX3_isPlace 1 = .ok (.ifCond .lt 13, 3) := by decide +kernel
theorem dX3_isPlace_4 : decode cX3_isPlace 4 = .ok (.iload_n 0, 1) := by decide +kernel
theorem dX3_isPlace_5 : decode cX3_isPlace 5 = .ok (.bipush 64, 2) := by decide +kernel
theorem dX3_isPlace_7 : decode cX3_isPlace 7 = .ok (.if_icmp .ge 7, 3) := by decide +kernel
theorem dX3_isPlace_10 : decode cX3_isPlace 10 = .ok (.iconst 1, 1) := by decide +kernel
theorem dX3_isPlace_11 : decode cX3_isPlace 11 = .ok (.goto 4, 3) := by decide +kernel
theorem dX3_isPlace_14 : decode cX3_isPlace 14 = .ok (.iconst 0, 1) := by decide +kernel
theorem dX3_isPlace_15 : decode cX3_isPlace 15 = .ok (.ireturn, 1) := by decide +kernel
theorem dX3_rowOf_0 : decode cX3_rowOf 0 = .ok (.iload_n 0, 1) := by decide +kernel
theorem dX3_rowOf_1 : decode cX3_rowOf 1 = .ok (.bipush 8, 2) := by decide +kernel
theorem dX3_rowOf_3 : decode cX3_rowOf 3 = .ok (.idiv, 1) := by decide +kernel
theorem dX3_rowOf_4 : decode cX3_rowOf 4 = .ok (.ireturn, 1) := by decide +kernel
theorem dX3_columnOf_0 : decode cX3_columnOf 0 = .ok (.iload_n 0, 1) := by decide +kernel
theorem dX3_columnOf_1 : decode cX3_columnOf 1 = .ok (.bipush 8, 2) := by decide +kernel
theorem dX3_columnOf_3 : decode cX3_columnOf 3 = .ok (.irem, 1) := by decide +kernel
theorem dX3_columnOf_4 : decode cX3_columnOf 4 = .ok (.ireturn, 1) := by decide +kernel
set_option maxRecDepth 20000 in
theorem ggX3_distance_X3_rowOf : GoodIn wsX3_distance wsX3_rowOf := goodIn_r _ [8] (by decide +kernel) (by decide +kernel)
set_option maxRecDepth 20000 in
theorem gX3_distance_X3_rowOf : GoodIn wsX3_distance (va_wsS RX3 19 yX3_rowOf wsX3_rowOf) := goodIn_app (goodIn_of _ (by decide +kernel)) ggX3_distance_X3_rowOf
set_option maxRecDepth 20000 in
theorem ggX3_distance_X3_columnOf : GoodIn wsX3_distance wsX3_columnOf := goodIn_r _ [11] (by decide +kernel) (by decide +kernel)
set_option maxRecDepth 20000 in
theorem gX3_distance_X3_columnOf : GoodIn wsX3_distance (va_wsS RX3 28 yX3_columnOf wsX3_columnOf) := goodIn_app (goodIn_of _ (by decide +kernel)) ggX3_distance_X3_columnOf
theorem dX3_distance_0 : decode cX3_distance 0 = .ok (.iload_n 0, 1) := by decide +kernel
theorem dX3_distance_1 : decode cX3_distance 1 = .ok (.invokestatic 19, 3) := by decide +kernel
theorem dX3_distance_4 : decode cX3_distance 4 = .ok (.iload_n 1, 1) := by decide +kernel
theorem dX3_distance_5 : decode cX3_distance 5 = .ok (.invokestatic 19, 3) := by decide +kernel
theorem dX3_distance_8 : decode cX3_distance 8 = .ok (.isub, 1) := by decide +kernel
theorem dX3_distance_9 : decode cX3_distance 9 = .ok (.invokestatic 23, 3) := by decide +kernel
theorem dX3_distance_12 : decode cX3_distance 12 = .ok (.iload_n 0, 1) := by decide +kernel
theorem dX3_distance_13 : decode cX3_distance 13 = .ok (.invokestatic 28, 3) := by decide +kernel
theorem dX3_distance_16 : decode cX3_distance 16 = .ok (.iload_n 1, 1) := by decide +kernel
theorem dX3_distance_17 : decode cX3_distance 17 = .ok (.invokestatic 28, 3) := by decide +kernel
theorem dX3_distance_20 : decode cX3_distance 20 = .ok (.isub, 1) := by decide +kernel
theorem dX3_distance_21 : decode cX3_distance 21 = .ok (.invokestatic 23, 3) := by decide +kernel
theorem dX3_distance_24 : decode cX3_distance 24 = .ok (.iadd, 1) := by decide +kernel
theorem dX3_distance_25 : decode cX3_distance 25 = .ok (.ireturn, 1) := by decide +kernel
set_option maxRecDepth 20000 in
theorem ggX3_neighbour_X3_rowOf : GoodIn wsX3_neighbour wsX3_rowOf := goodIn_r _ [4] (by decide +kernel) (by decide +kernel)
set_option maxRecDepth 20000 in
theorem gX3_neighbour_X3_rowOf : GoodIn wsX3_neighbour (va_wsS RX3 19 yX3_rowOf wsX3_rowOf) := goodIn_app (goodIn_of _ (by decide +kernel)) ggX3_neighbour_X3_rowOf
set_option maxRecDepth 20000 in
theorem ggX3_neighbour_X3_columnOf : GoodIn wsX3_neighbour wsX3_columnOf := goodIn_r _ [7] (by decide +kernel) (by decide +kernel)
set_option maxRecDepth 20000 in
theorem gX3_neighbour_X3_columnOf : GoodIn wsX3_neighbour (va_wsS RX3 28 yX3_columnOf wsX3_columnOf) := goodIn_app (goodIn_of _ (by decide +kernel)) ggX3_neighbour_X3_columnOf
theorem dX3_neighbour_0 : decode cX3_neighbour 0 = .ok (.iload_n 1, 1) := by decide +kernel
theorem dX3_neighbour_1 : decode cX3_neighbour 1 = .ok (.tableswitch 75 0 2 #[27, 43, 58], 27) := by decide +kernel
theorem dX3_neighbour_28 : decode cX3_neighbour 28 = .ok (.iload_n 0, 1) := by decide +kernel
theorem dX3_neighbour_29 : decode cX3_neighbour 29 = .ok (.invokestatic 19, 3) := by decide +kernel
theorem dX3_neighbour_32 : decode cX3_neighbour 32 = .ok (.ifCond .le 10, 3) := by decide +kernel
theorem dX3_neighbour_35 : decode cX3_neighbour 35 = .ok (.iload_n 0, 1) := by decide +kernel
theorem dX3_neighbour_36 : decode cX3_neighbour 36 = .ok (.bipush 8, 2) := by decide +kernel
theorem dX3_neighbour_38 : decode cX3_neighbour 38 = .ok (.isub, 1) := by decide +kernel
theorem dX3_neighbour_39 : decode cX3_neighbour 39 = .ok (.goto 4, 3) := by decide +kernel
theorem dX3_neighbour_42 : decode cX3_neighbour 42 = .ok (.iconst (-1), 1) := by decide +kernel
theorem dX3_neighbour_43 : decode cX3_neighbour 43 = .ok (.ireturn, 1) := by decide +kernel
theorem dX3_neighbour_44 : decode cX3_neighbour 44 = .ok (.iload_n 0, 1) := by decide +kernel
theorem dX3_neighbour_45 : decode cX3_neighbour 45 = .ok (.invokestatic 28, 3) := by decide +kernel
theorem dX3_neighbour_48 : decode cX3_neighbour 48 = .ok (.ifCond .le 9, 3) := by decide +kernel
theorem dX3_neighbour_51 : decode cX3_neighbour 51 = .ok (.iload_n 0, 1) := by decide +kernel
theorem dX3_neighbour_52 : decode cX3_neighbour 52 = .ok (.iconst 1, 1) := by decide +kernel
theorem dX3_neighbour_53 : decode cX3_neighbour 53 = .ok (.isub, 1) := by decide +kernel
theorem dX3_neighbour_54 : decode cX3_neighbour 54 = .ok (.goto 4, 3) := by decide +kernel
theorem dX3_neighbour_57 : decode cX3_neighbour 57 = .ok (.iconst (-1), 1) := by decide +kernel
theorem dX3_neighbour_58 : decode cX3_neighbour 58 = .ok (.ireturn, 1) := by decide +kernel
theorem dX3_neighbour_59 : decode cX3_neighbour 59 = .ok (.iload_n 0, 1) := by decide +kernel
theorem dX3_neighbour_60 : decode cX3_neighbour 60 = .ok (.invokestatic 28, 3) := by decide +kernel
theorem dX3_neighbour_63 : decode cX3_neighbour 63 = .ok (.bipush 7, 2) := by decide +kernel
theorem dX3_neighbour_65 : decode cX3_neighbour 65 = .ok (.if_icmp .ge 9, 3) := by decide +kernel
theorem dX3_neighbour_68 : decode cX3_neighbour 68 = .ok (.iload_n 0, 1) := by decide +kernel
theorem dX3_neighbour_69 : decode cX3_neighbour 69 = .ok (.iconst 1, 1) := by decide +kernel
theorem dX3_neighbour_70 : decode cX3_neighbour 70 = .ok (.iadd, 1) := by decide +kernel
theorem dX3_neighbour_71 : decode cX3_neighbour 71 = .ok (.goto 4, 3) := by decide +kernel
theorem dX3_neighbour_74 : decode cX3_neighbour 74 = .ok (.iconst (-1), 1) := by decide +kernel
theorem dX3_neighbour_75 : decode cX3_neighbour 75 = .ok (.ireturn, 1) := by decide +kernel
theorem dX3_neighbour_76 : decode cX3_neighbour 76 = .ok (.iload_n 0, 1) := by decide +kernel
theorem dX3_neighbour_77 : decode cX3_neighbour 77 = .ok (.invokestatic 19, 3) := by decide +kernel
theorem dX3_neighbour_80 : decode cX3_neighbour 80 = .ok (.bipush 7, 2) := by decide +kernel
theorem dX3_neighbour_82 : decode cX3_neighbour 82 = .ok (.if_icmp .ge 10, 3) := by decide +kernel
theorem dX3_neighbour_85 : decode cX3_neighbour 85 = .ok (.iload_n 0, 1) := by decide +kernel
theorem dX3_neighbour_86 : decode cX3_neighbour 86 = .ok (.bipush 8, 2) := by decide +kernel
theorem dX3_neighbour_88 : decode cX3_neighbour 88 = .ok (.iadd, 1) := by decide +kernel
theorem dX3_neighbour_89 : decode cX3_neighbour 89 = .ok (.goto 4, 3) := by decide +kernel
theorem dX3_neighbour_92 : decode cX3_neighbour 92 = .ok (.iconst (-1), 1) := by decide +kernel
theorem dX3_neighbour_93 : decode cX3_neighbour 93 = .ok (.ireturn, 1) := by decide +kernel
theorem dX3_heightOf_0 : decode cX3_heightOf 0 = .ok (.iload_n 1, 1) := by decide +kernel
theorem dX3_heightOf_1 : decode cX3_heightOf 1 = .ok (.ifCond .lt 21, 3) := by decide +kernel
theorem dX3_heightOf_4 : decode cX3_heightOf 4 = .ok (.iload_n 1, 1) := by decide +kernel
theorem dX3_heightOf_5 : decode cX3_heightOf 5 = .ok (.aload_n 0, 1) := by decide +kernel
theorem dX3_heightOf_6 : decode cX3_heightOf 6 = .ok (.getfield 9, 3) := by decide +kernel
theorem dX3_heightOf_9 : decode cX3_heightOf 9 = .ok (.arraylength, 1) := by decide +kernel
theorem dX3_heightOf_10 : decode cX3_heightOf 10 = .ok (.if_icmp .ge 12, 3) := by decide +kernel
theorem dX3_heightOf_13 : decode cX3_heightOf 13 = .ok (.aload_n 0, 1) := by decide +kernel
theorem dX3_heightOf_14 : decode cX3_heightOf 14 = .ok (.getfield 9, 3) := by decide +kernel
theorem dX3_heightOf_17 : decode cX3_heightOf 17 = .ok (.iload_n 1, 1) := by decide +kernel
theorem dX3_heightOf_18 : decode cX3_heightOf 18 = .ok (.iaload, 1) := by decide +kernel
theorem dX3_heightOf_19 : decode cX3_heightOf 19 = .ok (.goto 4, 3) := by decide +kernel
theorem dX3_heightOf_22 : decode cX3_heightOf 22 = .ok (.iconst 0, 1) := by decide +kernel
theorem dX3_heightOf_23 : decode cX3_heightOf 23 = .ok (.ireturn, 1) := by decide +kernel
set_option maxRecDepth 20000 in
theorem ggX3_shape_X3_isPlace : GoodIn wsX3_shape wsX3_isPlace := goodIn_r _ [5] (by decide +kernel) (by decide +kernel)
set_option maxRecDepth 20000 in
theorem gX3_shape_X3_isPlace : GoodIn wsX3_shape (va_wsS RX3 31 yX3_isPlace wsX3_isPlace) := goodIn_app (goodIn_of _ (by decide +kernel)) ggX3_shape_X3_isPlace
theorem dX3_shape_0 : decode cX3_shape 0 = .ok (.iload_n 1, 1) := by decide +kernel
theorem dX3_shape_1 : decode cX3_shape 1 = .ok (.invokestatic 31, 3) := by decide +kernel
theorem dX3_shape_4 : decode cX3_shape 4 = .ok (.ifCond .eq 10, 3) := by decide +kernel
theorem dX3_shape_7 : decode cX3_shape 7 = .ok (.aload_n 0, 1) := by decide +kernel
theorem dX3_shape_8 : decode cX3_shape 8 = .ok (.getfield 9, 3) := by decide +kernel
theorem dX3_shape_11 : decode cX3_shape 11 = .ok (.iload_n 1, 1) := by decide +kernel
theorem dX3_shape_12 : decode cX3_shape 12 = .ok (.iload_n 2, 1) := by decide +kernel
theorem dX3_shape_13 : decode cX3_shape 13 = .ok (.iastore, 1) := by decide +kernel
theorem dX3_shape_14 : decode cX3_shape 14 = .ok (.return_, 1) := by decide +kernel
set_option maxRecDepth 20000 in
theorem ggX3_canEnter_X3_isPlace : GoodIn wsX3_canEnter wsX3_isPlace := goodIn_r _ [5] (by decide +kernel) (by decide +kernel)
set_option maxRecDepth 20000 in
theorem gX3_canEnter_X3_isPlace : GoodIn wsX3_canEnter (va_wsS RX3 31 yX3_isPlace wsX3_isPlace) := goodIn_app (goodIn_of _ (by decide +kernel)) ggX3_canEnter_X3_isPlace
theorem dX3_canEnter_0 : decode cX3_canEnter 0 = .ok (.iload_n 1, 1) := by decide +kernel
theorem dX3_canEnter_1 : decode cX3_canEnter 1 = .ok (.invokestatic 31, 3) := by decide +kernel
theorem dX3_canEnter_4 : decode cX3_canEnter 4 = .ok (.ifCond .eq 16, 3) := by decide +kernel
theorem dX3_canEnter_7 : decode cX3_canEnter 7 = .ok (.aload_n 0, 1) := by decide +kernel
theorem dX3_canEnter_8 : decode cX3_canEnter 8 = .ok (.getfield 15, 3) := by decide +kernel
theorem dX3_canEnter_11 : decode cX3_canEnter 11 = .ok (.iload_n 1, 1) := by decide +kernel
theorem dX3_canEnter_12 : decode cX3_canEnter 12 = .ok (.baload, 1) := by decide +kernel
theorem dX3_canEnter_13 : decode cX3_canEnter 13 = .ok (.ifCond .ne 7, 3) := by decide +kernel
theorem dX3_canEnter_16 : decode cX3_canEnter 16 = .ok (.iconst 1, 1) := by decide +kernel
theorem dX3_canEnter_17 : decode cX3_canEnter 17 = .ok (.goto 4, 3) := by decide +kernel
theorem dX3_canEnter_20 : decode cX3_canEnter 20 = .ok (.iconst 0, 1) := by decide +kernel
theorem dX3_canEnter_21 : decode cX3_canEnter 21 = .ok (.ireturn, 1) := by decide +kernel
set_option maxRecDepth 20000 in
theorem ggX3_turnGate_X3_isPlace : GoodIn wsX3_turnGate wsX3_isPlace := goodIn_r _ [5] (by decide +kernel) (by decide +kernel)
set_option maxRecDepth 20000 in
theorem gX3_turnGate_X3_isPlace : GoodIn wsX3_turnGate (va_wsS RX3 31 yX3_isPlace wsX3_isPlace) := goodIn_app (goodIn_of _ (by decide +kernel)) ggX3_turnGate_X3_isPlace
theorem dX3_turnGate_0 : decode cX3_turnGate 0 = .ok (.iload_n 1, 1) := by decide +kernel
theorem dX3_turnGate_1 : decode cX3_turnGate 1 = .ok (.invokestatic 31, 3) := by decide +kernel
theorem dX3_turnGate_4 : decode cX3_turnGate 4 = .ok (.ifCond .ne 5, 3) := by decide +kernel
theorem dX3_turnGate_7 : decode cX3_turnGate 7 = .ok (.iconst 0, 1) := by decide +kernel
theorem dX3_turnGate_8 : decode cX3_turnGate 8 = .ok (.ireturn, 1) := by decide +kernel
theorem dX3_turnGate_9 : decode cX3_turnGate 9 = .ok (.aload_n 0, 1) := by decide +kernel
theorem dX3_turnGate_10 : decode cX3_turnGate 10 = .ok (.getfield 15, 3) := by decide +kernel
theorem dX3_turnGate_13 : decode cX3_turnGate 13 = .ok (.iload_n 1, 1) := by decide +kernel
theorem dX3_turnGate_14 : decode cX3_turnGate 14 = .ok (.aload_n 0, 1) := by decide +kernel
theorem dX3_turnGate_15 : decode cX3_turnGate 15 = .ok (.getfield 15, 3) := by decide +kernel
theorem dX3_turnGate_18 : decode cX3_turnGate 18 = .ok (.iload_n 1, 1) := by decide +kernel
theorem dX3_turnGate_19 : decode cX3_turnGate 19 = .ok (.baload, 1) := by decide +kernel
theorem dX3_turnGate_20 : decode cX3_turnGate 20 = .ok (.ifCond .ne 7, 3) := by decide +kernel
theorem dX3_turnGate_23 : decode cX3_turnGate 23 = .ok (.iconst 1, 1) := by decide +kernel
theorem dX3_turnGate_24 : decode cX3_turnGate 24 = .ok (.goto 4, 3) := by decide +kernel
theorem dX3_turnGate_27 : decode cX3_turnGate 27 = .ok (.iconst 0, 1) := by decide +kernel
theorem dX3_turnGate_28 : decode cX3_turnGate 28 = .ok (.bastore, 1) := by decide +kernel
theorem dX3_turnGate_29 : decode cX3_turnGate 29 = .ok (.aload_n 0, 1) := by decide +kernel
theorem dX3_turnGate_30 : decode cX3_turnGate 30 = .ok (.getfield 15, 3) := by decide +kernel
theorem dX3_turnGate_33 : decode cX3_turnGate 33 = .ok (.iload_n 1, 1) := by decide +kernel
theorem dX3_turnGate_34 : decode cX3_turnGate 34 = .ok (.baload, 1) := by decide +kernel
theorem dX3_turnGate_35 : decode cX3_turnGate 35 = .ok (.ireturn, 1) := by decide +kernel
set_option maxRecDepth 20000 in
theorem ggX3_stepCost_X3_heightOf : GoodIn wsX3_stepCost wsX3_heightOf := goodIn_r _ [9, 10, 11, 12] (by decide +kernel) (by decide +kernel)
set_option maxRecDepth 20000 in
theorem gX3_stepCost_X3_heightOf : GoodIn wsX3_stepCost (wsV RX3 35 RX3 yX3_heightOf wsX3_heightOf) := goodIn_app (goodIn_of _ (by decide +kernel)) ggX3_stepCost_X3_heightOf
theorem dX3_stepCost_0 : decode cX3_stepCost 0 = .ok (.iconst 1, 1) := by decide +kernel
theorem dX3_stepCost_1 : decode cX3_stepCost 1 = .ok (.aload_n 0, 1) := by decide +kernel
theorem dX3_stepCost_2 : decode cX3_stepCost 2 = .ok (.iload_n 1, 1) := by decide +kernel
theorem dX3_stepCost_3 : decode cX3_stepCost 3 = .ok (.invokevirtual 35, 3) := by decide +kernel
theorem dX3_stepCost_6 : decode cX3_stepCost 6 = .ok (.aload_n 0, 1) := by decide +kernel
theorem dX3_stepCost_7 : decode cX3_stepCost 7 = .ok (.iload_n 2, 1) := by decide +kernel
theorem dX3_stepCost_8 : decode cX3_stepCost 8 = .ok (.invokevirtual 35, 3) := by decide +kernel
theorem dX3_stepCost_11 : decode cX3_stepCost 11 = .ok (.isub, 1) := by decide +kernel
theorem dX3_stepCost_12 : decode cX3_stepCost 12 = .ok (.invokestatic 23, 3) := by decide +kernel
theorem dX3_stepCost_15 : decode cX3_stepCost 15 = .ok (.iadd, 1) := by decide +kernel
theorem dX3_stepCost_16 : decode cX3_stepCost 16 = .ok (.ireturn, 1) := by decide +kernel
set_option maxRecDepth 20000 in
theorem ggX4_init_X2_keptPlace : GoodIn wsX4_init wsX2_keptPlace := goodIn_r _ [12, 13, 14, 15, 11, 16, 17, 18, 19, 20, 21, 22, 23, 24, 25, 26, 27, 28, 29, 30, 31, 32, 33, 34, 35, 36, 37, 38, 39, 40, 41, 42, 43, 44, 45, 46, 47, 48, 49, 50, 51, 52, 53, 54, 55, 60, 61, 62, 63, 64, 65, 66, 67, 68] (by decide +kernel) (by decide +kernel)
set_option maxRecDepth 20000 in
theorem gX4_init_X2_keptPlace : GoodIn wsX4_init (wsV RX4 23 RX2 yX2_keptPlace wsX2_keptPlace) := goodIn_app (goodIn_of _ (by decide +kernel)) ggX4_init_X2_keptPlace
theorem dX4_init_0 : decode cX4_init 0 = .ok (.aload_n 0, 1) := by decide +kernel
theorem dX4_init_1 : decode cX4_init 1 = .ok (.invokespecial 3, 3) := by decide +kernel
theorem dX4_init_4 : decode cX4_init 4 = .ok (.aload_n 0, 1) := by decide +kernel
theorem dX4_init_5 : decode cX4_init 5 = .ok (.iconst 0, 1) := by decide +kernel
theorem dX4_init_6 : decode cX4_init 6 = .ok (.putfield 9, 3) := by decide +kernel
theorem dX4_init_9 : decode cX4_init 9 = .ok (.aload_n 0, 1) := by decide +kernel
theorem dX4_init_10 : decode cX4_init 10 = .ok (.aload_n 1, 1) := by decide +kernel
theorem dX4_init_11 : decode cX4_init 11 = .ok (.putfield 15, 3) := by decide +kernel
theorem dX4_init_14 : decode cX4_init 14 = .ok (.aload_n 0, 1) := by decide +kernel
theorem dX4_init_15 : decode cX4_init 15 = .ok (.aload_n 2, 1) := by decide +kernel
theorem dX4_init_16 : decode cX4_init 16 = .ok (.putfield 19, 3) := by decide +kernel
theorem dX4_init_19 : decode cX4_init 19 = .ok (.aload_n 0, 1) := by decide +kernel
theorem dX4_init_20 : decode cX4_init 20 = .ok (.aload_n 1, 1) := by decide +kernel
theorem dX4_init_21 : decode cX4_init 21 = .ok (.invokevirtual 23, 3) := by decide +kernel
theorem dX4_init_24 : decode cX4_init 24 = .ok (.putfield 29, 3) := by decide +kernel
theorem dX4_init_27 : decode cX4_init 27 = .ok (.return_, 1) := by decide +kernel
theorem dX4_hints_0 : decode cX4_hints 0 = .ok (.aload_n 0, 1) := by decide +kernel
theorem dX4_hints_1 : decode cX4_hints 1 = .ok (.getfield 15, 3) := by decide +kernel
theorem dX4_hints_4 : decode cX4_hints 4 = .ok (.areturn, 1) := by decide +kernel
theorem dX4_word_0 : decode cX4_word 0 = .ok (.aload_n 0, 1) := by decide +kernel
theorem dX4_word_1 : decode cX4_word 1 = .ok (.getfield 19, 3) := by decide +kernel
theorem dX4_word_4 : decode cX4_word 4 = .ok (.areturn, 1) := by decide +kernel
theorem dX4_standsAt_0 : decode cX4_standsAt 0 = .ok (.aload_n 0, 1) := by decide +kernel
theorem dX4_standsAt_1 : decode cX4_standsAt 1 = .ok (.getfield 29, 3) := by decide +kernel
theorem dX4_standsAt_4 : decode cX4_standsAt 4 = .ok (.ireturn, 1) := by decide +kernel
theorem dX4_moveCount_0 : decode cX4_moveCount 0 = .ok (.aload_n 0, 1) := by decide +kernel
theorem dX4_moveCount_1 : decode cX4_moveCount 1 = .ok (.getfield 9, 3) := by decide +kernel
theorem dX4_moveCount_4 : decode cX4_moveCount 4 = .ok (.ireturn, 1) := by decide +kernel
set_option maxRecDepth 20000 in
theorem ggX4_follow_X2_lookAgainAt : GoodIn wsX4_follow wsX2_lookAgainAt := goodIn_r _ [8, 9, 10, 11, 12, 13, 14, 15, 16, 17, 18, 19, 20, 21, 22, 23, 24, 25, 26, 27, 28, 29, 30, 31, 32, 33, 34, 35, 36, 37, 38, 39, 40, 41, 42, 43, 44, 45, 46, 47, 48, 49, 50, 51, 52, 53, 54, 55, 56, 57, 58, 59, 60, 61, 62, 63, 64, 89, 90, 91, 92, 93, 94, 95, 96, 97] (by decide +kernel) (by decide +kernel)
set_option maxRecDepth 20000 in
theorem gX4_follow_X2_lookAgainAt : GoodIn wsX4_follow (wsV RX4 32 RX2 yX2_lookAgainAt wsX2_lookAgainAt) := goodIn_app (goodIn_of _ (by decide +kernel)) ggX4_follow_X2_lookAgainAt
set_option maxRecDepth 20000 in
theorem ggX4_follow_X2_keptPlace : GoodIn wsX4_follow wsX2_keptPlace := goodIn_r _ [68, 69, 70, 71, 7, 72, 73, 74, 75, 76, 77, 9, 10, 11, 12, 13, 14, 15, 16, 17, 18, 19, 20, 21, 22, 23, 24, 25, 26, 27, 28, 29, 30, 31, 32, 33, 78, 79, 80, 37, 81, 39, 82, 83, 84, 89, 90, 91, 92, 93, 94, 95, 96, 97] (by decide +kernel) (by decide +kernel)
set_option maxRecDepth 20000 in
theorem gX4_follow_X2_keptPlace : GoodIn wsX4_follow (wsV RX4 23 RX2 yX2_keptPlace wsX2_keptPlace) := goodIn_app (goodIn_of _ (by decide +kernel)) ggX4_follow_X2_keptPlace
theorem dX4_follow_0 : decode cX4_follow 0 = .ok (.aload_n 0, 1) := by decide +kernel
theorem dX4_follow_1 : decode cX4_follow 1 = .ok (.getfield 15, 3) := by decide +kernel
theorem dX4_follow_4 : decode cX4_follow 4 = .ok (.iload_n 1, 1) := by decide +kernel
theorem dX4_follow_5 : decode cX4_follow 5 = .ok (.iload_n 2, 1) := by decide +kernel
theorem dX4_follow_6 : decode cX4_follow 6 = .ok (.invokevirtual 32, 3) := by decide +kernel
theorem dX4_follow_9 : decode cX4_follow 9 = .ok (.aload_n 0, 1) := by decide +kernel
theorem dX4_follow_10 : decode cX4_follow 10 = .ok (.getfield 15, 3) := by decide +kernel
theorem dX4_follow_13 : decode cX4_follow 13 = .ok (.invokevirtual 23, 3) := by decide +kernel
theorem dX4_follow_16 : decode cX4_follow 16 = .ok (.istore_n 3, 1) := by decide +kernel
theorem dX4_follow_17 : decode cX4_follow 17 = .ok (.iload_n 3, 1) := by decide +kernel
theorem dX4_follow_18 : decode cX4_follow 18 = .ok (.aload_n 0, 1) := by decide +kernel
theorem dX4_follow_19 : decode cX4_follow 19 = .ok (.getfield 29, 3) := by decide +kernel
theorem dX4_follow_22 : decode cX4_follow 22 = .ok (.if_icmp .ne 5, 3) := by decide +kernel
theorem dX4_follow_25 : decode cX4_follow 25 = .ok (.iconst 0, 1) := by decide +kernel
theorem dX4_follow_26 : decode cX4_follow 26 = .ok (.ireturn, 1) := by decide +kernel
theorem dX4_follow_27 : decode cX4_follow 27 = .ok (.aload_n 0, 1) := by decide +kernel
theorem dX4_follow_28 : decode cX4_follow 28 = .ok (.iload_n 3, 1) := by decide +kernel
theorem dX4_follow_29 : decode cX4_follow 29 = .ok (.putfield 29, 3) := by decide +kernel
theorem dX4_follow_32 : decode cX4_follow 32 = .ok (.aload_n 0, 1) := by decide +kernel
theorem dX4_follow_33 : decode cX4_follow 33 = .ok (.dup, 1) := by decide +kernel
theorem dX4_follow_34 : decode cX4_follow 34 = .ok (.getfield 9, 3) := by decide +kernel
theorem dX4_follow_37 : decode cX4_follow 37 = .ok (.iconst 1, 1) := by decide +kernel
theorem dX4_follow_38 : decode cX4_follow 38 = .ok (.iadd, 1) := by decide +kernel
theorem dX4_follow_39 : decode cX4_follow 39 = .ok (.putfield 9, 3) := by decide +kernel
theorem dX4_follow_42 : decode cX4_follow 42 = .ok (.iconst 1, 1) := by decide +kernel
theorem dX4_follow_43 : decode cX4_follow 43 = .ok (.ireturn, 1) := by decide +kernel
set_option maxRecDepth 20000 in
theorem ggX4_cipherCount_X5_count : GoodIn wsX4_cipherCount wsX5_count := goodIn_r _ [6, 7, 12, 13] (by decide +kernel) (by decide +kernel)
set_option maxRecDepth 20000 in
theorem gX4_cipherCount_X5_count : GoodIn wsX4_cipherCount (wsV RX4 36 RX5 yX5_count wsX5_count) := goodIn_app (goodIn_of _ (by decide +kernel)) ggX4_cipherCount_X5_count
theorem dX4_cipherCount_0 : decode cX4_cipherCount 0 = .ok (.aload_n 0, 1) := by decide +kernel
theorem dX4_cipherCount_1 : decode cX4_cipherCount 1 = .ok (.getfield 19, 3) := by decide +kernel
theorem dX4_cipherCount_4 : decode cX4_cipherCount 4 = .ok (.invokevirtual 36, 3) := by decide +kernel
theorem dX4_cipherCount_7 : decode cX4_cipherCount 7 = .ok (.iconst 1, 1) := by decide +kernel
theorem dX4_cipherCount_8 : decode cX4_cipherCount 8 = .ok (.iadd, 1) := by decide +kernel
theorem dX4_cipherCount_9 : decode cX4_cipherCount 9 = .ok (.ireturn, 1) := by decide +kernel
set_option maxRecDepth 20000 in
theorem ggX4_cipherLetter_X4_insertedAt : GoodIn wsX4_cipherLetter wsX4_insertedAt := goodIn_r _ [7, 1, 8, 9, 10, 6, 11, 2, 12, 13, 14, 15, 16, 17, 23, 24, 25, 26, 27, 28] (by decide +kernel) (by decide +kernel)
set_option maxRecDepth 20000 in
theorem gX4_cipherLetter_X4_insertedAt : GoodIn wsX4_cipherLetter (wsV RX4 41 RX4 yX4_insertedAt wsX4_insertedAt) := goodIn_app (goodIn_of _ (by decide +kernel)) ggX4_cipherLetter_X4_insertedAt
set_option maxRecDepth 20000 in
theorem ggX4_cipherLetter_X5_count : GoodIn wsX4_cipherLetter wsX5_count := goodIn_r _ [16, 17, 27, 28] (by decide +kernel) (by decide +kernel)
set_option maxRecDepth 20000 in
theorem gX4_cipherLetter_X5_count : GoodIn wsX4_cipherLetter (wsV RX4 36 RX5 yX5_count wsX5_count) := goodIn_app (goodIn_of _ (by decide +kernel)) ggX4_cipherLetter_X5_count
set_option maxRecDepth 20000 in
theorem ggX4_cipherLetter_X5_letterAt : GoodIn wsX4_cipherLetter wsX5_letterAt := goodIn_r _ [21, 17, 22, 27, 28] (by decide +kernel) (by decide +kernel)
set_option maxRecDepth 20000 in
theorem gX4_cipherLetter_X5_letterAt : GoodIn wsX4_cipherLetter (wsV RX4 44 RX5 yX5_letterAt wsX5_letterAt) := goodIn_app (goodIn_of _ (by decide +kernel)) ggX4_cipherLetter_X5_letterAt
theorem dX4_cipherLetter_0 : decode cX4_cipherLetter 0 = .ok (.aload_n 0, 1) := by decide +kernel
theorem dX4_cipherLetter_1 : decode cX4_cipherLetter 1 = .ok (.invokevirtual 41, 3) := by decide +kernel
theorem dX4_cipherLetter_4 : decode cX4_cipherLetter 4 = .ok (.istore_n 2, 1) := by decide +kernel
theorem dX4_cipherLetter_5 : decode cX4_cipherLetter 5 = .ok (.iload_n 1, 1) := by decide +kernel
theorem dX4_cipherLetter_6 : decode cX4_cipherLetter 6 = .ok (.iload_n 2, 1) := by decide +kernel
theorem dX4_cipherLetter_7 : decode cX4_cipherLetter 7 = .ok (.if_icmp .ne 11, 3) := by decide +kernel
theorem dX4_cipherLetter_10 : decode cX4_cipherLetter 10 = .ok (.aload_n 0, 1) := by decide +kernel
theorem dX4_cipherLetter_11 : decode cX4_cipherLetter 11 = .ok (.getfield 29, 3) := by decide +kernel
theorem dX4_cipherLetter_14 : decode cX4_cipherLetter 14 = .ok (.bipush 27, 2) := by decide +kernel
theorem dX4_cipherLetter_16 : decode cX4_cipherLetter 16 = .ok (.irem, 1) := by decide +kernel
theorem dX4_cipherLetter_17 : decode cX4_cipherLetter 17 = .ok (.ireturn, 1) := by decide +kernel
theorem dX4_cipherLetter_18 : decode cX4_cipherLetter 18 = .ok (.iload_n 1, 1) := by decide +kernel
theorem dX4_cipherLetter_19 : decode cX4_cipherLetter 19 = .ok (.iload_n 2, 1) := by decide +kernel
theorem dX4_cipherLetter_20 : decode cX4_cipherLetter 20 = .ok (.if_icmp .ge 7, 3) := by decide +kernel
theorem dX4_cipherLetter_23 : decode cX4_cipherLetter 23 = .ok (.iload_n 1, 1) := by decide +kernel
theorem dX4_cipherLetter_24 : decode cX4_cipherLetter 24 = .ok (.goto 6, 3) := by decide +kernel
theorem dX4_cipherLetter_27 : decode cX4_cipherLetter 27 = .ok (.iload_n 1, 1) := by decide +kernel
theorem dX4_cipherLetter_28 : decode cX4_cipherLetter 28 = .ok (.iconst 1, 1) := by decide +kernel
theorem dX4_cipherLetter_29 : decode cX4_cipherLetter 29 = .ok (.isub, 1) := by decide +kernel
theorem dX4_cipherLetter_30 : decode cX4_cipherLetter 30 = .ok (.istore_n 3, 1) := by decide +kernel
theorem dX4_cipherLetter_31 : decode cX4_cipherLetter 31 = .ok (.aload_n 0, 1) := by decide +kernel
theorem dX4_cipherLetter_32 : decode cX4_cipherLetter 32 = .ok (.getfield 29, 3) := by decide +kernel
theorem dX4_cipherLetter_35 : decode cX4_cipherLetter 35 = .ok (.iconst 2, 1) := by decide +kernel
theorem dX4_cipherLetter_36 : decode cX4_cipherLetter 36 = .ok (.irem, 1) := by decide +kernel
theorem dX4_cipherLetter_37 : decode cX4_cipherLetter 37 = .ok (.iconst 1, 1) := by decide +kernel
theorem dX4_cipherLetter_38 : decode cX4_cipherLetter 38 = .ok (.if_icmp .ne 17, 3) := by decide +kernel
theorem dX4_cipherLetter_41 : decode cX4_cipherLetter 41 = .ok (.aload_n 0, 1) := by decide +kernel
theorem dX4_cipherLetter_42 : decode cX4_cipherLetter 42 = .ok (.getfield 19, 3) := by decide +kernel
theorem dX4_cipherLetter_45 : decode cX4_cipherLetter 45 = .ok (.invokevirtual 36, 3) := by decide +kernel
theorem dX4_cipherLetter_48 : decode cX4_cipherLetter 48 = .ok (.iconst 1, 1) := by decide +kernel
theorem dX4_cipherLetter_49 : decode cX4_cipherLetter 49 = .ok (.isub, 1) := by decide +kernel
theorem dX4_cipherLetter_50 : decode cX4_cipherLetter 50 = .ok (.iload_n 3, 1) := by decide +kernel
theorem dX4_cipherLetter_51 : decode cX4_cipherLetter 51 = .ok (.isub, 1) := by decide +kernel
theorem dX4_cipherLetter_52 : decode cX4_cipherLetter 52 = .ok (.goto 4, 3) := by decide +kernel
theorem dX4_cipherLetter_55 : decode cX4_cipherLetter 55 = .ok (.iload_n 3, 1) := by decide +kernel
theorem dX4_cipherLetter_56 : decode cX4_cipherLetter 56 = .ok (.istore 4, 2) := by decide +kernel
theorem dX4_cipherLetter_58 : decode cX4_cipherLetter 58 = .ok (.aload_n 0, 1) := by decide +kernel
theorem dX4_cipherLetter_59 : decode cX4_cipherLetter 59 = .ok (.getfield 19, 3) := by decide +kernel
theorem dX4_cipherLetter_62 : decode cX4_cipherLetter 62 = .ok (.iload 4, 2) := by decide +kernel
theorem dX4_cipherLetter_64 : decode cX4_cipherLetter 64 = .ok (.invokevirtual 44, 3) := by decide +kernel
theorem dX4_cipherLetter_67 : decode cX4_cipherLetter 67 = .ok (.aload_n 0, 1) := by decide +kernel
theorem dX4_cipherLetter_68 : decode cX4_cipherLetter 68 = .ok (.getfield 29, 3) := by decide +kernel
theorem dX4_cipherLetter_71 : decode cX4_cipherLetter 71 = .ok (.iadd, 1) := by decide +kernel
theorem dX4_cipherLetter_72 : decode cX4_cipherLetter 72 = .ok (.bipush 27, 2) := by decide +kernel
theorem dX4_cipherLetter_74 : decode cX4_cipherLetter 74 = .ok (.irem, 1) := by decide +kernel
theorem dX4_cipherLetter_75 : decode cX4_cipherLetter 75 = .ok (.ireturn, 1) := by decide +kernel
set_option maxRecDepth 20000 in
theorem ggX4_insertedAt_X4_cipherCount : GoodIn wsX4_insertedAt wsX4_cipherCount := goodIn_r _ [6, 7, 8, 9, 10, 11, 12, 13, 14, 15, 16, 17, 18, 19] (by decide +kernel) (by decide +kernel)
set_option maxRecDepth 20000 in
theorem gX4_insertedAt_X4_cipherCount : GoodIn wsX4_insertedAt (wsV RX4 48 RX4 yX4_cipherCount wsX4_cipherCount) := goodIn_app (goodIn_of _ (by decide +kernel)) ggX4_insertedAt_X4_cipherCount
theorem dX4_insertedAt_0 : decode cX4_insertedAt 0 = .ok (.aload_n 0, 1) := by decide +kernel
theorem dX4_insertedAt_1 : decode cX4_insertedAt 1 = .ok (.invokevirtual 48, 3) := by decide +kernel
theorem dX4_insertedAt_4 : decode cX4_insertedAt 4 = .ok (.istore_n 1, 1) := by decide +kernel
theorem dX4_insertedAt_5 : decode cX4_insertedAt 5 = .ok (.iload_n 1, 1) := by decide +kernel
theorem dX4_insertedAt_6 : decode cX4_insertedAt 6 = .ok (.ifCond .le 12, 3) := by decide +kernel
theorem dX4_insertedAt_9 : decode cX4_insertedAt 9 = .ok (.aload_n 0, 1) := by decide +kernel
theorem dX4_insertedAt_10 : decode cX4_insertedAt 10 = .ok (.getfield 29, 3) := by decide +kernel
theorem dX4_insertedAt_13 : decode cX4_insertedAt 13 = .ok (.iload_n 1, 1) := by decide +kernel
theorem dX4_insertedAt_14 : decode cX4_insertedAt 14 = .ok (.irem, 1) := by decide +kernel
theorem dX4_insertedAt_15 : decode cX4_insertedAt 15 = .ok (.goto 4, 3) := by decide +kernel
theorem dX4_insertedAt_18 : decode cX4_insertedAt 18 = .ok (.iconst 0, 1) := by decide +kernel
theorem dX4_insertedAt_19 : decode cX4_insertedAt 19 = .ok (.ireturn, 1) := by decide +kernel
theorem dX5_init_0 : decode cX5_init 0 = .ok (.aload_n 0, 1) := by decide +kernel
theorem dX5_init_1 : decode cX5_init 1 = .ok (.invokespecial 3, 3) := by decide +kernel
theorem dX5_init_4 : decode cX5_init 4 = .ok (.aload_n 0, 1) := by decide +kernel
theorem dX5_init_5 : decode cX5_init 5 = .ok (.iconst 5, 1) := by decide +kernel
theorem dX5_init_6 : decode cX5_init 6 = .ok (.newarray .int, 2) := by decide +kernel
