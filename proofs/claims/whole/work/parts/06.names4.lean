theorem dX9_laySums_75 : decode cX9_laySums 75 = .ok (.iaload, 1) := by decide +kernel
theorem dX9_laySums_76 : decode cX9_laySums 76 = .ok (.iconst (-1), 1) := by decide +kernel
theorem dX9_laySums_77 : decode cX9_laySums 77 = .ok (.if_icmp .eq 14, 3) := by decide +kernel
theorem dX9_laySums_80 : decode cX9_laySums 80 = .ok (.iload 5, 2) := by decide +kernel
theorem dX9_laySums_82 : decode cX9_laySums 82 = .ok (.aload_n 0, 1) := by decide +kernel
theorem dX9_laySums_83 : decode cX9_laySums 83 = .ok (.getfield 74, 3) := by decide +kernel
theorem dX9_laySums_86 : decode cX9_laySums 86 = .ok (.iload_n 3, 1) := by decide +kernel
theorem dX9_laySums_87 : decode cX9_laySums 87 = .ok (.iaload, 1) := by decide +kernel
theorem dX9_laySums_88 : decode cX9_laySums 88 = .ok (.if_icmp .ge 13, 3) := by decide +kernel
theorem dX9_laySums_91 : decode cX9_laySums 91 = .ok (.aload_n 0, 1) := by decide +kernel
theorem dX9_laySums_92 : decode cX9_laySums 92 = .ok (.getfield 74, 3) := by decide +kernel
theorem dX9_laySums_95 : decode cX9_laySums 95 = .ok (.iload_n 3, 1) := by decide +kernel
theorem dX9_laySums_96 : decode cX9_laySums 96 = .ok (.iload 5, 2) := by decide +kernel
theorem dX9_laySums_98 : decode cX9_laySums 98 = .ok (.iastore, 1) := by decide +kernel
theorem dX9_laySums_99 : decode cX9_laySums 99 = .ok (.iconst 1, 1) := by decide +kernel
theorem dX9_laySums_100 : decode cX9_laySums 100 = .ok (.istore_n 2, 1) := by decide +kernel
theorem dX9_laySums_101 : decode cX9_laySums 101 = .ok (.iinc 4 1, 3) := by decide +kernel
theorem dX9_laySums_104 : decode cX9_laySums 104 = .ok (.goto (-55), 3) := by decide +kernel
theorem dX9_laySums_107 : decode cX9_laySums 107 = .ok (.iinc 3 1, 3) := by decide +kernel
theorem dX9_laySums_110 : decode cX9_laySums 110 = .ok (.goto (-70), 3) := by decide +kernel
theorem dX9_laySums_113 : decode cX9_laySums 113 = .ok (.goto (-81), 3) := by decide +kernel
theorem dX9_laySums_116 : decode cX9_laySums 116 = .ok (.return_, 1) := by decide +kernel
set_option maxRecDepth 20000 in
theorem ggX9_way_X9_isPlace : GoodIn wsX9_way wsX9_isPlace := goodIn_r _ [6, 7, 8, 5, 9] (by decide +kernel) (by decide +kernel)
set_option maxRecDepth 20000 in
theorem gX9_way_X9_isPlace : GoodIn wsX9_way (va_wsS RX9 111 yX9_isPlace wsX9_isPlace) := goodIn_app (goodIn_of _ (by decide +kernel)) ggX9_way_X9_isPlace
set_option maxRecDepth 20000 in
theorem ggX9_way_X9_laySums : GoodIn wsX9_way wsX9_laySums := goodIn_r _ [13, 2, 14, 15, 16, 5, 17, 18, 19, 20, 21, 7, 8, 9, 22, 23, 24, 25, 26, 27, 28, 29, 30, 31, 32, 33, 34, 35, 36, 37, 38, 39, 40, 41, 42, 43, 44, 45, 46, 47, 48, 49, 50, 51, 52, 53, 54, 55, 56, 57, 58] (by decide +kernel) (by decide +kernel)
set_option maxRecDepth 20000 in
theorem gX9_way_X9_laySums : GoodIn wsX9_way (wsV RX9 146 RX9 yX9_laySums wsX9_laySums) := goodIn_app (goodIn_of _ (by decide +kernel)) ggX9_way_X9_laySums
theorem dX9_way_0 : decode cX9_way 0 = .ok (.aload_n 0, 1) := by decide +kernel
theorem dX9_way_1 : decode cX9_way 1 = .ok (.iload_n 1, 1) := by decide +kernel
theorem dX9_way_2 : decode cX9_way 2 = .ok (.invokestatic 111, 3) := by decide +kernel
theorem dX9_way_5 : decode cX9_way 5 = .ok (.ifCond .eq 14, 3) := by decide +kernel
theorem dX9_way_8 : decode cX9_way 8 = .ok (.iload_n 2, 1) := by decide +kernel
theorem dX9_way_9 : decode cX9_way 9 = .ok (.invokestatic 111, 3) := by decide +kernel
theorem dX9_way_12 : decode cX9_way 12 = .ok (.ifCond .eq 7, 3) := by decide +kernel
theorem dX9_way_15 : decode cX9_way 15 = .ok (.iconst 0, 1) := by decide +kernel
theorem dX9_way_16 : decode cX9_way 16 = .ok (.goto 4, 3) := by decide +kernel
theorem dX9_way_19 : decode cX9_way 19 = .ok (.iconst 1, 1) := by decide +kernel
theorem dX9_way_20 : decode cX9_way 20 = .ok (.putfield 81, 3) := by decide +kernel
theorem dX9_way_23 : decode cX9_way 23 = .ok (.aload_n 0, 1) := by decide +kernel
theorem dX9_way_24 : decode cX9_way 24 = .ok (.getfield 81, 3) := by decide +kernel
theorem dX9_way_27 : decode cX9_way 27 = .ok (.ifCond .le 5, 3) := by decide +kernel
theorem dX9_way_30 : decode cX9_way 30 = .ok (.iconst 0, 1) := by decide +kernel
theorem dX9_way_31 : decode cX9_way 31 = .ok (.ireturn, 1) := by decide +kernel
theorem dX9_way_32 : decode cX9_way 32 = .ok (.aload_n 0, 1) := by decide +kernel
theorem dX9_way_33 : decode cX9_way 33 = .ok (.iload_n 2, 1) := by decide +kernel
theorem dX9_way_34 : decode cX9_way 34 = .ok (.invokevirtual 146, 3) := by decide +kernel
theorem dX9_way_37 : decode cX9_way 37 = .ok (.aload_n 0, 1) := by decide +kernel
theorem dX9_way_38 : decode cX9_way 38 = .ok (.getfield 74, 3) := by decide +kernel
theorem dX9_way_41 : decode cX9_way 41 = .ok (.iload_n 1, 1) := by decide +kernel
theorem dX9_way_42 : decode cX9_way 42 = .ok (.iaload, 1) := by decide +kernel
theorem dX9_way_43 : decode cX9_way 43 = .ok (.ireturn, 1) := by decide +kernel
set_option maxRecDepth 20000 in
theorem ggX9_wayByRounds_X9_way : GoodIn wsX9_wayByRounds wsX9_way := goodIn_r _ [5, 6, 7, 8, 9, 4, 10, 11, 12, 13, 14, 15, 16, 17, 18, 19, 20, 21, 22, 23, 24, 25, 26, 27, 28, 29, 30, 31, 32, 33, 34, 35, 36, 37, 38, 39, 40, 41, 42, 43, 44, 45, 46, 47, 48, 49, 50, 51, 52, 53, 54, 55, 56, 57, 58, 59, 60, 61, 62] (by decide +kernel) (by decide +kernel)
set_option maxRecDepth 20000 in
theorem gX9_wayByRounds_X9_way : GoodIn wsX9_wayByRounds (wsV RX9 149 RX9 yX9_way wsX9_way) := goodIn_app (goodIn_of _ (by decide +kernel)) ggX9_wayByRounds_X9_way
theorem dX9_wayByRounds_0 : decode cX9_wayByRounds 0 = .ok (.aload_n 0, 1) := by decide +kernel
theorem dX9_wayByRounds_1 : decode cX9_wayByRounds 1 = .ok (.iload_n 1, 1) := by decide +kernel
theorem dX9_wayByRounds_2 : decode cX9_wayByRounds 2 = .ok (.iload_n 2, 1) := by decide +kernel
theorem dX9_wayByRounds_3 : decode cX9_wayByRounds 3 = .ok (.invokevirtual 149, 3) := by decide +kernel
theorem dX9_wayByRounds_6 : decode cX9_wayByRounds 6 = .ok (.ireturn, 1) := by decide +kernel
set_option maxRecDepth 20000 in
theorem ggX9_begin_X9_laySums : GoodIn wsX9_begin wsX9_laySums := goodIn_r _ [10, 11, 12, 13, 14, 9, 15, 16, 17, 18, 19, 20, 21, 22, 23, 24, 25, 26, 27, 28, 29, 30, 31, 32, 33, 34, 35, 36, 37, 38, 39, 40, 41, 42, 43, 44, 45, 46, 47, 48, 49, 50, 51, 52, 53, 54, 55, 56, 57, 58, 59] (by decide +kernel) (by decide +kernel)
set_option maxRecDepth 20000 in
theorem gX9_begin_X9_laySums : GoodIn wsX9_begin (wsV RX9 146 RX9 yX9_laySums wsX9_laySums) := goodIn_app (goodIn_of _ (by decide +kernel)) ggX9_begin_X9_laySums
set_option maxRecDepth 20000 in
theorem ggX9_begin_X9_sumBy : GoodIn wsX9_begin wsX9_sumBy := goodIn_r _ [15, 16, 11, 17, 18, 9, 19, 20, 21, 22, 23, 24, 25, 26, 27, 28, 29, 30, 31, 32, 33, 34, 35, 36, 37, 38, 39, 40, 41, 42, 43, 44, 45, 46, 47, 48, 49, 50, 51, 52, 53, 54, 55, 56, 57, 58, 59] (by decide +kernel) (by decide +kernel)
set_option maxRecDepth 20000 in
theorem gX9_begin_X9_sumBy : GoodIn wsX9_begin (wsV RX9 143 RX9 yX9_sumBy wsX9_sumBy) := goodIn_app (goodIn_of _ (by decide +kernel)) ggX9_begin_X9_sumBy
set_option maxRecDepth 20000 in
theorem ggX9_begin_X9_neighbour : GoodIn wsX9_begin wsX9_neighbour := goodIn_r _ [19, 20, 21, 9, 22] (by decide +kernel) (by decide +kernel)
set_option maxRecDepth 20000 in
theorem gX9_begin_X9_neighbour : GoodIn wsX9_begin (va_wsS RX9 137 yX9_neighbour wsX9_neighbour) := goodIn_app (goodIn_of _ (by decide +kernel)) ggX9_begin_X9_neighbour
set_option maxRecDepth 20000 in
theorem ggX9_begin_X9_cost : GoodIn wsX9_begin wsX9_cost := goodIn_r _ [26, 27, 28, 29, 9, 30, 31, 32, 33, 34, 35, 36, 37, 38, 39, 40, 41, 42, 43, 44, 45, 46, 47, 48, 49, 50, 51, 52, 53, 54, 55, 56, 57, 58, 59] (by decide +kernel) (by decide +kernel)
set_option maxRecDepth 20000 in
theorem gX9_begin_X9_cost : GoodIn wsX9_begin (wsV RX9 140 RX9 yX9_cost wsX9_cost) := goodIn_app (goodIn_of _ (by decide +kernel)) ggX9_begin_X9_cost
theorem dX9_begin_0 : decode cX9_begin 0 = .ok (.aload_n 0, 1) := by decide +kernel
theorem dX9_begin_1 : decode cX9_begin 1 = .ok (.getfield 47, 3) := by decide +kernel
theorem dX9_begin_4 : decode cX9_begin 4 = .ok (.iload_n 1, 1) := by decide +kernel
theorem dX9_begin_5 : decode cX9_begin 5 = .ok (.iaload, 1) := by decide +kernel
theorem dX9_begin_6 : decode cX9_begin 6 = .ok (.istore_n 2, 1) := by decide +kernel
theorem dX9_begin_7 : decode cX9_begin 7 = .ok (.iconst (-1), 1) := by decide +kernel
theorem dX9_begin_8 : decode cX9_begin 8 = .ok (.istore_n 3, 1) := by decide +kernel
theorem dX9_begin_9 : decode cX9_begin 9 = .ok (.iconst (-1), 1) := by decide +kernel
theorem dX9_begin_10 : decode cX9_begin 10 = .ok (.istore 4, 2) := by decide +kernel
theorem dX9_begin_12 : decode cX9_begin 12 = .ok (.iload_n 2, 1) := by decide +kernel
theorem dX9_begin_13 : decode cX9_begin 13 = .ok (.aload_n 0, 1) := by decide +kernel
theorem dX9_begin_14 : decode cX9_begin 14 = .ok (.getfield 50, 3) := by decide +kernel
theorem dX9_begin_17 : decode cX9_begin 17 = .ok (.iload_n 1, 1) := by decide +kernel
theorem dX9_begin_18 : decode cX9_begin 18 = .ok (.iaload, 1) := by decide +kernel
theorem dX9_begin_19 : decode cX9_begin 19 = .ok (.if_icmp .eq 67, 3) := by decide +kernel
theorem dX9_begin_22 : decode cX9_begin 22 = .ok (.aload_n 0, 1) := by decide +kernel
theorem dX9_begin_23 : decode cX9_begin 23 = .ok (.aload_n 0, 1) := by decide +kernel
theorem dX9_begin_24 : decode cX9_begin 24 = .ok (.getfield 50, 3) := by decide +kernel
theorem dX9_begin_27 : decode cX9_begin 27 = .ok (.iload_n 1, 1) := by decide +kernel
theorem dX9_begin_28 : decode cX9_begin 28 = .ok (.iaload, 1) := by decide +kernel
theorem dX9_begin_29 : decode cX9_begin 29 = .ok (.invokevirtual 146, 3) := by decide +kernel
theorem dX9_begin_32 : decode cX9_begin 32 = .ok (.iconst 0, 1) := by decide +kernel
theorem dX9_begin_33 : decode cX9_begin 33 = .ok (.istore 5, 2) := by decide +kernel
theorem dX9_begin_35 : decode cX9_begin 35 = .ok (.iload 5, 2) := by decide +kernel
theorem dX9_begin_37 : decode cX9_begin 37 = .ok (.iconst 4, 1) := by decide +kernel
theorem dX9_begin_38 : decode cX9_begin 38 = .ok (.if_icmp .ge 48, 3) := by decide +kernel
theorem dX9_begin_41 : decode cX9_begin 41 = .ok (.aload_n 0, 1) := by decide +kernel
theorem dX9_begin_42 : decode cX9_begin 42 = .ok (.iload_n 2, 1) := by decide +kernel
theorem dX9_begin_43 : decode cX9_begin 43 = .ok (.iload 5, 2) := by decide +kernel
theorem dX9_begin_45 : decode cX9_begin 45 = .ok (.invokevirtual 143, 3) := by decide +kernel
theorem dX9_begin_48 : decode cX9_begin 48 = .ok (.istore 6, 2) := by decide +kernel
theorem dX9_begin_50 : decode cX9_begin 50 = .ok (.iload 6, 2) := by decide +kernel
theorem dX9_begin_52 : decode cX9_begin 52 = .ok (.iconst (-1), 1) := by decide +kernel
theorem dX9_begin_53 : decode cX9_begin 53 = .ok (.if_icmp .eq 27, 3) := by decide +kernel
theorem dX9_begin_56 : decode cX9_begin 56 = .ok (.iload 4, 2) := by decide +kernel
theorem dX9_begin_58 : decode cX9_begin 58 = .ok (.iconst (-1), 1) := by decide +kernel
theorem dX9_begin_59 : decode cX9_begin 59 = .ok (.if_icmp .eq 10, 3) := by decide +kernel
theorem dX9_begin_62 : decode cX9_begin 62 = .ok (.iload 6, 2) := by decide +kernel
theorem dX9_begin_64 : decode cX9_begin 64 = .ok (.iload 4, 2) := by decide +kernel
theorem dX9_begin_66 : decode cX9_begin 66 = .ok (.if_icmp .ge 14, 3) := by decide +kernel
theorem dX9_begin_69 : decode cX9_begin 69 = .ok (.iload 6, 2) := by decide +kernel
theorem dX9_begin_71 : decode cX9_begin 71 = .ok (.istore 4, 2) := by decide +kernel
theorem dX9_begin_73 : decode cX9_begin 73 = .ok (.iload_n 2, 1) := by decide +kernel
theorem dX9_begin_74 : decode cX9_begin 74 = .ok (.iload 5, 2) := by decide +kernel
theorem dX9_begin_76 : decode cX9_begin 76 = .ok (.invokestatic 137, 3) := by decide +kernel
theorem dX9_begin_79 : decode cX9_begin 79 = .ok (.istore_n 3, 1) := by decide +kernel
theorem dX9_begin_80 : decode cX9_begin 80 = .ok (.iinc 5 1, 3) := by decide +kernel
theorem dX9_begin_83 : decode cX9_begin 83 = .ok (.goto (-48), 3) := by decide +kernel
theorem dX9_begin_86 : decode cX9_begin 86 = .ok (.iload_n 3, 1) := by decide +kernel
theorem dX9_begin_87 : decode cX9_begin 87 = .ok (.iconst (-1), 1) := by decide +kernel
theorem dX9_begin_88 : decode cX9_begin 88 = .ok (.if_icmp .ne 11, 3) := by decide +kernel
theorem dX9_begin_91 : decode cX9_begin 91 = .ok (.aload_n 0, 1) := by decide +kernel
theorem dX9_begin_92 : decode cX9_begin 92 = .ok (.getfield 50, 3) := by decide +kernel
theorem dX9_begin_95 : decode cX9_begin 95 = .ok (.iload_n 1, 1) := by decide +kernel
theorem dX9_begin_96 : decode cX9_begin 96 = .ok (.iconst (-1), 1) := by decide +kernel
theorem dX9_begin_97 : decode cX9_begin 97 = .ok (.iastore, 1) := by decide +kernel
theorem dX9_begin_98 : decode cX9_begin 98 = .ok (.return_, 1) := by decide +kernel
theorem dX9_begin_99 : decode cX9_begin 99 = .ok (.aload_n 0, 1) := by decide +kernel
theorem dX9_begin_100 : decode cX9_begin 100 = .ok (.getfield 53, 3) := by decide +kernel
theorem dX9_begin_103 : decode cX9_begin 103 = .ok (.iload_n 1, 1) := by decide +kernel
theorem dX9_begin_104 : decode cX9_begin 104 = .ok (.iload_n 3, 1) := by decide +kernel
theorem dX9_begin_105 : decode cX9_begin 105 = .ok (.iastore, 1) := by decide +kernel
theorem dX9_begin_106 : decode cX9_begin 106 = .ok (.aload_n 0, 1) := by decide +kernel
theorem dX9_begin_107 : decode cX9_begin 107 = .ok (.getfield 56, 3) := by decide +kernel
theorem dX9_begin_110 : decode cX9_begin 110 = .ok (.iload_n 1, 1) := by decide +kernel
theorem dX9_begin_111 : decode cX9_begin 111 = .ok (.aload_n 0, 1) := by decide +kernel
theorem dX9_begin_112 : decode cX9_begin 112 = .ok (.iload_n 2, 1) := by decide +kernel
theorem dX9_begin_113 : decode cX9_begin 113 = .ok (.iload_n 3, 1) := by decide +kernel
theorem dX9_begin_114 : decode cX9_begin 114 = .ok (.invokevirtual 140, 3) := by decide +kernel
theorem dX9_begin_117 : decode cX9_begin 117 = .ok (.aload_n 0, 1) := by decide +kernel
theorem dX9_begin_118 : decode cX9_begin 118 = .ok (.getfield 44, 3) := by decide +kernel
theorem dX9_begin_121 : decode cX9_begin 121 = .ok (.iload_n 1, 1) := by decide +kernel
theorem dX9_begin_122 : decode cX9_begin 122 = .ok (.iaload, 1) := by decide +kernel
theorem dX9_begin_123 : decode cX9_begin 123 = .ok (.imul, 1) := by decide +kernel
theorem dX9_begin_124 : decode cX9_begin 124 = .ok (.iastore, 1) := by decide +kernel
theorem dX9_begin_125 : decode cX9_begin 125 = .ok (.return_, 1) := by decide +kernel
set_option maxRecDepth 20000 in
theorem ggX9_comes_X9_begin : GoodIn wsX9_comes wsX9_begin := goodIn_r _ [9, 4, 2, 1, 3, 10, 11, 12, 13, 8, 14, 15, 16, 17, 18, 19, 20, 21, 22, 23, 24, 25, 26, 27, 28, 29, 30, 31, 32, 33, 34, 35, 36, 37, 38, 39, 40, 41, 42, 43, 44, 45, 46, 47, 48, 49, 50, 51, 52, 53, 54, 55, 56, 57, 58, 59, 60, 61, 62, 63] (by decide +kernel) (by decide +kernel)
set_option maxRecDepth 20000 in
theorem gX9_comes_X9_begin : GoodIn wsX9_comes (wsV RX9 152 RX9 yX9_begin wsX9_begin) := goodIn_app (goodIn_of _ (by decide +kernel)) ggX9_comes_X9_begin
theorem dX9_comes_0 : decode cX9_comes 0 = .ok (.aload_n 0, 1) := by decide +kernel
theorem dX9_comes_1 : decode cX9_comes 1 = .ok (.getfield 53, 3) := by decide +kernel
theorem dX9_comes_4 : decode cX9_comes 4 = .ok (.iload_n 1, 1) := by decide +kernel
theorem dX9_comes_5 : decode cX9_comes 5 = .ok (.iaload, 1) := by decide +kernel
theorem dX9_comes_6 : decode cX9_comes 6 = .ok (.iconst (-1), 1) := by decide +kernel
theorem dX9_comes_7 : decode cX9_comes 7 = .ok (.if_icmp .ne 18, 3) := by decide +kernel
theorem dX9_comes_10 : decode cX9_comes 10 = .ok (.aload_n 0, 1) := by decide +kernel
theorem dX9_comes_11 : decode cX9_comes 11 = .ok (.getfield 50, 3) := by decide +kernel
theorem dX9_comes_14 : decode cX9_comes 14 = .ok (.iload_n 1, 1) := by decide +kernel
theorem dX9_comes_15 : decode cX9_comes 15 = .ok (.iaload, 1) := by decide +kernel
theorem dX9_comes_16 : decode cX9_comes 16 = .ok (.iconst (-1), 1) := by decide +kernel
theorem dX9_comes_17 : decode cX9_comes 17 = .ok (.if_icmp .eq 8, 3) := by decide +kernel
theorem dX9_comes_20 : decode cX9_comes 20 = .ok (.aload_n 0, 1) := by decide +kernel
theorem dX9_comes_21 : decode cX9_comes 21 = .ok (.iload_n 1, 1) := by decide +kernel
theorem dX9_comes_22 : decode cX9_comes 22 = .ok (.invokevirtual 152, 3) := by decide +kernel
theorem dX9_comes_25 : decode cX9_comes 25 = .ok (.aload_n 0, 1) := by decide +kernel
theorem dX9_comes_26 : decode cX9_comes 26 = .ok (.getfield 53, 3) := by decide +kernel
theorem dX9_comes_29 : decode cX9_comes 29 = .ok (.iload_n 1, 1) := by decide +kernel
theorem dX9_comes_30 : decode cX9_comes 30 = .ok (.iaload, 1) := by decide +kernel
theorem dX9_comes_31 : decode cX9_comes 31 = .ok (.iconst (-1), 1) := by decide +kernel
theorem dX9_comes_32 : decode cX9_comes 32 = .ok (.if_icmp .ne 5, 3) := by decide +kernel
theorem dX9_comes_35 : decode cX9_comes 35 = .ok (.iconst 0, 1) := by decide +kernel
theorem dX9_comes_36 : decode cX9_comes 36 = .ok (.ireturn, 1) := by decide +kernel
theorem dX9_comes_37 : decode cX9_comes 37 = .ok (.aload_n 0, 1) := by decide +kernel
theorem dX9_comes_38 : decode cX9_comes 38 = .ok (.getfield 56, 3) := by decide +kernel
theorem dX9_comes_41 : decode cX9_comes 41 = .ok (.iload_n 1, 1) := by decide +kernel
theorem dX9_comes_42 : decode cX9_comes 42 = .ok (.dup2, 1) := by decide +kernel
theorem dX9_comes_43 : decode cX9_comes 43 = .ok (.iaload, 1) := by decide +kernel
theorem dX9_comes_44 : decode cX9_comes 44 = .ok (.iconst 1, 1) := by decide +kernel
theorem dX9_comes_45 : decode cX9_comes 45 = .ok (.isub, 1) := by decide +kernel
theorem dX9_comes_46 : decode cX9_comes 46 = .ok (.iastore, 1) := by decide +kernel
theorem dX9_comes_47 : decode cX9_comes 47 = .ok (.aload_n 0, 1) := by decide +kernel
theorem dX9_comes_48 : decode cX9_comes 48 = .ok (.getfield 56, 3) := by decide +kernel
theorem dX9_comes_51 : decode cX9_comes 51 = .ok (.iload_n 1, 1) := by decide +kernel
theorem dX9_comes_52 : decode cX9_comes 52 = .ok (.iaload, 1) := by decide +kernel
theorem dX9_comes_53 : decode cX9_comes 53 = .ok (.ifCond .le 5, 3) := by decide +kernel
theorem dX9_comes_56 : decode cX9_comes 56 = .ok (.iconst 0, 1) := by decide +kernel
theorem dX9_comes_57 : decode cX9_comes 57 = .ok (.ireturn, 1) := by decide +kernel
theorem dX9_comes_58 : decode cX9_comes 58 = .ok (.aload_n 0, 1) := by decide +kernel
theorem dX9_comes_59 : decode cX9_comes 59 = .ok (.getfield 47, 3) := by decide +kernel
theorem dX9_comes_62 : decode cX9_comes 62 = .ok (.iload_n 1, 1) := by decide +kernel
theorem dX9_comes_63 : decode cX9_comes 63 = .ok (.aload_n 0, 1) := by decide +kernel
theorem dX9_comes_64 : decode cX9_comes 64 = .ok (.getfield 53, 3) := by decide +kernel
theorem dX9_comes_67 : decode cX9_comes 67 = .ok (.iload_n 1, 1) := by decide +kernel
theorem dX9_comes_68 : decode cX9_comes 68 = .ok (.iaload, 1) := by decide +kernel
theorem dX9_comes_69 : decode cX9_comes 69 = .ok (.iastore, 1) := by decide +kernel
theorem dX9_comes_70 : decode cX9_comes 70 = .ok (.aload_n 0, 1) := by decide +kernel
theorem dX9_comes_71 : decode cX9_comes 71 = .ok (.getfield 53, 3) := by decide +kernel
theorem dX9_comes_74 : decode cX9_comes 74 = .ok (.iload_n 1, 1) := by decide +kernel
theorem dX9_comes_75 : decode cX9_comes 75 = .ok (.iconst (-1), 1) := by decide +kernel
theorem dX9_comes_76 : decode cX9_comes 76 = .ok (.iastore, 1) := by decide +kernel
theorem dX9_comes_77 : decode cX9_comes 77 = .ok (.aload_n 0, 1) := by decide +kernel
theorem dX9_comes_78 : decode cX9_comes 78 = .ok (.getfield 47, 3) := by decide +kernel
theorem dX9_comes_81 : decode cX9_comes 81 = .ok (.iload_n 1, 1) := by decide +kernel
theorem dX9_comes_82 : decode cX9_comes 82 = .ok (.iaload, 1) := by decide +kernel
theorem dX9_comes_83 : decode cX9_comes 83 = .ok (.aload_n 0, 1) := by decide +kernel
theorem dX9_comes_84 : decode cX9_comes 84 = .ok (.getfield 50, 3) := by decide +kernel
theorem dX9_comes_87 : decode cX9_comes 87 = .ok (.iload_n 1, 1) := by decide +kernel
theorem dX9_comes_88 : decode cX9_comes 88 = .ok (.iaload, 1) := by decide +kernel
theorem dX9_comes_89 : decode cX9_comes 89 = .ok (.if_icmp .ne 7, 3) := by decide +kernel
theorem dX9_comes_92 : decode cX9_comes 92 = .ok (.iconst 1, 1) := by decide +kernel
theorem dX9_comes_93 : decode cX9_comes 93 = .ok (.goto 4, 3) := by decide +kernel
theorem dX9_comes_96 : decode cX9_comes 96 = .ok (.iconst 0, 1) := by decide +kernel
theorem dX9_comes_97 : decode cX9_comes 97 = .ok (.istore_n 2, 1) := by decide +kernel
theorem dX9_comes_98 : decode cX9_comes 98 = .ok (.aload_n 0, 1) := by decide +kernel
theorem dX9_comes_99 : decode cX9_comes 99 = .ok (.getfield 50, 3) := by decide +kernel
theorem dX9_comes_102 : decode cX9_comes 102 = .ok (.iload_n 1, 1) := by decide +kernel
theorem dX9_comes_103 : decode cX9_comes 103 = .ok (.iload_n 2, 1) := by decide +kernel
theorem dX9_comes_104 : decode cX9_comes 104 = .ok (.ifCond .eq 7, 3) := by decide +kernel
theorem dX9_comes_107 : decode cX9_comes 107 = .ok (.iconst (-1), 1) := by decide +kernel
theorem dX9_comes_108 : decode cX9_comes 108 = .ok (.goto 9, 3) := by decide +kernel
theorem dX9_comes_111 : decode cX9_comes 111 = .ok (.aload_n 0, 1) := by decide +kernel
theorem dX9_comes_112 : decode cX9_comes 112 = .ok (.getfield 50, 3) := by decide +kernel
theorem dX9_comes_115 : decode cX9_comes 115 = .ok (.iload_n 1, 1) := by decide +kernel
theorem dX9_comes_116 : decode cX9_comes 116 = .ok (.iaload, 1) := by decide +kernel
theorem dX9_comes_117 : decode cX9_comes 117 = .ok (.iastore, 1) := by decide +kernel
theorem dX9_comes_118 : decode cX9_comes 118 = .ok (.iload_n 2, 1) := by decide +kernel
theorem dX9_comes_119 : decode cX9_comes 119 = .ok (.ireturn, 1) := by decide +kernel
set_option maxRecDepth 20000 in
theorem ggX9_pass_X9_in : GoodIn wsX9_pass wsX9_in := goodIn_r _ [7] (by decide +kernel) (by decide +kernel)
set_option maxRecDepth 20000 in
theorem gX9_pass_X9_in : GoodIn wsX9_pass (va_wsS RX9 84 yX9_in wsX9_in) := goodIn_app (goodIn_of _ (by decide +kernel)) ggX9_pass_X9_in
set_option maxRecDepth 20000 in
theorem ggX9_pass_X9_comes : GoodIn wsX9_pass wsX9_comes := goodIn_r _ [11, 12, 13, 14, 15, 16, 17, 18, 6, 19, 20, 21, 22, 23, 24, 25, 26, 27, 28, 29, 30, 31, 32, 33, 4, 5, 7, 34, 35, 36, 37, 38, 39, 40, 41, 42, 43, 44, 45, 46, 47, 48, 49, 50, 51, 52, 53, 54, 55, 56, 57, 58, 59, 60, 61, 62, 63, 64, 65, 66, 67, 68, 69, 70] (by decide +kernel) (by decide +kernel)
set_option maxRecDepth 20000 in
theorem gX9_pass_X9_comes : GoodIn wsX9_pass (wsV RX9 155 RX9 yX9_comes wsX9_comes) := goodIn_app (goodIn_of _ (by decide +kernel)) ggX9_pass_X9_comes
theorem dX9_pass_0 : decode cX9_pass 0 = .ok (.aload_n 0, 1) := by decide +kernel
theorem dX9_pass_1 : decode cX9_pass 1 = .ok (.iload_n 1, 1) := by decide +kernel
theorem dX9_pass_2 : decode cX9_pass 2 = .ok (.iconst 1, 1) := by decide +kernel
theorem dX9_pass_3 : decode cX9_pass 3 = .ok (.bipush 60, 2) := by decide +kernel
theorem dX9_pass_5 : decode cX9_pass 5 = .ok (.invokestatic 84, 3) := by decide +kernel
theorem dX9_pass_8 : decode cX9_pass 8 = .ok (.ifCond .ne 7, 3) := by decide +kernel
theorem dX9_pass_11 : decode cX9_pass 11 = .ok (.iconst 1, 1) := by decide +kernel
theorem dX9_pass_12 : decode cX9_pass 12 = .ok (.goto 20, 3) := by decide +kernel
theorem dX9_pass_15 : decode cX9_pass 15 = .ok (.aload_n 0, 1) := by decide +kernel
theorem dX9_pass_16 : decode cX9_pass 16 = .ok (.getfield 77, 3) := by decide +kernel
theorem dX9_pass_19 : decode cX9_pass 19 = .ok (.iload_n 1, 1) := by decide +kernel
theorem dX9_pass_20 : decode cX9_pass 20 = .ok (.iadd, 1) := by decide +kernel
theorem dX9_pass_21 : decode cX9_pass 21 = .ok (.sipush 5000, 3) := by decide +kernel
theorem dX9_pass_24 : decode cX9_pass 24 = .ok (.if_icmp .le 7, 3) := by decide +kernel
theorem dX9_pass_27 : decode cX9_pass 27 = .ok (.iconst 2, 1) := by decide +kernel
theorem dX9_pass_28 : decode cX9_pass 28 = .ok (.goto 4, 3) := by decide +kernel
theorem dX9_pass_31 : decode cX9_pass 31 = .ok (.iconst 0, 1) := by decide +kernel
theorem dX9_pass_32 : decode cX9_pass 32 = .ok (.putfield 81, 3) := by decide +kernel
theorem dX9_pass_35 : decode cX9_pass 35 = .ok (.iconst 0, 1) := by decide +kernel
theorem dX9_pass_36 : decode cX9_pass 36 = .ok (.istore_n 2, 1) := by decide +kernel
theorem dX9_pass_37 : decode cX9_pass 37 = .ok (.iconst 0, 1) := by decide +kernel
theorem dX9_pass_38 : decode cX9_pass 38 = .ok (.istore_n 3, 1) := by decide +kernel
theorem dX9_pass_39 : decode cX9_pass 39 = .ok (.iload_n 3, 1) := by decide +kernel
theorem dX9_pass_40 : decode cX9_pass 40 = .ok (.iload_n 1, 1) := by decide +kernel
theorem dX9_pass_41 : decode cX9_pass 41 = .ok (.if_icmp .ge 61, 3) := by decide +kernel
theorem dX9_pass_44 : decode cX9_pass 44 = .ok (.aload_n 0, 1) := by decide +kernel
theorem dX9_pass_45 : decode cX9_pass 45 = .ok (.getfield 81, 3) := by decide +kernel
theorem dX9_pass_48 : decode cX9_pass 48 = .ok (.ifCond .ne 54, 3) := by decide +kernel
theorem dX9_pass_51 : decode cX9_pass 51 = .ok (.aload_n 0, 1) := by decide +kernel
theorem dX9_pass_52 : decode cX9_pass 52 = .ok (.dup, 1) := by decide +kernel
theorem dX9_pass_53 : decode cX9_pass 53 = .ok (.getfield 77, 3) := by decide +kernel
theorem dX9_pass_56 : decode cX9_pass 56 = .ok (.iconst 1, 1) := by decide +kernel
theorem dX9_pass_57 : decode cX9_pass 57 = .ok (.iadd, 1) := by decide +kernel
theorem dX9_pass_58 : decode cX9_pass 58 = .ok (.putfield 77, 3) := by decide +kernel
theorem dX9_pass_61 : decode cX9_pass 61 = .ok (.iconst 0, 1) := by decide +kernel
theorem dX9_pass_62 : decode cX9_pass 62 = .ok (.istore 4, 2) := by decide +kernel
theorem dX9_pass_64 : decode cX9_pass 64 = .ok (.iload 4, 2) := by decide +kernel
theorem dX9_pass_66 : decode cX9_pass 66 = .ok (.aload_n 0, 1) := by decide +kernel
theorem dX9_pass_67 : decode cX9_pass 67 = .ok (.getfield 91, 3) := by decide +kernel
theorem dX9_pass_70 : decode cX9_pass 70 = .ok (.if_icmp .ge 26, 3) := by decide +kernel
theorem dX9_pass_73 : decode cX9_pass 73 = .ok (.iload_n 2, 1) := by decide +kernel
theorem dX9_pass_74 : decode cX9_pass 74 = .ok (.aload_n 0, 1) := by decide +kernel
theorem dX9_pass_75 : decode cX9_pass 75 = .ok (.iload 4, 2) := by decide +kernel
theorem dX9_pass_77 : decode cX9_pass 77 = .ok (.invokevirtual 155, 3) := by decide +kernel
theorem dX9_pass_80 : decode cX9_pass 80 = .ok (.ifCond .eq 7, 3) := by decide +kernel
theorem dX9_pass_83 : decode cX9_pass 83 = .ok (.iconst 1, 1) := by decide +kernel
theorem dX9_pass_84 : decode cX9_pass 84 = .ok (.goto 4, 3) := by decide +kernel
theorem dX9_pass_87 : decode cX9_pass 87 = .ok (.iconst 0, 1) := by decide +kernel
theorem dX9_pass_88 : decode cX9_pass 88 = .ok (.iadd, 1) := by decide +kernel
theorem dX9_pass_89 : decode cX9_pass 89 = .ok (.istore_n 2, 1) := by decide +kernel
theorem dX9_pass_90 : decode cX9_pass 90 = .ok (.iinc 4 1, 3) := by decide +kernel
theorem dX9_pass_93 : decode cX9_pass 93 = .ok (.goto (-29), 3) := by decide +kernel
theorem dX9_pass_96 : decode cX9_pass 96 = .ok (.iinc 3 1, 3) := by decide +kernel
theorem dX9_pass_99 : decode cX9_pass 99 = .ok (.goto (-60), 3) := by decide +kernel
theorem dX9_pass_102 : decode cX9_pass 102 = .ok (.iload_n 2, 1) := by decide +kernel
theorem dX9_pass_103 : decode cX9_pass 103 = .ok (.ireturn, 1) := by decide +kernel
theorem dX9_now_0 : decode cX9_now 0 = .ok (.aload_n 0, 1) := by decide +kernel
theorem dX9_now_1 : decode cX9_now 1 = .ok (.iconst 0, 1) := by decide +kernel
theorem dX9_now_2 : decode cX9_now 2 = .ok (.putfield 81, 3) := by decide +kernel
theorem dX9_now_5 : decode cX9_now 5 = .ok (.aload_n 0, 1) := by decide +kernel
theorem dX9_now_6 : decode cX9_now 6 = .ok (.getfield 77, 3) := by decide +kernel
theorem dX9_now_9 : decode cX9_now 9 = .ok (.ireturn, 1) := by decide +kernel
set_option maxRecDepth 20000 in
theorem ggX9_addWalker_X9_isPlace : GoodIn wsX9_addWalker wsX9_isPlace := goodIn_r _ [10, 11, 12, 9, 13] (by decide +kernel) (by decide +kernel)
set_option maxRecDepth 20000 in
theorem gX9_addWalker_X9_isPlace : GoodIn wsX9_addWalker (va_wsS RX9 111 yX9_isPlace wsX9_isPlace) := goodIn_app (goodIn_of _ (by decide +kernel)) ggX9_addWalker_X9_isPlace
set_option maxRecDepth 20000 in
theorem ggX9_addWalker_X9_in : GoodIn wsX9_addWalker wsX9_in := goodIn_r _ [13] (by decide +kernel) (by decide +kernel)
set_option maxRecDepth 20000 in
theorem gX9_addWalker_X9_in : GoodIn wsX9_addWalker (va_wsS RX9 84 yX9_in wsX9_in) := goodIn_app (goodIn_of _ (by decide +kernel)) ggX9_addWalker_X9_in
theorem dX9_addWalker_0 : decode cX9_addWalker 0 = .ok (.aload_n 0, 1) := by decide +kernel
theorem dX9_addWalker_1 : decode cX9_addWalker 1 = .ok (.iload_n 1, 1) := by decide +kernel
theorem dX9_addWalker_2 : decode cX9_addWalker 2 = .ok (.invokestatic 111, 3) := by decide +kernel
theorem dX9_addWalker_5 : decode cX9_addWalker 5 = .ok (.ifCond .ne 7, 3) := by decide +kernel
theorem dX9_addWalker_8 : decode cX9_addWalker 8 = .ok (.iconst 1, 1) := by decide +kernel
theorem dX9_addWalker_9 : decode cX9_addWalker 9 = .ok (.goto 30, 3) := by decide +kernel
theorem dX9_addWalker_12 : decode cX9_addWalker 12 = .ok (.iload_n 2, 1) := by decide +kernel
theorem dX9_addWalker_13 : decode cX9_addWalker 13 = .ok (.iconst 1, 1) := by decide +kernel
theorem dX9_addWalker_14 : decode cX9_addWalker 14 = .ok (.iconst 5, 1) := by decide +kernel
theorem dX9_addWalker_15 : decode cX9_addWalker 15 = .ok (.invokestatic 84, 3) := by decide +kernel
theorem dX9_addWalker_18 : decode cX9_addWalker 18 = .ok (.ifCond .ne 7, 3) := by decide +kernel
theorem dX9_addWalker_21 : decode cX9_addWalker 21 = .ok (.iconst 2, 1) := by decide +kernel
theorem dX9_addWalker_22 : decode cX9_addWalker 22 = .ok (.goto 17, 3) := by decide +kernel
theorem dX9_addWalker_25 : decode cX9_addWalker 25 = .ok (.aload_n 0, 1) := by decide +kernel
theorem dX9_addWalker_26 : decode cX9_addWalker 26 = .ok (.getfield 91, 3) := by decide +kernel
theorem dX9_addWalker_29 : decode cX9_addWalker 29 = .ok (.bipush 6, 2) := by decide +kernel
theorem dX9_addWalker_31 : decode cX9_addWalker 31 = .ok (.if_icmp .ne 7, 3) := by decide +kernel
theorem dX9_addWalker_34 : decode cX9_addWalker 34 = .ok (.iconst 3, 1) := by decide +kernel
theorem dX9_addWalker_35 : decode cX9_addWalker 35 = .ok (.goto 4, 3) := by decide +kernel
theorem dX9_addWalker_38 : decode cX9_addWalker 38 = .ok (.iconst 0, 1) := by decide +kernel
theorem dX9_addWalker_39 : decode cX9_addWalker 39 = .ok (.putfield 81, 3) := by decide +kernel
theorem dX9_addWalker_42 : decode cX9_addWalker 42 = .ok (.aload_n 0, 1) := by decide +kernel
theorem dX9_addWalker_43 : decode cX9_addWalker 43 = .ok (.getfield 81, 3) := by decide +kernel
theorem dX9_addWalker_46 : decode cX9_addWalker 46 = .ok (.ifCond .le 5, 3) := by decide +kernel
theorem dX9_addWalker_49 : decode cX9_addWalker 49 = .ok (.iconst 0, 1) := by decide +kernel
theorem dX9_addWalker_50 : decode cX9_addWalker 50 = .ok (.ireturn, 1) := by decide +kernel
theorem dX9_addWalker_51 : decode cX9_addWalker 51 = .ok (.aload_n 0, 1) := by decide +kernel
theorem dX9_addWalker_52 : decode cX9_addWalker 52 = .ok (.getfield 47, 3) := by decide +kernel
theorem dX9_addWalker_55 : decode cX9_addWalker 55 = .ok (.aload_n 0, 1) := by decide +kernel
theorem dX9_addWalker_56 : decode cX9_addWalker 56 = .ok (.getfield 91, 3) := by decide +kernel
theorem dX9_addWalker_59 : decode cX9_addWalker 59 = .ok (.iload_n 1, 1) := by decide +kernel
theorem dX9_addWalker_60 : decode cX9_addWalker 60 = .ok (.iastore, 1) := by decide +kernel
theorem dX9_addWalker_61 : decode cX9_addWalker 61 = .ok (.aload_n 0, 1) := by decide +kernel
theorem dX9_addWalker_62 : decode cX9_addWalker 62 = .ok (.getfield 44, 3) := by decide +kernel
theorem dX9_addWalker_65 : decode cX9_addWalker 65 = .ok (.aload_n 0, 1) := by decide +kernel
theorem dX9_addWalker_66 : decode cX9_addWalker 66 = .ok (.getfield 91, 3) := by decide +kernel
theorem dX9_addWalker_69 : decode cX9_addWalker 69 = .ok (.iload_n 2, 1) := by decide +kernel
theorem dX9_addWalker_70 : decode cX9_addWalker 70 = .ok (.iastore, 1) := by decide +kernel
theorem dX9_addWalker_71 : decode cX9_addWalker 71 = .ok (.aload_n 0, 1) := by decide +kernel
theorem dX9_addWalker_72 : decode cX9_addWalker 72 = .ok (.getfield 50, 3) := by decide +kernel
theorem dX9_addWalker_75 : decode cX9_addWalker 75 = .ok (.aload_n 0, 1) := by decide +kernel
theorem dX9_addWalker_76 : decode cX9_addWalker 76 = .ok (.getfield 91, 3) := by decide +kernel
theorem dX9_addWalker_79 : decode cX9_addWalker 79 = .ok (.iconst (-1), 1) := by decide +kernel
theorem dX9_addWalker_80 : decode cX9_addWalker 80 = .ok (.iastore, 1) := by decide +kernel
theorem dX9_addWalker_81 : decode cX9_addWalker 81 = .ok (.aload_n 0, 1) := by decide +kernel
theorem dX9_addWalker_82 : decode cX9_addWalker 82 = .ok (.getfield 53, 3) := by decide +kernel
theorem dX9_addWalker_85 : decode cX9_addWalker 85 = .ok (.aload_n 0, 1) := by decide +kernel
theorem dX9_addWalker_86 : decode cX9_addWalker 86 = .ok (.getfield 91, 3) := by decide +kernel
theorem dX9_addWalker_89 : decode cX9_addWalker 89 = .ok (.iconst (-1), 1) := by decide +kernel
theorem dX9_addWalker_90 : decode cX9_addWalker 90 = .ok (.iastore, 1) := by decide +kernel
theorem dX9_addWalker_91 : decode cX9_addWalker 91 = .ok (.aload_n 0, 1) := by decide +kernel
theorem dX9_addWalker_92 : decode cX9_addWalker 92 = .ok (.dup, 1) := by decide +kernel
theorem dX9_addWalker_93 : decode cX9_addWalker 93 = .ok (.getfield 91, 3) := by decide +kernel
theorem dX9_addWalker_96 : decode cX9_addWalker 96 = .ok (.iconst 1, 1) := by decide +kernel
theorem dX9_addWalker_97 : decode cX9_addWalker 97 = .ok (.iadd, 1) := by decide +kernel
theorem dX9_addWalker_98 : decode cX9_addWalker 98 = .ok (.putfield 91, 3) := by decide +kernel
theorem dX9_addWalker_101 : decode cX9_addWalker 101 = .ok (.aload_n 0, 1) := by decide +kernel
theorem dX9_addWalker_102 : decode cX9_addWalker 102 = .ok (.getfield 91, 3) := by decide +kernel
theorem dX9_addWalker_105 : decode cX9_addWalker 105 = .ok (.iconst 1, 1) := by decide +kernel
theorem dX9_addWalker_106 : decode cX9_addWalker 106 = .ok (.isub, 1) := by decide +kernel
theorem dX9_addWalker_107 : decode cX9_addWalker 107 = .ok (.ireturn, 1) := by decide +kernel
set_option maxRecDepth 20000 in
theorem ggX9_send_X9_isWalker : GoodIn wsX9_send wsX9_isWalker := goodIn_r _ [10, 11, 12, 13, 9, 14, 38, 39, 40, 41, 42, 43, 44, 45, 46, 47, 48, 49, 50, 51, 52, 53, 54, 55, 56, 57, 58, 59, 60, 61, 62, 63, 64, 65, 66] (by decide +kernel) (by decide +kernel)
set_option maxRecDepth 20000 in
theorem gX9_send_X9_isWalker : GoodIn wsX9_send (wsV RX9 158 RX9 yX9_isWalker wsX9_isWalker) := goodIn_app (goodIn_of _ (by decide +kernel)) ggX9_send_X9_isWalker
set_option maxRecDepth 20000 in
theorem ggX9_send_X9_isPlace : GoodIn wsX9_send wsX9_isPlace := goodIn_r _ [17, 12, 13, 9, 14] (by decide +kernel) (by decide +kernel)
set_option maxRecDepth 20000 in
theorem gX9_send_X9_isPlace : GoodIn wsX9_send (va_wsS RX9 111 yX9_isPlace wsX9_isPlace) := goodIn_app (goodIn_of _ (by decide +kernel)) ggX9_send_X9_isPlace
set_option maxRecDepth 20000 in
theorem ggX9_send_X9_laySums : GoodIn wsX9_send wsX9_laySums := goodIn_r _ [21, 5, 22, 23, 24, 9, 25, 26, 27, 28, 29, 12, 13, 14, 30, 31, 32, 33, 34, 35, 36, 37, 38, 39, 40, 41, 42, 43, 44, 45, 46, 47, 48, 49, 50, 51, 52, 53, 54, 55, 56, 57, 58, 59, 60, 61, 62, 63, 64, 65, 66] (by decide +kernel) (by decide +kernel)
set_option maxRecDepth 20000 in
theorem gX9_send_X9_laySums : GoodIn wsX9_send (wsV RX9 146 RX9 yX9_laySums wsX9_laySums) := goodIn_app (goodIn_of _ (by decide +kernel)) ggX9_send_X9_laySums
theorem dX9_send_0 : decode cX9_send 0 = .ok (.aload_n 0, 1) := by decide +kernel
theorem dX9_send_1 : decode cX9_send 1 = .ok (.aload_n 0, 1) := by decide +kernel
theorem dX9_send_2 : decode cX9_send 2 = .ok (.iload_n 1, 1) := by decide +kernel
theorem dX9_send_3 : decode cX9_send 3 = .ok (.invokevirtual 158, 3) := by decide +kernel
theorem dX9_send_6 : decode cX9_send 6 = .ok (.ifCond .eq 14, 3) := by decide +kernel
theorem dX9_send_9 : decode cX9_send 9 = .ok (.iload_n 2, 1) := by decide +kernel
theorem dX9_send_10 : decode cX9_send 10 = .ok (.invokestatic 111, 3) := by decide +kernel
theorem dX9_send_13 : decode cX9_send 13 = .ok (.ifCond .eq 7, 3) := by decide +kernel
theorem dX9_send_16 : decode cX9_send 16 = .ok (.iconst 0, 1) := by decide +kernel
theorem dX9_send_17 : decode cX9_send 17 = .ok (.goto 4, 3) := by decide +kernel
theorem dX9_send_20 : decode cX9_send 20 = .ok (.iconst 1, 1) := by decide +kernel
theorem dX9_send_21 : decode cX9_send 21 = .ok (.putfield 81, 3) := by decide +kernel
theorem dX9_send_24 : decode cX9_send 24 = .ok (.aload_n 0, 1) := by decide +kernel
theorem dX9_send_25 : decode cX9_send 25 = .ok (.getfield 81, 3) := by decide +kernel
theorem dX9_send_28 : decode cX9_send 28 = .ok (.ifCond .le 5, 3) := by decide +kernel
theorem dX9_send_31 : decode cX9_send 31 = .ok (.iconst 0, 1) := by decide +kernel
theorem dX9_send_32 : decode cX9_send 32 = .ok (.ireturn, 1) := by decide +kernel
theorem dX9_send_33 : decode cX9_send 33 = .ok (.aload_n 0, 1) := by decide +kernel
theorem dX9_send_34 : decode cX9_send 34 = .ok (.getfield 50, 3) := by decide +kernel
theorem dX9_send_37 : decode cX9_send 37 = .ok (.iload_n 1, 1) := by decide +kernel
theorem dX9_send_38 : decode cX9_send 38 = .ok (.aload_n 0, 1) := by decide +kernel
theorem dX9_send_39 : decode cX9_send 39 = .ok (.getfield 53, 3) := by decide +kernel
theorem dX9_send_42 : decode cX9_send 42 = .ok (.iload_n 1, 1) := by decide +kernel
theorem dX9_send_43 : decode cX9_send 43 = .ok (.iaload, 1) := by decide +kernel
theorem dX9_send_44 : decode cX9_send 44 = .ok (.iconst (-1), 1) := by decide +kernel
theorem dX9_send_45 : decode cX9_send 45 = .ok (.if_icmp .ne 17, 3) := by decide +kernel
theorem dX9_send_48 : decode cX9_send 48 = .ok (.aload_n 0, 1) := by decide +kernel
theorem dX9_send_49 : decode cX9_send 49 = .ok (.getfield 47, 3) := by decide +kernel
theorem dX9_send_52 : decode cX9_send 52 = .ok (.iload_n 1, 1) := by decide +kernel
theorem dX9_send_53 : decode cX9_send 53 = .ok (.iaload, 1) := by decide +kernel
theorem dX9_send_54 : decode cX9_send 54 = .ok (.iload_n 2, 1) := by decide +kernel
theorem dX9_send_55 : decode cX9_send 55 = .ok (.if_icmp .ne 7, 3) := by decide +kernel
theorem dX9_send_58 : decode cX9_send 58 = .ok (.iconst (-1), 1) := by decide +kernel
theorem dX9_send_59 : decode cX9_send 59 = .ok (.goto 4, 3) := by decide +kernel
theorem dX9_send_62 : decode cX9_send 62 = .ok (.iload_n 2, 1) := by decide +kernel
theorem dX9_send_63 : decode cX9_send 63 = .ok (.iastore, 1) := by decide +kernel
theorem dX9_send_64 : decode cX9_send 64 = .ok (.aload_n 0, 1) := by decide +kernel
theorem dX9_send_65 : decode cX9_send 65 = .ok (.iload_n 2, 1) := by decide +kernel
theorem dX9_send_66 : decode cX9_send 66 = .ok (.invokevirtual 146, 3) := by decide +kernel
theorem dX9_send_69 : decode cX9_send 69 = .ok (.aload_n 0, 1) := by decide +kernel
theorem dX9_send_70 : decode cX9_send 70 = .ok (.getfield 74, 3) := by decide +kernel
theorem dX9_send_73 : decode cX9_send 73 = .ok (.aload_n 0, 1) := by decide +kernel
theorem dX9_send_74 : decode cX9_send 74 = .ok (.getfield 47, 3) := by decide +kernel
theorem dX9_send_77 : decode cX9_send 77 = .ok (.iload_n 1, 1) := by decide +kernel
theorem dX9_send_78 : decode cX9_send 78 = .ok (.iaload, 1) := by decide +kernel
theorem dX9_send_79 : decode cX9_send 79 = .ok (.iaload, 1) := by decide +kernel
theorem dX9_send_80 : decode cX9_send 80 = .ok (.ireturn, 1) := by decide +kernel
set_option maxRecDepth 20000 in
theorem ggX9_at_X9_isWalker : GoodIn wsX9_at wsX9_isWalker := goodIn_r _ [7, 8, 9, 10, 6, 11, 12, 13, 14, 15, 16, 17, 18, 19, 20, 21, 22, 23, 24, 25, 26, 27, 28, 29, 30, 31, 32, 33, 34, 35, 36, 37, 38, 39, 40] (by decide +kernel) (by decide +kernel)
set_option maxRecDepth 20000 in
theorem gX9_at_X9_isWalker : GoodIn wsX9_at (wsV RX9 158 RX9 yX9_isWalker wsX9_isWalker) := goodIn_app (goodIn_of _ (by decide +kernel)) ggX9_at_X9_isWalker
theorem dX9_at_0 : decode cX9_at 0 = .ok (.aload_n 0, 1) := by decide +kernel
theorem dX9_at_1 : decode cX9_at 1 = .ok (.aload_n 0, 1) := by decide +kernel
theorem dX9_at_2 : decode cX9_at 2 = .ok (.iload_n 1, 1) := by decide +kernel
theorem dX9_at_3 : decode cX9_at 3 = .ok (.invokevirtual 158, 3) := by decide +kernel
theorem dX9_at_6 : decode cX9_at 6 = .ok (.ifCond .eq 7, 3) := by decide +kernel
theorem dX9_at_9 : decode cX9_at 9 = .ok (.iconst 0, 1) := by decide +kernel
theorem dX9_at_10 : decode cX9_at 10 = .ok (.goto 4, 3) := by decide +kernel
theorem dX9_at_13 : decode cX9_at 13 = .ok (.iconst 1, 1) := by decide +kernel
theorem dX9_at_14 : decode cX9_at 14 = .ok (.putfield 81, 3) := by decide +kernel
theorem dX9_at_17 : decode cX9_at 17 = .ok (.aload_n 0, 1) := by decide +kernel
theorem dX9_at_18 : decode cX9_at 18 = .ok (.getfield 81, 3) := by decide +kernel
theorem dX9_at_21 : decode cX9_at 21 = .ok (.ifCond .ne 12, 3) := by decide +kernel
theorem dX9_at_24 : decode cX9_at 24 = .ok (.aload_n 0, 1) := by decide +kernel
theorem dX9_at_25 : decode cX9_at 25 = .ok (.getfield 47, 3) := by decide +kernel
theorem dX9_at_28 : decode cX9_at 28 = .ok (.iload_n 1, 1) := by decide +kernel
theorem dX9_at_29 : decode cX9_at 29 = .ok (.iaload, 1) := by decide +kernel
theorem dX9_at_30 : decode cX9_at 30 = .ok (.goto 4, 3) := by decide +kernel
theorem dX9_at_33 : decode cX9_at 33 = .ok (.iconst 0, 1) := by decide +kernel
theorem dX9_at_34 : decode cX9_at 34 = .ok (.ireturn, 1) := by decide +kernel
theorem dX9_isResting_0 : decode cX9_isResting 0 = .ok (.aload_n 0, 1) := by decide +kernel
theorem dX9_isResting_1 : decode cX9_isResting 1 = .ok (.getfield 50, 3) := by decide +kernel
theorem dX9_isResting_4 : decode cX9_isResting 4 = .ok (.iload_n 1, 1) := by decide +kernel
theorem dX9_isResting_5 : decode cX9_isResting 5 = .ok (.iaload, 1) := by decide +kernel
theorem dX9_isResting_6 : decode cX9_isResting 6 = .ok (.iconst (-1), 1) := by decide +kernel
theorem dX9_isResting_7 : decode cX9_isResting 7 = .ok (.if_icmp .ne 17, 3) := by decide +kernel
theorem dX9_isResting_10 : decode cX9_isResting 10 = .ok (.aload_n 0, 1) := by decide +kernel
theorem dX9_isResting_11 : decode cX9_isResting 11 = .ok (.getfield 53, 3) := by decide +kernel
theorem dX9_isResting_14 : decode cX9_isResting 14 = .ok (.iload_n 1, 1) := by decide +kernel
theorem dX9_isResting_15 : decode cX9_isResting 15 = .ok (.iaload, 1) := by decide +kernel
theorem dX9_isResting_16 : decode cX9_isResting 16 = .ok (.iconst (-1), 1) := by decide +kernel
theorem dX9_isResting_17 : decode cX9_isResting 17 = .ok (.if_icmp .ne 7, 3) := by decide +kernel
theorem dX9_isResting_20 : decode cX9_isResting 20 = .ok (.iconst 1, 1) := by decide +kernel
theorem dX9_isResting_21 : decode cX9_isResting 21 = .ok (.goto 4, 3) := by decide +kernel
theorem dX9_isResting_24 : decode cX9_isResting 24 = .ok (.iconst 0, 1) := by decide +kernel
theorem dX9_isResting_25 : decode cX9_isResting 25 = .ok (.ireturn, 1) := by decide +kernel
set_option maxRecDepth 20000 in
theorem ggX9_rests_X9_isWalker : GoodIn wsX9_rests wsX9_isWalker := goodIn_r _ [6, 7, 8, 9, 5, 10, 17, 18, 19, 20, 21, 22, 23, 24, 25, 26, 27, 28, 29, 30, 31, 32, 33, 34, 35, 36, 37, 38, 39, 40, 41, 42, 43, 44, 45] (by decide +kernel) (by decide +kernel)
set_option maxRecDepth 20000 in
theorem gX9_rests_X9_isWalker : GoodIn wsX9_rests (wsV RX9 158 RX9 yX9_isWalker wsX9_isWalker) := goodIn_app (goodIn_of _ (by decide +kernel)) ggX9_rests_X9_isWalker
set_option maxRecDepth 20000 in
theorem ggX9_rests_X9_isResting : GoodIn wsX9_rests wsX9_isResting := goodIn_r _ [14, 15, 16, 17, 18, 19, 20, 21, 22, 23, 24, 25, 26, 27, 28, 29, 30, 31, 32, 33, 34, 35, 36, 37, 38, 39, 40, 41, 42, 43, 44, 45] (by decide +kernel) (by decide +kernel)
set_option maxRecDepth 20000 in
theorem gX9_rests_X9_isResting : GoodIn wsX9_rests (wsV RX9 161 RX9 yX9_isResting wsX9_isResting) := goodIn_app (goodIn_of _ (by decide +kernel)) ggX9_rests_X9_isResting
theorem dX9_rests_0 : decode cX9_rests 0 = .ok (.aload_n 0, 1) := by decide +kernel
theorem dX9_rests_1 : decode cX9_rests 1 = .ok (.aload_n 0, 1) := by decide +kernel
theorem dX9_rests_2 : decode cX9_rests 2 = .ok (.iload_n 1, 1) := by decide +kernel
theorem dX9_rests_3 : decode cX9_rests 3 = .ok (.invokevirtual 158, 3) := by decide +kernel
theorem dX9_rests_6 : decode cX9_rests 6 = .ok (.ifCond .eq 7, 3) := by decide +kernel
theorem dX9_rests_9 : decode cX9_rests 9 = .ok (.iconst 0, 1) := by decide +kernel
theorem dX9_rests_10 : decode cX9_rests 10 = .ok (.goto 4, 3) := by decide +kernel
theorem dX9_rests_13 : decode cX9_rests 13 = .ok (.iconst 1, 1) := by decide +kernel
theorem dX9_rests_14 : decode cX9_rests 14 = .ok (.putfield 81, 3) := by decide +kernel
theorem dX9_rests_17 : decode cX9_rests 17 = .ok (.aload_n 0, 1) := by decide +kernel
theorem dX9_rests_18 : decode cX9_rests 18 = .ok (.getfield 81, 3) := by decide +kernel
theorem dX9_rests_21 : decode cX9_rests 21 = .ok (.ifCond .ne 15, 3) := by decide +kernel
theorem dX9_rests_24 : decode cX9_rests 24 = .ok (.aload_n 0, 1) := by decide +kernel
theorem dX9_rests_25 : decode cX9_rests 25 = .ok (.iload_n 1, 1) := by decide +kernel
theorem dX9_rests_26 : decode cX9_rests 26 = .ok (.invokevirtual 161, 3) := by decide +kernel
theorem dX9_rests_29 : decode cX9_rests 29 = .ok (.ifCond .eq 7, 3) := by decide +kernel
theorem dX9_rests_32 : decode cX9_rests 32 = .ok (.iconst 1, 1) := by decide +kernel
theorem dX9_rests_33 : decode cX9_rests 33 = .ok (.goto 4, 3) := by decide +kernel
theorem dX9_rests_36 : decode cX9_rests 36 = .ok (.iconst 0, 1) := by decide +kernel
theorem dX9_rests_37 : decode cX9_rests 37 = .ok (.ireturn, 1) := by decide +kernel
set_option maxRecDepth 20000 in
theorem ggX9_addWarden_X9_isPlace : GoodIn wsX9_addWarden wsX9_isPlace := goodIn_r _ [7, 8, 9, 6, 10] (by decide +kernel) (by decide +kernel)
set_option maxRecDepth 20000 in
theorem gX9_addWarden_X9_isPlace : GoodIn wsX9_addWarden (va_wsS RX9 111 yX9_isPlace wsX9_isPlace) := goodIn_app (goodIn_of _ (by decide +kernel)) ggX9_addWarden_X9_isPlace
theorem dX9_addWarden_0 : decode cX9_addWarden 0 = .ok (.aload_n 0, 1) := by decide +kernel
theorem dX9_addWarden_1 : decode cX9_addWarden 1 = .ok (.iload_n 1, 1) := by decide +kernel
theorem dX9_addWarden_2 : decode cX9_addWarden 2 = .ok (.invokestatic 111, 3) := by decide +kernel
theorem dX9_addWarden_5 : decode cX9_addWarden 5 = .ok (.ifCond .ne 7, 3) := by decide +kernel
theorem dX9_addWarden_8 : decode cX9_addWarden 8 = .ok (.iconst 1, 1) := by decide +kernel
theorem dX9_addWarden_9 : decode cX9_addWarden 9 = .ok (.goto 16, 3) := by decide +kernel
theorem dX9_addWarden_12 : decode cX9_addWarden 12 = .ok (.aload_n 0, 1) := by decide +kernel
theorem dX9_addWarden_13 : decode cX9_addWarden 13 = .ok (.getfield 164, 3) := by decide +kernel
theorem dX9_addWarden_16 : decode cX9_addWarden 16 = .ok (.iconst 4, 1) := by decide +kernel
theorem dX9_addWarden_17 : decode cX9_addWarden 17 = .ok (.if_icmp .ne 7, 3) := by decide +kernel
theorem dX9_addWarden_20 : decode cX9_addWarden 20 = .ok (.iconst 2, 1) := by decide +kernel
theorem dX9_addWarden_21 : decode cX9_addWarden 21 = .ok (.goto 4, 3) := by decide +kernel
theorem dX9_addWarden_24 : decode cX9_addWarden 24 = .ok (.iconst 0, 1) := by decide +kernel
theorem dX9_addWarden_25 : decode cX9_addWarden 25 = .ok (.putfield 81, 3) := by decide +kernel
theorem dX9_addWarden_28 : decode cX9_addWarden 28 = .ok (.aload_n 0, 1) := by decide +kernel
theorem dX9_addWarden_29 : decode cX9_addWarden 29 = .ok (.getfield 81, 3) := by decide +kernel
theorem dX9_addWarden_32 : decode cX9_addWarden 32 = .ok (.ifCond .le 5, 3) := by decide +kernel
theorem dX9_addWarden_35 : decode cX9_addWarden 35 = .ok (.iconst 0, 1) := by decide +kernel
theorem dX9_addWarden_36 : decode cX9_addWarden 36 = .ok (.ireturn, 1) := by decide +kernel
theorem dX9_addWarden_37 : decode cX9_addWarden 37 = .ok (.aload_n 0, 1) := by decide +kernel
theorem dX9_addWarden_38 : decode cX9_addWarden 38 = .ok (.getfield 59, 3) := by decide +kernel
theorem dX9_addWarden_41 : decode cX9_addWarden 41 = .ok (.aload_n 0, 1) := by decide +kernel
theorem dX9_addWarden_42 : decode cX9_addWarden 42 = .ok (.getfield 164, 3) := by decide +kernel
theorem dX9_addWarden_45 : decode cX9_addWarden 45 = .ok (.iload_n 1, 1) := by decide +kernel
theorem dX9_addWarden_46 : decode cX9_addWarden 46 = .ok (.iastore, 1) := by decide +kernel
theorem dX9_addWarden_47 : decode cX9_addWarden 47 = .ok (.aload_n 0, 1) := by decide +kernel
theorem dX9_addWarden_48 : decode cX9_addWarden 48 = .ok (.dup, 1) := by decide +kernel
theorem dX9_addWarden_49 : decode cX9_addWarden 49 = .ok (.getfield 164, 3) := by decide +kernel
theorem dX9_addWarden_52 : decode cX9_addWarden 52 = .ok (.iconst 1, 1) := by decide +kernel
theorem dX9_addWarden_53 : decode cX9_addWarden 53 = .ok (.iadd, 1) := by decide +kernel
theorem dX9_addWarden_54 : decode cX9_addWarden 54 = .ok (.putfield 164, 3) := by decide +kernel
theorem dX9_addWarden_57 : decode cX9_addWarden 57 = .ok (.aload_n 0, 1) := by decide +kernel
theorem dX9_addWarden_58 : decode cX9_addWarden 58 = .ok (.getfield 164, 3) := by decide +kernel
theorem dX9_addWarden_61 : decode cX9_addWarden 61 = .ok (.iconst 1, 1) := by decide +kernel
theorem dX9_addWarden_62 : decode cX9_addWarden 62 = .ok (.isub, 1) := by decide +kernel
theorem dX9_addWarden_63 : decode cX9_addWarden 63 = .ok (.ireturn, 1) := by decide +kernel
set_option maxRecDepth 20000 in
theorem ggX9_sees_X9_in : GoodIn wsX9_sees wsX9_in := goodIn_r _ [9] (by decide +kernel) (by decide +kernel)
set_option maxRecDepth 20000 in
theorem gX9_sees_X9_in : GoodIn wsX9_sees (va_wsS RX9 84 yX9_in wsX9_in) := goodIn_app (goodIn_of _ (by decide +kernel)) ggX9_sees_X9_in
set_option maxRecDepth 20000 in
theorem ggX9_sees_X9_distance : GoodIn wsX9_sees wsX9_distance := goodIn_r _ [12, 13, 14, 8, 15] (by decide +kernel) (by decide +kernel)
set_option maxRecDepth 20000 in
theorem gX9_sees_X9_distance : GoodIn wsX9_sees (va_wsS RX9 98 yX9_distance wsX9_distance) := goodIn_app (goodIn_of _ (by decide +kernel)) ggX9_sees_X9_distance
theorem dX9_sees_0 : decode cX9_sees 0 = .ok (.aload_n 0, 1) := by decide +kernel
theorem dX9_sees_1 : decode cX9_sees 1 = .ok (.iload_n 1, 1) := by decide +kernel
theorem dX9_sees_2 : decode cX9_sees 2 = .ok (.iconst 0, 1) := by decide +kernel
theorem dX9_sees_3 : decode cX9_sees 3 = .ok (.aload_n 0, 1) := by decide +kernel
theorem dX9_sees_4 : decode cX9_sees 4 = .ok (.getfield 164, 3) := by decide +kernel
theorem dX9_sees_7 : decode cX9_sees 7 = .ok (.iconst 1, 1) := by decide +kernel
theorem dX9_sees_8 : decode cX9_sees 8 = .ok (.isub, 1) := by decide +kernel
theorem dX9_sees_9 : decode cX9_sees 9 = .ok (.invokestatic 84, 3) := by decide +kernel
theorem dX9_sees_12 : decode cX9_sees 12 = .ok (.ifCond .eq 7, 3) := by decide +kernel
theorem dX9_sees_15 : decode cX9_sees 15 = .ok (.iconst 0, 1) := by decide +kernel
theorem dX9_sees_16 : decode cX9_sees 16 = .ok (.goto 4, 3) := by decide +kernel
theorem dX9_sees_19 : decode cX9_sees 19 = .ok (.iconst 1, 1) := by decide +kernel
theorem dX9_sees_20 : decode cX9_sees 20 = .ok (.putfield 81, 3) := by decide +kernel
theorem dX9_sees_23 : decode cX9_sees 23 = .ok (.iconst 0, 1) := by decide +kernel
theorem dX9_sees_24 : decode cX9_sees 24 = .ok (.istore_n 2, 1) := by decide +kernel
theorem dX9_sees_25 : decode cX9_sees 25 = .ok (.iconst 0, 1) := by decide +kernel
theorem dX9_sees_26 : decode cX9_sees 26 = .ok (.istore_n 3, 1) := by decide +kernel
theorem dX9_sees_27 : decode cX9_sees 27 = .ok (.iload_n 3, 1) := by decide +kernel
theorem dX9_sees_28 : decode cX9_sees 28 = .ok (.aload_n 0, 1) := by decide +kernel
theorem dX9_sees_29 : decode cX9_sees 29 = .ok (.getfield 91, 3) := by decide +kernel
theorem dX9_sees_32 : decode cX9_sees 32 = .ok (.if_icmp .ge 45, 3) := by decide +kernel
theorem dX9_sees_35 : decode cX9_sees 35 = .ok (.aload_n 0, 1) := by decide +kernel
theorem dX9_sees_36 : decode cX9_sees 36 = .ok (.getfield 81, 3) := by decide +kernel
theorem dX9_sees_39 : decode cX9_sees 39 = .ok (.ifCond .ne 38, 3) := by decide +kernel
theorem dX9_sees_42 : decode cX9_sees 42 = .ok (.iload_n 2, 1) := by decide +kernel
theorem dX9_sees_43 : decode cX9_sees 43 = .ok (.aload_n 0, 1) := by decide +kernel
theorem dX9_sees_44 : decode cX9_sees 44 = .ok (.getfield 47, 3) := by decide +kernel
theorem dX9_sees_47 : decode cX9_sees 47 = .ok (.iload_n 3, 1) := by decide +kernel
theorem dX9_sees_48 : decode cX9_sees 48 = .ok (.iaload, 1) := by decide +kernel
theorem dX9_sees_49 : decode cX9_sees 49 = .ok (.aload_n 0, 1) := by decide +kernel
theorem dX9_sees_50 : decode cX9_sees 50 = .ok (.getfield 59, 3) := by decide +kernel
theorem dX9_sees_53 : decode cX9_sees 53 = .ok (.iload_n 1, 1) := by decide +kernel
theorem dX9_sees_54 : decode cX9_sees 54 = .ok (.iaload, 1) := by decide +kernel
theorem dX9_sees_55 : decode cX9_sees 55 = .ok (.invokestatic 98, 3) := by decide +kernel
theorem dX9_sees_58 : decode cX9_sees 58 = .ok (.iconst 3, 1) := by decide +kernel
theorem dX9_sees_59 : decode cX9_sees 59 = .ok (.if_icmp .gt 9, 3) := by decide +kernel
theorem dX9_sees_62 : decode cX9_sees 62 = .ok (.iconst 1, 1) := by decide +kernel
theorem dX9_sees_63 : decode cX9_sees 63 = .ok (.iload_n 3, 1) := by decide +kernel
theorem dX9_sees_64 : decode cX9_sees 64 = .ok (.ishl, 1) := by decide +kernel
theorem dX9_sees_65 : decode cX9_sees 65 = .ok (.goto 4, 3) := by decide +kernel
theorem dX9_sees_68 : decode cX9_sees 68 = .ok (.iconst 0, 1) := by decide +kernel
theorem dX9_sees_69 : decode cX9_sees 69 = .ok (.ior, 1) := by decide +kernel
theorem dX9_sees_70 : decode cX9_sees 70 = .ok (.istore_n 2, 1) := by decide +kernel
theorem dX9_sees_71 : decode cX9_sees 71 = .ok (.iinc 3 1, 3) := by decide +kernel
theorem dX9_sees_74 : decode cX9_sees 74 = .ok (.goto (-47), 3) := by decide +kernel
theorem dX9_sees_77 : decode cX9_sees 77 = .ok (.iload_n 2, 1) := by decide +kernel
theorem dX9_sees_78 : decode cX9_sees 78 = .ok (.ireturn, 1) := by decide +kernel
theorem dX9_solvedMany_0 : decode cX9_solvedMany 0 = .ok (.iconst 0, 1) := by decide +kernel
theorem dX9_solvedMany_1 : decode cX9_solvedMany 1 = .ok (.istore_n 2, 1) := by decide +kernel
theorem dX9_solvedMany_2 : decode cX9_solvedMany 2 = .ok (.iconst 0, 1) := by decide +kernel
theorem dX9_solvedMany_3 : decode cX9_solvedMany 3 = .ok (.istore_n 3, 1) := by decide +kernel
theorem dX9_solvedMany_4 : decode cX9_solvedMany 4 = .ok (.iload_n 3, 1) := by decide +kernel
theorem dX9_solvedMany_5 : decode cX9_solvedMany 5 = .ok (.aload_n 0, 1) := by decide +kernel
theorem dX9_solvedMany_6 : decode cX9_solvedMany 6 = .ok (.getfield 88, 3) := by decide +kernel
theorem dX9_solvedMany_9 : decode cX9_solvedMany 9 = .ok (.if_icmp .ge 31, 3) := by decide +kernel
theorem dX9_solvedMany_12 : decode cX9_solvedMany 12 = .ok (.iload_n 2, 1) := by decide +kernel
theorem dX9_solvedMany_13 : decode cX9_solvedMany 13 = .ok (.aload_n 0, 1) := by decide +kernel
theorem dX9_solvedMany_14 : decode cX9_solvedMany 14 = .ok (.getfield 62, 3) := by decide +kernel
theorem dX9_solvedMany_17 : decode cX9_solvedMany 17 = .ok (.bipush 6, 2) := by decide +kernel
theorem dX9_solvedMany_19 : decode cX9_solvedMany 19 = .ok (.iload_n 1, 1) := by decide +kernel
theorem dX9_solvedMany_20 : decode cX9_solvedMany 20 = .ok (.imul, 1) := by decide +kernel
theorem dX9_solvedMany_21 : decode cX9_solvedMany 21 = .ok (.iload_n 3, 1) := by decide +kernel
theorem dX9_solvedMany_22 : decode cX9_solvedMany 22 = .ok (.iadd, 1) := by decide +kernel
theorem dX9_solvedMany_23 : decode cX9_solvedMany 23 = .ok (.baload, 1) := by decide +kernel
theorem dX9_solvedMany_24 : decode cX9_solvedMany 24 = .ok (.ifCond .eq 7, 3) := by decide +kernel
theorem dX9_solvedMany_27 : decode cX9_solvedMany 27 = .ok (.iconst 1, 1) := by decide +kernel
theorem dX9_solvedMany_28 : decode cX9_solvedMany 28 = .ok (.goto 4, 3) := by decide +kernel
theorem dX9_solvedMany_31 : decode cX9_solvedMany 31 = .ok (.iconst 0, 1) := by decide +kernel
theorem dX9_solvedMany_32 : decode cX9_solvedMany 32 = .ok (.iadd, 1) := by decide +kernel
theorem dX9_solvedMany_33 : decode cX9_solvedMany 33 = .ok (.istore_n 2, 1) := by decide +kernel
theorem dX9_solvedMany_34 : decode cX9_solvedMany 34 = .ok (.iinc 3 1, 3) := by decide +kernel
theorem dX9_solvedMany_37 : decode cX9_solvedMany 37 = .ok (.goto (-33), 3) := by decide +kernel
theorem dX9_solvedMany_40 : decode cX9_solvedMany 40 = .ok (.iload_n 2, 1) := by decide +kernel
theorem dX9_solvedMany_41 : decode cX9_solvedMany 41 = .ok (.ireturn, 1) := by decide +kernel
theorem dX9_isWord_0 : decode cX9_isWord 0 = .ok (.iload_n 1, 1) := by decide +kernel
theorem dX9_isWord_1 : decode cX9_isWord 1 = .ok (.iconst 1, 1) := by decide +kernel
theorem dX9_isWord_2 : decode cX9_isWord 2 = .ok (.iadd, 1) := by decide +kernel
theorem dX9_isWord_3 : decode cX9_isWord 3 = .ok (.istore_n 2, 1) := by decide +kernel
theorem dX9_isWord_4 : decode cX9_isWord 4 = .ok (.aload_n 0, 1) := by decide +kernel
theorem dX9_isWord_5 : decode cX9_isWord 5 = .ok (.getfield 41, 3) := by decide +kernel
theorem dX9_isWord_8 : decode cX9_isWord 8 = .ok (.iconst 0, 1) := by decide +kernel
theorem dX9_isWord_9 : decode cX9_isWord 9 = .ok (.iaload, 1) := by decide +kernel
theorem dX9_isWord_10 : decode cX9_isWord 10 = .ok (.aload_n 0, 1) := by decide +kernel
theorem dX9_isWord_11 : decode cX9_isWord 11 = .ok (.getfield 41, 3) := by decide +kernel
theorem dX9_isWord_14 : decode cX9_isWord 14 = .ok (.iload_n 2, 1) := by decide +kernel
theorem dX9_isWord_15 : decode cX9_isWord 15 = .ok (.iaload, 1) := by decide +kernel
theorem dX9_isWord_16 : decode cX9_isWord 16 = .ok (.if_icmp .ne 7, 3) := by decide +kernel
theorem dX9_isWord_19 : decode cX9_isWord 19 = .ok (.iconst 1, 1) := by decide +kernel
theorem dX9_isWord_20 : decode cX9_isWord 20 = .ok (.goto 4, 3) := by decide +kernel
theorem dX9_isWord_23 : decode cX9_isWord 23 = .ok (.iconst 0, 1) := by decide +kernel
theorem dX9_isWord_24 : decode cX9_isWord 24 = .ok (.istore_n 3, 1) := by decide +kernel
theorem dX9_isWord_25 : decode cX9_isWord 25 = .ok (.iconst 0, 1) := by decide +kernel
theorem dX9_isWord_26 : decode cX9_isWord 26 = .ok (.istore 4, 2) := by decide +kernel
theorem dX9_isWord_28 : decode cX9_isWord 28 = .ok (.iload 4, 2) := by decide +kernel
theorem dX9_isWord_30 : decode cX9_isWord 30 = .ok (.aload_n 0, 1) := by decide +kernel
theorem dX9_isWord_31 : decode cX9_isWord 31 = .ok (.getfield 41, 3) := by decide +kernel
theorem dX9_isWord_34 : decode cX9_isWord 34 = .ok (.iconst 0, 1) := by decide +kernel
theorem dX9_isWord_35 : decode cX9_isWord 35 = .ok (.iaload, 1) := by decide +kernel
theorem dX9_isWord_36 : decode cX9_isWord 36 = .ok (.if_icmp .ge 40, 3) := by decide +kernel
theorem dX9_isWord_39 : decode cX9_isWord 39 = .ok (.iload_n 3, 1) := by decide +kernel
theorem dX9_isWord_40 : decode cX9_isWord 40 = .ok (.ifCond .eq 36, 3) := by decide +kernel
theorem dX9_isWord_43 : decode cX9_isWord 43 = .ok (.aload_n 0, 1) := by decide +kernel
theorem dX9_isWord_44 : decode cX9_isWord 44 = .ok (.getfield 38, 3) := by decide +kernel
theorem dX9_isWord_47 : decode cX9_isWord 47 = .ok (.iload 4, 2) := by decide +kernel
theorem dX9_isWord_49 : decode cX9_isWord 49 = .ok (.iaload, 1) := by decide +kernel
theorem dX9_isWord_50 : decode cX9_isWord 50 = .ok (.aload_n 0, 1) := by decide +kernel
theorem dX9_isWord_51 : decode cX9_isWord 51 = .ok (.getfield 38, 3) := by decide +kernel
theorem dX9_isWord_54 : decode cX9_isWord 54 = .ok (.iconst 5, 1) := by decide +kernel
theorem dX9_isWord_55 : decode cX9_isWord 55 = .ok (.iload_n 2, 1) := by decide +kernel
theorem dX9_isWord_56 : decode cX9_isWord 56 = .ok (.imul, 1) := by decide +kernel
theorem dX9_isWord_57 : decode cX9_isWord 57 = .ok (.iload 4, 2) := by decide +kernel
theorem dX9_isWord_59 : decode cX9_isWord 59 = .ok (.iadd, 1) := by decide +kernel
theorem dX9_isWord_60 : decode cX9_isWord 60 = .ok (.iaload, 1) := by decide +kernel
theorem dX9_isWord_61 : decode cX9_isWord 61 = .ok (.if_icmp .ne 7, 3) := by decide +kernel
theorem dX9_isWord_64 : decode cX9_isWord 64 = .ok (.iconst 1, 1) := by decide +kernel
theorem dX9_isWord_65 : decode cX9_isWord 65 = .ok (.goto 4, 3) := by decide +kernel
theorem dX9_isWord_68 : decode cX9_isWord 68 = .ok (.iconst 0, 1) := by decide +kernel
theorem dX9_isWord_69 : decode cX9_isWord 69 = .ok (.istore_n 3, 1) := by decide +kernel
theorem dX9_isWord_70 : decode cX9_isWord 70 = .ok (.iinc 4 1, 3) := by decide +kernel
theorem dX9_isWord_73 : decode cX9_isWord 73 = .ok (.goto (-45), 3) := by decide +kernel
theorem dX9_isWord_76 : decode cX9_isWord 76 = .ok (.iload_n 3, 1) := by decide +kernel
theorem dX9_isWord_77 : decode cX9_isWord 77 = .ok (.ireturn, 1) := by decide +kernel
set_option maxRecDepth 20000 in
theorem ggX9_answer_X9_isWalker : GoodIn wsX9_answer wsX9_isWalker := goodIn_r _ [10, 11, 12, 13, 9, 14, 36, 37, 38, 39, 40, 41, 42, 43, 44, 45, 46, 47, 48, 49, 50, 51, 52, 53, 54, 55, 56, 57, 58, 59, 60, 61, 62, 63, 64] (by decide +kernel) (by decide +kernel)
set_option maxRecDepth 20000 in
theorem gX9_answer_X9_isWalker : GoodIn wsX9_answer (wsV RX9 158 RX9 yX9_isWalker wsX9_isWalker) := goodIn_app (goodIn_of _ (by decide +kernel)) ggX9_answer_X9_isWalker
set_option maxRecDepth 20000 in
theorem ggX9_answer_X9_isStage : GoodIn wsX9_answer wsX9_isStage := goodIn_r _ [18, 19, 12, 13, 9, 14, 36, 37, 38, 39, 40, 41, 42, 43, 44, 45, 46, 47, 48, 49, 50, 51, 52, 53, 54, 55, 56, 57, 58, 59, 60, 61, 62, 63, 64] (by decide +kernel) (by decide +kernel)
set_option maxRecDepth 20000 in
theorem gX9_answer_X9_isStage : GoodIn wsX9_answer (wsV RX9 119 RX9 yX9_isStage wsX9_isStage) := goodIn_app (goodIn_of _ (by decide +kernel)) ggX9_answer_X9_isStage
set_option maxRecDepth 20000 in
theorem ggX9_answer_X9_isResting : GoodIn wsX9_answer wsX9_isResting := goodIn_r _ [23, 24, 25, 36, 37, 38, 39, 40, 41, 42, 43, 44, 45, 46, 47, 48, 49, 50, 51, 52, 53, 54, 55, 56, 57, 58, 59, 60, 61, 62, 63, 64] (by decide +kernel) (by decide +kernel)
set_option maxRecDepth 20000 in
theorem gX9_answer_X9_isResting : GoodIn wsX9_answer (wsV RX9 161 RX9 yX9_isResting wsX9_isResting) := goodIn_app (goodIn_of _ (by decide +kernel)) ggX9_answer_X9_isResting
set_option maxRecDepth 20000 in
theorem ggX9_answer_X9_solvedMany : GoodIn wsX9_answer wsX9_solvedMany := goodIn_r _ [29, 19, 4, 36, 37, 38, 39, 40, 41, 42, 43, 44, 45, 46, 47, 48, 49, 50, 51, 52, 53, 54, 55, 56, 57, 58, 59, 60, 61, 62, 63, 64] (by decide +kernel) (by decide +kernel)
set_option maxRecDepth 20000 in
theorem gX9_answer_X9_solvedMany : GoodIn wsX9_answer (wsV RX9 167 RX9 yX9_solvedMany wsX9_solvedMany) := goodIn_app (goodIn_of _ (by decide +kernel)) ggX9_answer_X9_solvedMany
set_option maxRecDepth 20000 in
theorem ggX9_answer_X9_isWord : GoodIn wsX9_answer wsX9_isWord := goodIn_r _ [33, 34, 35, 36, 37, 38, 39, 40, 41, 42, 43, 44, 45, 46, 47, 48, 49, 50, 51, 52, 53, 54, 55, 56, 57, 58, 59, 60, 61, 62, 63, 64] (by decide +kernel) (by decide +kernel)
set_option maxRecDepth 20000 in
theorem gX9_answer_X9_isWord : GoodIn wsX9_answer (wsV RX9 170 RX9 yX9_isWord wsX9_isWord) := goodIn_app (goodIn_of _ (by decide +kernel)) ggX9_answer_X9_isWord
theorem dX9_answer_0 : decode cX9_answer 0 = .ok (.aload_n 0, 1) := by decide +kernel
theorem dX9_answer_1 : decode cX9_answer 1 = .ok (.aload_n 0, 1) := by decide +kernel
theorem dX9_answer_2 : decode cX9_answer 2 = .ok (.iload_n 1, 1) := by decide +kernel
theorem dX9_answer_3 : decode cX9_answer 3 = .ok (.invokevirtual 158, 3) := by decide +kernel
theorem dX9_answer_6 : decode cX9_answer 6 = .ok (.ifCond .eq 11, 3) := by decide +kernel
theorem dX9_answer_9 : decode cX9_answer 9 = .ok (.aload_n 0, 1) := by decide +kernel
theorem dX9_answer_10 : decode cX9_answer 10 = .ok (.iload_n 2, 1) := by decide +kernel
theorem dX9_answer_11 : decode cX9_answer 11 = .ok (.invokevirtual 119, 3) := by decide +kernel
theorem dX9_answer_14 : decode cX9_answer 14 = .ok (.ifCond .ne 7, 3) := by decide +kernel
theorem dX9_answer_17 : decode cX9_answer 17 = .ok (.iconst 1, 1) := by decide +kernel
theorem dX9_answer_18 : decode cX9_answer 18 = .ok (.goto 4, 3) := by decide +kernel
theorem dX9_answer_21 : decode cX9_answer 21 = .ok (.iconst 0, 1) := by decide +kernel
theorem dX9_answer_22 : decode cX9_answer 22 = .ok (.putfield 81, 3) := by decide +kernel
theorem dX9_answer_25 : decode cX9_answer 25 = .ok (.aload_n 0, 1) := by decide +kernel
theorem dX9_answer_26 : decode cX9_answer 26 = .ok (.getfield 81, 3) := by decide +kernel
theorem dX9_answer_29 : decode cX9_answer 29 = .ok (.ifCond .ne 44, 3) := by decide +kernel
theorem dX9_answer_32 : decode cX9_answer 32 = .ok (.aload_n 0, 1) := by decide +kernel
theorem dX9_answer_33 : decode cX9_answer 33 = .ok (.aload_n 0, 1) := by decide +kernel
theorem dX9_answer_34 : decode cX9_answer 34 = .ok (.iload_n 1, 1) := by decide +kernel
theorem dX9_answer_35 : decode cX9_answer 35 = .ok (.invokevirtual 161, 3) := by decide +kernel
theorem dX9_answer_38 : decode cX9_answer 38 = .ok (.ifCond .eq 27, 3) := by decide +kernel
theorem dX9_answer_41 : decode cX9_answer 41 = .ok (.aload_n 0, 1) := by decide +kernel
theorem dX9_answer_42 : decode cX9_answer 42 = .ok (.getfield 47, 3) := by decide +kernel
theorem dX9_answer_45 : decode cX9_answer 45 = .ok (.iload_n 1, 1) := by decide +kernel
theorem dX9_answer_46 : decode cX9_answer 46 = .ok (.iaload, 1) := by decide +kernel
theorem dX9_answer_47 : decode cX9_answer 47 = .ok (.aload_n 0, 1) := by decide +kernel
theorem dX9_answer_48 : decode cX9_answer 48 = .ok (.getfield 32, 3) := by decide +kernel
theorem dX9_answer_51 : decode cX9_answer 51 = .ok (.iload_n 2, 1) := by decide +kernel
theorem dX9_answer_52 : decode cX9_answer 52 = .ok (.iaload, 1) := by decide +kernel
theorem dX9_answer_53 : decode cX9_answer 53 = .ok (.if_icmp .ne 12, 3) := by decide +kernel
theorem dX9_answer_56 : decode cX9_answer 56 = .ok (.aload_n 0, 1) := by decide +kernel
theorem dX9_answer_57 : decode cX9_answer 57 = .ok (.iload_n 1, 1) := by decide +kernel
theorem dX9_answer_58 : decode cX9_answer 58 = .ok (.invokevirtual 167, 3) := by decide +kernel
theorem dX9_answer_61 : decode cX9_answer 61 = .ok (.iload_n 2, 1) := by decide +kernel
theorem dX9_answer_62 : decode cX9_answer 62 = .ok (.if_icmp .eq 7, 3) := by decide +kernel
theorem dX9_answer_65 : decode cX9_answer 65 = .ok (.iconst 2, 1) := by decide +kernel
theorem dX9_answer_66 : decode cX9_answer 66 = .ok (.goto 4, 3) := by decide +kernel
theorem dX9_answer_69 : decode cX9_answer 69 = .ok (.iconst 0, 1) := by decide +kernel
theorem dX9_answer_70 : decode cX9_answer 70 = .ok (.putfield 81, 3) := by decide +kernel
theorem dX9_answer_73 : decode cX9_answer 73 = .ok (.aload_n 0, 1) := by decide +kernel
theorem dX9_answer_74 : decode cX9_answer 74 = .ok (.getfield 81, 3) := by decide +kernel
theorem dX9_answer_77 : decode cX9_answer 77 = .ok (.ifCond .le 5, 3) := by decide +kernel
theorem dX9_answer_80 : decode cX9_answer 80 = .ok (.iconst 0, 1) := by decide +kernel
theorem dX9_answer_81 : decode cX9_answer 81 = .ok (.ireturn, 1) := by decide +kernel
theorem dX9_answer_82 : decode cX9_answer 82 = .ok (.aload_n 0, 1) := by decide +kernel
theorem dX9_answer_83 : decode cX9_answer 83 = .ok (.iload_n 2, 1) := by decide +kernel
theorem dX9_answer_84 : decode cX9_answer 84 = .ok (.invokevirtual 170, 3) := by decide +kernel
theorem dX9_answer_87 : decode cX9_answer 87 = .ok (.istore_n 3, 1) := by decide +kernel
theorem dX9_answer_88 : decode cX9_answer 88 = .ok (.aload_n 0, 1) := by decide +kernel
theorem dX9_answer_89 : decode cX9_answer 89 = .ok (.getfield 62, 3) := by decide +kernel
theorem dX9_answer_92 : decode cX9_answer 92 = .ok (.bipush 6, 2) := by decide +kernel
theorem dX9_answer_94 : decode cX9_answer 94 = .ok (.iload_n 1, 1) := by decide +kernel
theorem dX9_answer_95 : decode cX9_answer 95 = .ok (.imul, 1) := by decide +kernel
theorem dX9_answer_96 : decode cX9_answer 96 = .ok (.iload_n 2, 1) := by decide +kernel
theorem dX9_answer_97 : decode cX9_answer 97 = .ok (.iadd, 1) := by decide +kernel
theorem dX9_answer_98 : decode cX9_answer 98 = .ok (.iload_n 3, 1) := by decide +kernel
theorem dX9_answer_99 : decode cX9_answer 99 = .ok (.bastore, 1) := by decide +kernel
theorem dX9_answer_100 : decode cX9_answer 100 = .ok (.aload_n 0, 1) := by decide +kernel
theorem dX9_answer_101 : decode cX9_answer 101 = .ok (.getfield 68, 3) := by decide +kernel
theorem dX9_answer_104 : decode cX9_answer 104 = .ok (.bipush 6, 2) := by decide +kernel
theorem dX9_answer_106 : decode cX9_answer 106 = .ok (.iload_n 1, 1) := by decide +kernel
theorem dX9_answer_107 : decode cX9_answer 107 = .ok (.imul, 1) := by decide +kernel
theorem dX9_answer_108 : decode cX9_answer 108 = .ok (.iload_n 2, 1) := by decide +kernel
theorem dX9_answer_109 : decode cX9_answer 109 = .ok (.iadd, 1) := by decide +kernel
theorem dX9_answer_110 : decode cX9_answer 110 = .ok (.dup2, 1) := by decide +kernel
theorem dX9_answer_111 : decode cX9_answer 111 = .ok (.iaload, 1) := by decide +kernel
theorem dX9_answer_112 : decode cX9_answer 112 = .ok (.iload_n 3, 1) := by decide +kernel
theorem dX9_answer_113 : decode cX9_answer 113 = .ok (.ifCond .eq 7, 3) := by decide +kernel
theorem dX9_answer_116 : decode cX9_answer 116 = .ok (.iconst 0, 1) := by decide +kernel
theorem dX9_answer_117 : decode cX9_answer 117 = .ok (.goto 4, 3) := by decide +kernel
theorem dX9_answer_120 : decode cX9_answer 120 = .ok (.iconst 1, 1) := by decide +kernel
theorem dX9_answer_121 : decode cX9_answer 121 = .ok (.iadd, 1) := by decide +kernel
theorem dX9_answer_122 : decode cX9_answer 122 = .ok (.iastore, 1) := by decide +kernel
theorem dX9_answer_123 : decode cX9_answer 123 = .ok (.iload_n 3, 1) := by decide +kernel
theorem dX9_answer_124 : decode cX9_answer 124 = .ok (.ireturn, 1) := by decide +kernel
theorem dX9_points_0 : decode cX9_points 0 = .ok (.bipush 100, 2) := by decide +kernel
theorem dX9_points_2 : decode cX9_points 2 = .ok (.bipush 10, 2) := by decide +kernel
theorem dX9_points_4 : decode cX9_points 4 = .ok (.aload_n 0, 1) := by decide +kernel
theorem dX9_points_5 : decode cX9_points 5 = .ok (.getfield 68, 3) := by decide +kernel
theorem dX9_points_8 : decode cX9_points 8 = .ok (.bipush 6, 2) := by decide +kernel
theorem dX9_points_10 : decode cX9_points 10 = .ok (.iload_n 1, 1) := by decide +kernel
theorem dX9_points_11 : decode cX9_points 11 = .ok (.imul, 1) := by decide +kernel
theorem dX9_points_12 : decode cX9_points 12 = .ok (.iload_n 2, 1) := by decide +kernel
theorem dX9_points_13 : decode cX9_points 13 = .ok (.iadd, 1) := by decide +kernel
theorem dX9_points_14 : decode cX9_points 14 = .ok (.iaload, 1) := by decide +kernel
theorem dX9_points_15 : decode cX9_points 15 = .ok (.imul, 1) := by decide +kernel
theorem dX9_points_16 : decode cX9_points 16 = .ok (.isub, 1) := by decide +kernel
theorem dX9_points_17 : decode cX9_points 17 = .ok (.istore_n 3, 1) := by decide +kernel
theorem dX9_points_18 : decode cX9_points 18 = .ok (.iload_n 3, 1) := by decide +kernel
theorem dX9_points_19 : decode cX9_points 19 = .ok (.bipush 10, 2) := by decide +kernel
theorem dX9_points_21 : decode cX9_points 21 = .ok (.if_icmp .ge 8, 3) := by decide +kernel
theorem dX9_points_24 : decode cX9_points 24 = .ok (.bipush 10, 2) := by decide +kernel
theorem dX9_points_26 : decode cX9_points 26 = .ok (.goto 4, 3) := by decide +kernel
theorem dX9_points_29 : decode cX9_points 29 = .ok (.iload_n 3, 1) := by decide +kernel
theorem dX9_points_30 : decode cX9_points 30 = .ok (.istore_n 3, 1) := by decide +kernel
theorem dX9_points_31 : decode cX9_points 31 = .ok (.aload_n 0, 1) := by decide +kernel
theorem dX9_points_32 : decode cX9_points 32 = .ok (.getfield 65, 3) := by decide +kernel
theorem dX9_points_35 : decode cX9_points 35 = .ok (.bipush 6, 2) := by decide +kernel
theorem dX9_points_37 : decode cX9_points 37 = .ok (.iload_n 1, 1) := by decide +kernel
theorem dX9_points_38 : decode cX9_points 38 = .ok (.imul, 1) := by decide +kernel
theorem dX9_points_39 : decode cX9_points 39 = .ok (.iload_n 2, 1) := by decide +kernel
theorem dX9_points_40 : decode cX9_points 40 = .ok (.iadd, 1) := by decide +kernel
theorem dX9_points_41 : decode cX9_points 41 = .ok (.baload, 1) := by decide +kernel
theorem dX9_points_42 : decode cX9_points 42 = .ok (.ifCond .eq 9, 3) := by decide +kernel
theorem dX9_points_45 : decode cX9_points 45 = .ok (.iload_n 3, 1) := by decide +kernel
theorem dX9_points_46 : decode cX9_points 46 = .ok (.iconst 2, 1) := by decide +kernel
theorem dX9_points_47 : decode cX9_points 47 = .ok (.idiv, 1) := by decide +kernel
theorem dX9_points_48 : decode cX9_points 48 = .ok (.goto 4, 3) := by decide +kernel
theorem dX9_points_51 : decode cX9_points 51 = .ok (.iload_n 3, 1) := by decide +kernel
theorem dX9_points_52 : decode cX9_points 52 = .ok (.ireturn, 1) := by decide +kernel
set_option maxRecDepth 20000 in
theorem ggX9_tell_X9_isWalker : GoodIn wsX9_tell wsX9_isWalker := goodIn_r _ [9, 10, 11, 12, 8, 13, 30, 31, 32, 33, 34, 35, 36, 37, 38, 39, 40, 41, 42, 43, 44, 45, 46, 47, 48, 49, 50, 51, 52, 53, 54, 55, 56, 57, 58] (by decide +kernel) (by decide +kernel)
set_option maxRecDepth 20000 in
theorem gX9_tell_X9_isWalker : GoodIn wsX9_tell (wsV RX9 158 RX9 yX9_isWalker wsX9_isWalker) := goodIn_app (goodIn_of _ (by decide +kernel)) ggX9_tell_X9_isWalker
set_option maxRecDepth 20000 in
theorem ggX9_tell_X9_isStage : GoodIn wsX9_tell wsX9_isStage := goodIn_r _ [17, 18, 11, 12, 8, 13, 30, 31, 32, 33, 34, 35, 36, 37, 38, 39, 40, 41, 42, 43, 44, 45, 46, 47, 48, 49, 50, 51, 52, 53, 54, 55, 56, 57, 58] (by decide +kernel) (by decide +kernel)
set_option maxRecDepth 20000 in
theorem gX9_tell_X9_isStage : GoodIn wsX9_tell (wsV RX9 119 RX9 yX9_isStage wsX9_isStage) := goodIn_app (goodIn_of _ (by decide +kernel)) ggX9_tell_X9_isStage
set_option maxRecDepth 20000 in
theorem ggX9_tell_X9_distance : GoodIn wsX9_tell wsX9_distance := goodIn_r _ [21, 22, 23, 8, 24] (by decide +kernel) (by decide +kernel)
set_option maxRecDepth 20000 in
theorem gX9_tell_X9_distance : GoodIn wsX9_tell (va_wsS RX9 98 yX9_distance wsX9_distance) := goodIn_app (goodIn_of _ (by decide +kernel)) ggX9_tell_X9_distance
set_option maxRecDepth 20000 in
theorem ggX9_tell_X9_points : GoodIn wsX9_tell wsX9_points := goodIn_r _ [28, 29, 4, 30, 31, 32, 33, 34, 35, 36, 37, 38, 39, 40, 41, 42, 43, 44, 45, 46, 47, 48, 49, 50, 51, 52, 53, 54, 55, 56, 57, 58] (by decide +kernel) (by decide +kernel)
set_option maxRecDepth 20000 in
theorem gX9_tell_X9_points : GoodIn wsX9_tell (wsV RX9 173 RX9 yX9_points wsX9_points) := goodIn_app (goodIn_of _ (by decide +kernel)) ggX9_tell_X9_points
theorem dX9_tell_0 : decode cX9_tell 0 = .ok (.aload_n 0, 1) := by decide +kernel
theorem dX9_tell_1 : decode cX9_tell 1 = .ok (.aload_n 0, 1) := by decide +kernel
theorem dX9_tell_2 : decode cX9_tell 2 = .ok (.iload_n 1, 1) := by decide +kernel
theorem dX9_tell_3 : decode cX9_tell 3 = .ok (.invokevirtual 158, 3) := by decide +kernel
theorem dX9_tell_6 : decode cX9_tell 6 = .ok (.ifCond .eq 19, 3) := by decide +kernel
theorem dX9_tell_9 : decode cX9_tell 9 = .ok (.aload_n 0, 1) := by decide +kernel
theorem dX9_tell_10 : decode cX9_tell 10 = .ok (.iload_n 2, 1) := by decide +kernel
theorem dX9_tell_11 : decode cX9_tell 11 = .ok (.invokevirtual 158, 3) := by decide +kernel
theorem dX9_tell_14 : decode cX9_tell 14 = .ok (.ifCond .eq 11, 3) := by decide +kernel
theorem dX9_tell_17 : decode cX9_tell 17 = .ok (.aload_n 0, 1) := by decide +kernel
theorem dX9_tell_18 : decode cX9_tell 18 = .ok (.iload_n 3, 1) := by decide +kernel
theorem dX9_tell_19 : decode cX9_tell 19 = .ok (.invokevirtual 119, 3) := by decide +kernel
theorem dX9_tell_22 : decode cX9_tell 22 = .ok (.ifCond .ne 7, 3) := by decide +kernel
theorem dX9_tell_25 : decode cX9_tell 25 = .ok (.iconst 1, 1) := by decide +kernel
theorem dX9_tell_26 : decode cX9_tell 26 = .ok (.goto 13, 3) := by decide +kernel
theorem dX9_tell_29 : decode cX9_tell 29 = .ok (.iload_n 1, 1) := by decide +kernel
theorem dX9_tell_30 : decode cX9_tell 30 = .ok (.iload_n 2, 1) := by decide +kernel
theorem dX9_tell_31 : decode cX9_tell 31 = .ok (.if_icmp .ne 7, 3) := by decide +kernel
theorem dX9_tell_34 : decode cX9_tell 34 = .ok (.iconst 2, 1) := by decide +kernel
theorem dX9_tell_35 : decode cX9_tell 35 = .ok (.goto 4, 3) := by decide +kernel
theorem dX9_tell_38 : decode cX9_tell 38 = .ok (.iconst 0, 1) := by decide +kernel
theorem dX9_tell_39 : decode cX9_tell 39 = .ok (.putfield 81, 3) := by decide +kernel
theorem dX9_tell_42 : decode cX9_tell 42 = .ok (.aload_n 0, 1) := by decide +kernel
theorem dX9_tell_43 : decode cX9_tell 43 = .ok (.getfield 81, 3) := by decide +kernel
theorem dX9_tell_46 : decode cX9_tell 46 = .ok (.ifCond .ne 85, 3) := by decide +kernel
theorem dX9_tell_49 : decode cX9_tell 49 = .ok (.bipush 6, 2) := by decide +kernel
theorem dX9_tell_51 : decode cX9_tell 51 = .ok (.iload_n 2, 1) := by decide +kernel
theorem dX9_tell_52 : decode cX9_tell 52 = .ok (.imul, 1) := by decide +kernel
theorem dX9_tell_53 : decode cX9_tell 53 = .ok (.iload_n 3, 1) := by decide +kernel
theorem dX9_tell_54 : decode cX9_tell 54 = .ok (.iadd, 1) := by decide +kernel
theorem dX9_tell_55 : decode cX9_tell 55 = .ok (.istore 4, 2) := by decide +kernel
theorem dX9_tell_57 : decode cX9_tell 57 = .ok (.aload_n 0, 1) := by decide +kernel
theorem dX9_tell_58 : decode cX9_tell 58 = .ok (.getfield 62, 3) := by decide +kernel
theorem dX9_tell_61 : decode cX9_tell 61 = .ok (.bipush 6, 2) := by decide +kernel
theorem dX9_tell_63 : decode cX9_tell 63 = .ok (.iload_n 1, 1) := by decide +kernel
theorem dX9_tell_64 : decode cX9_tell 64 = .ok (.imul, 1) := by decide +kernel
theorem dX9_tell_65 : decode cX9_tell 65 = .ok (.iload_n 3, 1) := by decide +kernel
theorem dX9_tell_66 : decode cX9_tell 66 = .ok (.iadd, 1) := by decide +kernel
theorem dX9_tell_67 : decode cX9_tell 67 = .ok (.baload, 1) := by decide +kernel
theorem dX9_tell_68 : decode cX9_tell 68 = .ok (.ifCond .eq 46, 3) := by decide +kernel
theorem dX9_tell_71 : decode cX9_tell 71 = .ok (.aload_n 0, 1) := by decide +kernel
theorem dX9_tell_72 : decode cX9_tell 72 = .ok (.getfield 47, 3) := by decide +kernel
theorem dX9_tell_75 : decode cX9_tell 75 = .ok (.iload_n 1, 1) := by decide +kernel
theorem dX9_tell_76 : decode cX9_tell 76 = .ok (.iaload, 1) := by decide +kernel
theorem dX9_tell_77 : decode cX9_tell 77 = .ok (.aload_n 0, 1) := by decide +kernel
theorem dX9_tell_78 : decode cX9_tell 78 = .ok (.getfield 47, 3) := by decide +kernel
theorem dX9_tell_81 : decode cX9_tell 81 = .ok (.iload_n 2, 1) := by decide +kernel
theorem dX9_tell_82 : decode cX9_tell 82 = .ok (.iaload, 1) := by decide +kernel
theorem dX9_tell_83 : decode cX9_tell 83 = .ok (.invokestatic 98, 3) := by decide +kernel
theorem dX9_tell_86 : decode cX9_tell 86 = .ok (.iconst 2, 1) := by decide +kernel
theorem dX9_tell_87 : decode cX9_tell 87 = .ok (.if_icmp .ge 27, 3) := by decide +kernel
theorem dX9_tell_90 : decode cX9_tell 90 = .ok (.aload_n 0, 1) := by decide +kernel
theorem dX9_tell_91 : decode cX9_tell 91 = .ok (.getfield 62, 3) := by decide +kernel
theorem dX9_tell_94 : decode cX9_tell 94 = .ok (.iload 4, 2) := by decide +kernel
theorem dX9_tell_96 : decode cX9_tell 96 = .ok (.baload, 1) := by decide +kernel
theorem dX9_tell_97 : decode cX9_tell 97 = .ok (.ifCond .ne 17, 3) := by decide +kernel
theorem dX9_tell_100 : decode cX9_tell 100 = .ok (.aload_n 0, 1) := by decide +kernel
theorem dX9_tell_101 : decode cX9_tell 101 = .ok (.getfield 65, 3) := by decide +kernel
theorem dX9_tell_104 : decode cX9_tell 104 = .ok (.iload 4, 2) := by decide +kernel
theorem dX9_tell_106 : decode cX9_tell 106 = .ok (.baload, 1) := by decide +kernel
theorem dX9_tell_107 : decode cX9_tell 107 = .ok (.ifCond .ne 7, 3) := by decide +kernel
theorem dX9_tell_110 : decode cX9_tell 110 = .ok (.iconst 1, 1) := by decide +kernel
theorem dX9_tell_111 : decode cX9_tell 111 = .ok (.goto 4, 3) := by decide +kernel
theorem dX9_tell_114 : decode cX9_tell 114 = .ok (.iconst 0, 1) := by decide +kernel
theorem dX9_tell_115 : decode cX9_tell 115 = .ok (.istore 5, 2) := by decide +kernel
theorem dX9_tell_117 : decode cX9_tell 117 = .ok (.aload_n 0, 1) := by decide +kernel
theorem dX9_tell_118 : decode cX9_tell 118 = .ok (.iload 5, 2) := by decide +kernel
theorem dX9_tell_120 : decode cX9_tell 120 = .ok (.ifCond .eq 7, 3) := by decide +kernel
theorem dX9_tell_123 : decode cX9_tell 123 = .ok (.iconst 0, 1) := by decide +kernel
theorem dX9_tell_124 : decode cX9_tell 124 = .ok (.goto 4, 3) := by decide +kernel
theorem dX9_tell_127 : decode cX9_tell 127 = .ok (.iconst 3, 1) := by decide +kernel
theorem dX9_tell_128 : decode cX9_tell 128 = .ok (.putfield 81, 3) := by decide +kernel
theorem dX9_tell_131 : decode cX9_tell 131 = .ok (.aload_n 0, 1) := by decide +kernel
theorem dX9_tell_132 : decode cX9_tell 132 = .ok (.getfield 81, 3) := by decide +kernel
theorem dX9_tell_135 : decode cX9_tell 135 = .ok (.ifCond .le 5, 3) := by decide +kernel
theorem dX9_tell_138 : decode cX9_tell 138 = .ok (.iconst 0, 1) := by decide +kernel
theorem dX9_tell_139 : decode cX9_tell 139 = .ok (.ireturn, 1) := by decide +kernel
theorem dX9_tell_140 : decode cX9_tell 140 = .ok (.aload_n 0, 1) := by decide +kernel
theorem dX9_tell_141 : decode cX9_tell 141 = .ok (.getfield 65, 3) := by decide +kernel
theorem dX9_tell_144 : decode cX9_tell 144 = .ok (.bipush 6, 2) := by decide +kernel
theorem dX9_tell_146 : decode cX9_tell 146 = .ok (.iload_n 2, 1) := by decide +kernel
theorem dX9_tell_147 : decode cX9_tell 147 = .ok (.imul, 1) := by decide +kernel
theorem dX9_tell_148 : decode cX9_tell 148 = .ok (.iload_n 3, 1) := by decide +kernel
theorem dX9_tell_149 : decode cX9_tell 149 = .ok (.iadd, 1) := by decide +kernel
theorem dX9_tell_150 : decode cX9_tell 150 = .ok (.iconst 1, 1) := by decide +kernel
theorem dX9_tell_151 : decode cX9_tell 151 = .ok (.bastore, 1) := by decide +kernel
theorem dX9_tell_152 : decode cX9_tell 152 = .ok (.aload_n 0, 1) := by decide +kernel
theorem dX9_tell_153 : decode cX9_tell 153 = .ok (.iload_n 2, 1) := by decide +kernel
theorem dX9_tell_154 : decode cX9_tell 154 = .ok (.iload_n 3, 1) := by decide +kernel
theorem dX9_tell_155 : decode cX9_tell 155 = .ok (.invokevirtual 173, 3) := by decide +kernel
theorem dX9_tell_158 : decode cX9_tell 158 = .ok (.ireturn, 1) := by decide +kernel
set_option maxRecDepth 20000 in
theorem ggX9_solved_X9_isWalker : GoodIn wsX9_solved wsX9_isWalker := goodIn_r _ [6, 7, 8, 9, 5, 10, 17, 18, 19, 20, 21, 22, 23, 24, 25, 26, 27, 28, 29, 30, 31, 32, 33, 34, 35, 36, 37, 38, 39, 40, 41, 42, 43, 44, 45] (by decide +kernel) (by decide +kernel)
set_option maxRecDepth 20000 in
theorem gX9_solved_X9_isWalker : GoodIn wsX9_solved (wsV RX9 158 RX9 yX9_isWalker wsX9_isWalker) := goodIn_app (goodIn_of _ (by decide +kernel)) ggX9_solved_X9_isWalker
set_option maxRecDepth 20000 in
theorem ggX9_solved_X9_solvedMany : GoodIn wsX9_solved wsX9_solvedMany := goodIn_r _ [14, 15, 16, 17, 18, 19, 20, 21, 22, 23, 24, 25, 26, 27, 28, 29, 30, 31, 32, 33, 34, 35, 36, 37, 38, 39, 40, 41, 42, 43, 44, 45] (by decide +kernel) (by decide +kernel)
set_option maxRecDepth 20000 in
theorem gX9_solved_X9_solvedMany : GoodIn wsX9_solved (wsV RX9 167 RX9 yX9_solvedMany wsX9_solvedMany) := goodIn_app (goodIn_of _ (by decide +kernel)) ggX9_solved_X9_solvedMany
theorem dX9_solved_0 : decode cX9_solved 0 = .ok (.aload_n 0, 1) := by decide +kernel
theorem dX9_solved_1 : decode cX9_solved 1 = .ok (.aload_n 0, 1) := by decide +kernel
theorem dX9_solved_2 : decode cX9_solved 2 = .ok (.iload_n 1, 1) := by decide +kernel
theorem dX9_solved_3 : decode cX9_solved 3 = .ok (.invokevirtual 158, 3) := by decide +kernel
theorem dX9_solved_6 : decode cX9_solved 6 = .ok (.ifCond .eq 7, 3) := by decide +kernel
theorem dX9_solved_9 : decode cX9_solved 9 = .ok (.iconst 0, 1) := by decide +kernel
theorem dX9_solved_10 : decode cX9_solved 10 = .ok (.goto 4, 3) := by decide +kernel
theorem dX9_solved_13 : decode cX9_solved 13 = .ok (.iconst 1, 1) := by decide +kernel
theorem dX9_solved_14 : decode cX9_solved 14 = .ok (.putfield 81, 3) := by decide +kernel
theorem dX9_solved_17 : decode cX9_solved 17 = .ok (.aload_n 0, 1) := by decide +kernel
theorem dX9_solved_18 : decode cX9_solved 18 = .ok (.getfield 81, 3) := by decide +kernel
theorem dX9_solved_21 : decode cX9_solved 21 = .ok (.ifCond .ne 11, 3) := by decide +kernel
theorem dX9_solved_24 : decode cX9_solved 24 = .ok (.aload_n 0, 1) := by decide +kernel
theorem dX9_solved_25 : decode cX9_solved 25 = .ok (.iload_n 1, 1) := by decide +kernel
theorem dX9_solved_26 : decode cX9_solved 26 = .ok (.invokevirtual 167, 3) := by decide +kernel
theorem dX9_solved_29 : decode cX9_solved 29 = .ok (.goto 4, 3) := by decide +kernel
theorem dX9_solved_32 : decode cX9_solved 32 = .ok (.iconst 0, 1) := by decide +kernel
theorem dX9_solved_33 : decode cX9_solved 33 = .ok (.ireturn, 1) := by decide +kernel
set_option maxRecDepth 20000 in
theorem ggX9_scoreOf_X9_points : GoodIn wsX9_scoreOf wsX9_points := goodIn_r _ [7, 8, 9, 10, 11, 12, 13, 14, 15, 16, 17, 18, 19, 20, 21, 22, 23, 24, 25, 26, 27, 28, 29, 30, 31, 32, 33, 34, 35, 36, 37, 38] (by decide +kernel) (by decide +kernel)
set_option maxRecDepth 20000 in
theorem gX9_scoreOf_X9_points : GoodIn wsX9_scoreOf (wsV RX9 173 RX9 yX9_points wsX9_points) := goodIn_app (goodIn_of _ (by decide +kernel)) ggX9_scoreOf_X9_points
theorem dX9_scoreOf_0 : decode cX9_scoreOf 0 = .ok (.iconst 0, 1) := by decide +kernel
theorem dX9_scoreOf_1 : decode cX9_scoreOf 1 = .ok (.istore_n 2, 1) := by decide +kernel
theorem dX9_scoreOf_2 : decode cX9_scoreOf 2 = .ok (.iconst 0, 1) := by decide +kernel
theorem dX9_scoreOf_3 : decode cX9_scoreOf 3 = .ok (.istore_n 3, 1) := by decide +kernel
theorem dX9_scoreOf_4 : decode cX9_scoreOf 4 = .ok (.iload_n 3, 1) := by decide +kernel
theorem dX9_scoreOf_5 : decode cX9_scoreOf 5 = .ok (.aload_n 0, 1) := by decide +kernel
theorem dX9_scoreOf_6 : decode cX9_scoreOf 6 = .ok (.getfield 88, 3) := by decide +kernel
theorem dX9_scoreOf_9 : decode cX9_scoreOf 9 = .ok (.if_icmp .ge 36, 3) := by decide +kernel
theorem dX9_scoreOf_12 : decode cX9_scoreOf 12 = .ok (.iload_n 2, 1) := by decide +kernel
theorem dX9_scoreOf_13 : decode cX9_scoreOf 13 = .ok (.aload_n 0, 1) := by decide +kernel
theorem dX9_scoreOf_14 : decode cX9_scoreOf 14 = .ok (.getfield 62, 3) := by decide +kernel
theorem dX9_scoreOf_17 : decode cX9_scoreOf 17 = .ok (.bipush 6, 2) := by decide +kernel
theorem dX9_scoreOf_19 : decode cX9_scoreOf 19 = .ok (.iload_n 1, 1) := by decide +kernel
theorem dX9_scoreOf_20 : decode cX9_scoreOf 20 = .ok (.imul, 1) := by decide +kernel
theorem dX9_scoreOf_21 : decode cX9_scoreOf 21 = .ok (.iload_n 3, 1) := by decide +kernel
theorem dX9_scoreOf_22 : decode cX9_scoreOf 22 = .ok (.iadd, 1) := by decide +kernel
theorem dX9_scoreOf_23 : decode cX9_scoreOf 23 = .ok (.baload, 1) := by decide +kernel
theorem dX9_scoreOf_24 : decode cX9_scoreOf 24 = .ok (.ifCond .eq 12, 3) := by decide +kernel
theorem dX9_scoreOf_27 : decode cX9_scoreOf 27 = .ok (.aload_n 0, 1) := by decide +kernel
theorem dX9_scoreOf_28 : decode cX9_scoreOf 28 = .ok (.iload_n 1, 1) := by decide +kernel
theorem dX9_scoreOf_29 : decode cX9_scoreOf 29 = .ok (.iload_n 3, 1) := by decide +kernel
theorem dX9_scoreOf_30 : decode cX9_scoreOf 30 = .ok (.invokevirtual 173, 3) := by decide +kernel
theorem dX9_scoreOf_33 : decode cX9_scoreOf 33 = .ok (.goto 4, 3) := by decide +kernel
theorem dX9_scoreOf_36 : decode cX9_scoreOf 36 = .ok (.iconst 0, 1) := by decide +kernel
theorem dX9_scoreOf_37 : decode cX9_scoreOf 37 = .ok (.iadd, 1) := by decide +kernel
theorem dX9_scoreOf_38 : decode cX9_scoreOf 38 = .ok (.istore_n 2, 1) := by decide +kernel
theorem dX9_scoreOf_39 : decode cX9_scoreOf 39 = .ok (.iinc 3 1, 3) := by decide +kernel
theorem dX9_scoreOf_42 : decode cX9_scoreOf 42 = .ok (.goto (-38), 3) := by decide +kernel
theorem dX9_scoreOf_45 : decode cX9_scoreOf 45 = .ok (.iload_n 2, 1) := by decide +kernel
theorem dX9_scoreOf_46 : decode cX9_scoreOf 46 = .ok (.ireturn, 1) := by decide +kernel
set_option maxRecDepth 20000 in
theorem ggX9_score_X9_isWalker : GoodIn wsX9_score wsX9_isWalker := goodIn_r _ [6, 7, 8, 9, 5, 10, 23, 24, 25, 26, 27, 28, 29, 30, 31, 32, 33, 34, 35, 36, 37, 38, 39, 40, 41, 42, 43, 44, 45, 46, 47, 48, 49, 50, 51] (by decide +kernel) (by decide +kernel)
set_option maxRecDepth 20000 in
theorem gX9_score_X9_isWalker : GoodIn wsX9_score (wsV RX9 158 RX9 yX9_isWalker wsX9_isWalker) := goodIn_app (goodIn_of _ (by decide +kernel)) ggX9_score_X9_isWalker
set_option maxRecDepth 20000 in
theorem ggX9_score_X9_scoreOf : GoodIn wsX9_score wsX9_scoreOf := goodIn_r _ [14, 15, 16, 17, 18, 19, 5, 20, 21, 22, 23, 24, 25, 26, 27, 28, 29, 30, 31, 32, 33, 34, 35, 36, 37, 38, 39, 40, 41, 42, 43, 44, 45, 46, 47, 48, 49, 50, 51] (by decide +kernel) (by decide +kernel)
set_option maxRecDepth 20000 in
theorem gX9_score_X9_scoreOf : GoodIn wsX9_score (wsV RX9 176 RX9 yX9_scoreOf wsX9_scoreOf) := goodIn_app (goodIn_of _ (by decide +kernel)) ggX9_score_X9_scoreOf
theorem dX9_score_0 : decode cX9_score 0 = .ok (.aload_n 0, 1) := by decide +kernel
theorem dX9_score_1 : decode cX9_score 1 = .ok (.aload_n 0, 1) := by decide +kernel
theorem dX9_score_2 : decode cX9_score 2 = .ok (.iload_n 1, 1) := by decide +kernel
theorem dX9_score_3 : decode cX9_score 3 = .ok (.invokevirtual 158, 3) := by decide +kernel
theorem dX9_score_6 : decode cX9_score 6 = .ok (.ifCond .eq 7, 3) := by decide +kernel
theorem dX9_score_9 : decode cX9_score 9 = .ok (.iconst 0, 1) := by decide +kernel
theorem dX9_score_10 : decode cX9_score 10 = .ok (.goto 4, 3) := by decide +kernel
theorem dX9_score_13 : decode cX9_score 13 = .ok (.iconst 1, 1) := by decide +kernel
theorem dX9_score_14 : decode cX9_score 14 = .ok (.putfield 81, 3) := by decide +kernel
theorem dX9_score_17 : decode cX9_score 17 = .ok (.aload_n 0, 1) := by decide +kernel
theorem dX9_score_18 : decode cX9_score 18 = .ok (.getfield 81, 3) := by decide +kernel
theorem dX9_score_21 : decode cX9_score 21 = .ok (.ifCond .ne 11, 3) := by decide +kernel
theorem dX9_score_24 : decode cX9_score 24 = .ok (.aload_n 0, 1) := by decide +kernel
theorem dX9_score_25 : decode cX9_score 25 = .ok (.iload_n 1, 1) := by decide +kernel
theorem dX9_score_26 : decode cX9_score 26 = .ok (.invokevirtual 176, 3) := by decide +kernel
theorem dX9_score_29 : decode cX9_score 29 = .ok (.goto 4, 3) := by decide +kernel
theorem dX9_score_32 : decode cX9_score 32 = .ok (.iconst 0, 1) := by decide +kernel
theorem dX9_score_33 : decode cX9_score 33 = .ok (.ireturn, 1) := by decide +kernel
set_option maxRecDepth 20000 in
theorem ggX9_scoreAnew_X9_score : GoodIn wsX9_scoreAnew wsX9_score := goodIn_r _ [5, 6, 7, 8, 9, 4, 10, 11, 12, 13, 14, 15, 16, 17, 18, 19, 20, 21, 22, 23, 24, 25, 26, 27, 28, 29, 30, 31, 32, 33, 34, 35, 36, 37, 38, 39, 40, 41, 42, 43, 44, 45, 46, 47, 48, 49, 50, 51, 52, 53, 54, 55] (by decide +kernel) (by decide +kernel)
set_option maxRecDepth 20000 in
theorem gX9_scoreAnew_X9_score : GoodIn wsX9_scoreAnew (wsV RX9 179 RX9 yX9_score wsX9_score) := goodIn_app (goodIn_of _ (by decide +kernel)) ggX9_scoreAnew_X9_score
theorem dX9_scoreAnew_0 : decode cX9_scoreAnew 0 = .ok (.aload_n 0, 1) := by decide +kernel
theorem dX9_scoreAnew_1 : decode cX9_scoreAnew 1 = .ok (.iload_n 1, 1) := by decide +kernel
theorem dX9_scoreAnew_2 : decode cX9_scoreAnew 2 = .ok (.invokevirtual 179, 3) := by decide +kernel
theorem dX9_scoreAnew_5 : decode cX9_scoreAnew 5 = .ok (.ireturn, 1) := by decide +kernel
set_option maxRecDepth 20000 in
theorem ggX9_walkerAt_X9_scoreOf : GoodIn wsX9_walkerAt wsX9_scoreOf := goodIn_r _ [7, 8, 9, 10, 11, 12, 6, 13, 14, 15, 16, 17, 18, 19, 20, 21, 22, 23, 24, 25, 26, 27, 28, 29, 30, 31, 32, 33, 34, 35, 36, 37, 38, 39, 40, 41, 42, 43, 44] (by decide +kernel) (by decide +kernel)
set_option maxRecDepth 20000 in
theorem gX9_walkerAt_X9_scoreOf : GoodIn wsX9_walkerAt (wsV RX9 176 RX9 yX9_scoreOf wsX9_scoreOf) := goodIn_app (goodIn_of _ (by decide +kernel)) ggX9_walkerAt_X9_scoreOf
theorem dX9_walkerAt_0 : decode cX9_walkerAt 0 = .ok (.aload_n 0, 1) := by decide +kernel
theorem dX9_walkerAt_1 : decode cX9_walkerAt 1 = .ok (.iconst 0, 1) := by decide +kernel
theorem dX9_walkerAt_2 : decode cX9_walkerAt 2 = .ok (.putfield 81, 3) := by decide +kernel
theorem dX9_walkerAt_5 : decode cX9_walkerAt 5 = .ok (.iconst 0, 1) := by decide +kernel
theorem dX9_walkerAt_6 : decode cX9_walkerAt 6 = .ok (.istore_n 2, 1) := by decide +kernel
theorem dX9_walkerAt_7 : decode cX9_walkerAt 7 = .ok (.iload_n 2, 1) := by decide +kernel
theorem dX9_walkerAt_8 : decode cX9_walkerAt 8 = .ok (.aload_n 0, 1) := by decide +kernel
theorem dX9_walkerAt_9 : decode cX9_walkerAt 9 = .ok (.getfield 91, 3) := by decide +kernel
theorem dX9_walkerAt_12 : decode cX9_walkerAt 12 = .ok (.if_icmp .ge 74, 3) := by decide +kernel
theorem dX9_walkerAt_15 : decode cX9_walkerAt 15 = .ok (.iconst 0, 1) := by decide +kernel
theorem dX9_walkerAt_16 : decode cX9_walkerAt 16 = .ok (.istore_n 3, 1) := by decide +kernel
theorem dX9_walkerAt_17 : decode cX9_walkerAt 17 = .ok (.iconst 0, 1) := by decide +kernel
theorem dX9_walkerAt_18 : decode cX9_walkerAt 18 = .ok (.istore 4, 2) := by decide +kernel
theorem dX9_walkerAt_20 : decode cX9_walkerAt 20 = .ok (.iload 4, 2) := by decide +kernel
theorem dX9_walkerAt_22 : decode cX9_walkerAt 22 = .ok (.aload_n 0, 1) := by decide +kernel
theorem dX9_walkerAt_23 : decode cX9_walkerAt 23 = .ok (.getfield 91, 3) := by decide +kernel
theorem dX9_walkerAt_26 : decode cX9_walkerAt 26 = .ok (.if_icmp .ge 47, 3) := by decide +kernel
theorem dX9_walkerAt_29 : decode cX9_walkerAt 29 = .ok (.aload_n 0, 1) := by decide +kernel
theorem dX9_walkerAt_30 : decode cX9_walkerAt 30 = .ok (.iload 4, 2) := by decide +kernel
theorem dX9_walkerAt_32 : decode cX9_walkerAt 32 = .ok (.invokevirtual 176, 3) := by decide +kernel
theorem dX9_walkerAt_35 : decode cX9_walkerAt 35 = .ok (.aload_n 0, 1) := by decide +kernel
theorem dX9_walkerAt_36 : decode cX9_walkerAt 36 = .ok (.iload_n 2, 1) := by decide +kernel
theorem dX9_walkerAt_37 : decode cX9_walkerAt 37 = .ok (.invokevirtual 176, 3) := by decide +kernel
theorem dX9_walkerAt_40 : decode cX9_walkerAt 40 = .ok (.isub, 1) := by decide +kernel
theorem dX9_walkerAt_41 : decode cX9_walkerAt 41 = .ok (.istore 5, 2) := by decide +kernel
theorem dX9_walkerAt_43 : decode cX9_walkerAt 43 = .ok (.iload_n 3, 1) := by decide +kernel
theorem dX9_walkerAt_44 : decode cX9_walkerAt 44 = .ok (.iload 5, 2) := by decide +kernel
theorem dX9_walkerAt_46 : decode cX9_walkerAt 46 = .ok (.ifCond .gt 14, 3) := by decide +kernel
theorem dX9_walkerAt_49 : decode cX9_walkerAt 49 = .ok (.iload 5, 2) := by decide +kernel
theorem dX9_walkerAt_51 : decode cX9_walkerAt 51 = .ok (.ifCond .ne 13, 3) := by decide +kernel
theorem dX9_walkerAt_54 : decode cX9_walkerAt 54 = .ok (.iload 4, 2) := by decide +kernel
theorem dX9_walkerAt_56 : decode cX9_walkerAt 56 = .ok (.iload_n 2, 1) := by decide +kernel
theorem dX9_walkerAt_57 : decode cX9_walkerAt 57 = .ok (.if_icmp .ge 7, 3) := by decide +kernel
theorem dX9_walkerAt_60 : decode cX9_walkerAt 60 = .ok (.iconst 1, 1) := by decide +kernel
theorem dX9_walkerAt_61 : decode cX9_walkerAt 61 = .ok (.goto 4, 3) := by decide +kernel
theorem dX9_walkerAt_64 : decode cX9_walkerAt 64 = .ok (.iconst 0, 1) := by decide +kernel
theorem dX9_walkerAt_65 : decode cX9_walkerAt 65 = .ok (.iadd, 1) := by decide +kernel
theorem dX9_walkerAt_66 : decode cX9_walkerAt 66 = .ok (.istore_n 3, 1) := by decide +kernel
theorem dX9_walkerAt_67 : decode cX9_walkerAt 67 = .ok (.iinc 4 1, 3) := by decide +kernel
theorem dX9_walkerAt_70 : decode cX9_walkerAt 70 = .ok (.goto (-50), 3) := by decide +kernel
theorem dX9_walkerAt_73 : decode cX9_walkerAt 73 = .ok (.iload_n 3, 1) := by decide +kernel
theorem dX9_walkerAt_74 : decode cX9_walkerAt 74 = .ok (.iload_n 1, 1) := by decide +kernel
theorem dX9_walkerAt_75 : decode cX9_walkerAt 75 = .ok (.if_icmp .ne 5, 3) := by decide +kernel
theorem dX9_walkerAt_78 : decode cX9_walkerAt 78 = .ok (.iload_n 2, 1) := by decide +kernel
theorem dX9_walkerAt_79 : decode cX9_walkerAt 79 = .ok (.ireturn, 1) := by decide +kernel
theorem dX9_walkerAt_80 : decode cX9_walkerAt 80 = .ok (.iinc 2 1, 3) := by decide +kernel
theorem dX9_walkerAt_83 : decode cX9_walkerAt 83 = .ok (.goto (-76), 3) := by decide +kernel
theorem dX9_walkerAt_86 : decode cX9_walkerAt 86 = .ok (.iconst (-1), 1) := by decide +kernel
theorem dX9_walkerAt_87 : decode cX9_walkerAt 87 = .ok (.ireturn, 1) := by decide +kernel
theorem dJ13_bitCount_95d88_0 : decode cJ13_bitCount_95d88 0 = .ok (.lload_n 0, 1) := by decide +kernel
theorem dJ13_bitCount_95d88_1 : decode cJ13_bitCount_95d88 1 = .ok (.lload_n 0, 1) := by decide +kernel
theorem dJ13_bitCount_95d88_2 : decode cJ13_bitCount_95d88 2 = .ok (.iconst 1, 1) := by decide +kernel
theorem dJ13_bitCount_95d88_3 : decode cJ13_bitCount_95d88 3 = .ok (.lushr, 1) := by decide +kernel
theorem dJ13_bitCount_95d88_4 : decode cJ13_bitCount_95d88 4 = .ok (.ldc2_w 314, 3) := by decide +kernel
theorem dJ13_bitCount_95d88_7 : decode cJ13_bitCount_95d88 7 = .ok (.land, 1) := by decide +kernel
theorem dJ13_bitCount_95d88_8 : decode cJ13_bitCount_95d88 8 = .ok (.lsub, 1) := by decide +kernel
theorem dJ13_bitCount_95d88_9 : decode cJ13_bitCount_95d88 9 = .ok (.lstore_n 0, 1) := by decide +kernel
theorem dJ13_bitCount_95d88_10 : decode cJ13_bitCount_95d88 10 = .ok (.lload_n 0, 1) := by decide +kernel
theorem dJ13_bitCount_95d88_11 : decode cJ13_bitCount_95d88 11 = .ok (.ldc2_w 316, 3) := by decide +kernel
theorem dJ13_bitCount_95d88_14 : decode cJ13_bitCount_95d88 14 = .ok (.land, 1) := by decide +kernel
theorem dJ13_bitCount_95d88_15 : decode cJ13_bitCount_95d88 15 = .ok (.lload_n 0, 1) := by decide +kernel
theorem dJ13_bitCount_95d88_16 : decode cJ13_bitCount_95d88 16 = .ok (.iconst 2, 1) := by decide +kernel
theorem dJ13_bitCount_95d88_17 : decode cJ13_bitCount_95d88 17 = .ok (.lushr, 1) := by decide +kernel
theorem dJ13_bitCount_95d88_18 : decode cJ13_bitCount_95d88 18 = .ok (.ldc2_w 316, 3) := by decide +kernel
theorem dJ13_bitCount_95d88_21 : decode cJ13_bitCount_95d88 21 = .ok (.land, 1) := by decide +kernel
theorem dJ13_bitCount_95d88_22 : decode cJ13_bitCount_95d88 22 = .ok (.ladd, 1) := by decide +kernel
theorem dJ13_bitCount_95d88_23 : decode cJ13_bitCount_95d88 23 = .ok (.lstore_n 0, 1) := by decide +kernel
theorem dJ13_bitCount_95d88_24 : decode cJ13_bitCount_95d88 24 = .ok (.lload_n 0, 1) := by decide +kernel
theorem dJ13_bitCount_95d88_25 : decode cJ13_bitCount_95d88 25 = .ok (.lload_n 0, 1) := by decide +kernel
theorem dJ13_bitCount_95d88_26 : decode cJ13_bitCount_95d88 26 = .ok (.iconst 4, 1) := by decide +kernel
theorem dJ13_bitCount_95d88_27 : decode cJ13_bitCount_95d88 27 = .ok (.lushr, 1) := by decide +kernel
theorem dJ13_bitCount_95d88_28 : decode cJ13_bitCount_95d88 28 = .ok (.ladd, 1) := by decide +kernel
theorem dJ13_bitCount_95d88_29 : decode cJ13_bitCount_95d88 29 = .ok (.ldc2_w 318, 3) := by decide +kernel
theorem dJ13_bitCount_95d88_32 : decode cJ13_bitCount_95d88 32 = .ok (.land, 1) := by decide +kernel
theorem dJ13_bitCount_95d88_33 : decode cJ13_bitCount_95d88 33 = .ok (.lstore_n 0, 1) := by decide +kernel
theorem dJ13_bitCount_95d88_34 : decode cJ13_bitCount_95d88 34 = .ok (.lload_n 0, 1) := by decide +kernel
theorem dJ13_bitCount_95d88_35 : decode cJ13_bitCount_95d88 35 = .ok (.lload_n 0, 1) := by decide +kernel
theorem dJ13_bitCount_95d88_36 : decode cJ13_bitCount_95d88 36 = .ok (.bipush 8, 2) := by decide +kernel
theorem dJ13_bitCount_95d88_38 : decode cJ13_bitCount_95d88 38 = .ok (.lushr, 1) := by decide +kernel
theorem dJ13_bitCount_95d88_39 : decode cJ13_bitCount_95d88 39 = .ok (.ladd, 1) := by decide +kernel
theorem dJ13_bitCount_95d88_40 : decode cJ13_bitCount_95d88 40 = .ok (.lstore_n 0, 1) := by decide +kernel
theorem dJ13_bitCount_95d88_41 : decode cJ13_bitCount_95d88 41 = .ok (.lload_n 0, 1) := by decide +kernel
theorem dJ13_bitCount_95d88_42 : decode cJ13_bitCount_95d88 42 = .ok (.lload_n 0, 1) := by decide +kernel
theorem dJ13_bitCount_95d88_43 : decode cJ13_bitCount_95d88 43 = .ok (.bipush 16, 2) := by decide +kernel
theorem dJ13_bitCount_95d88_45 : decode cJ13_bitCount_95d88 45 = .ok (.lushr, 1) := by decide +kernel
theorem dJ13_bitCount_95d88_46 : decode cJ13_bitCount_95d88 46 = .ok (.ladd, 1) := by decide +kernel
theorem dJ13_bitCount_95d88_47 : decode cJ13_bitCount_95d88 47 = .ok (.lstore_n 0, 1) := by decide +kernel
theorem dJ13_bitCount_95d88_48 : decode cJ13_bitCount_95d88 48 = .ok (.lload_n 0, 1) := by decide +kernel
theorem dJ13_bitCount_95d88_49 : decode cJ13_bitCount_95d88 49 = .ok (.lload_n 0, 1) := by decide +kernel
theorem dJ13_bitCount_95d88_50 : decode cJ13_bitCount_95d88 50 = .ok (.bipush 32, 2) := by decide +kernel
theorem dJ13_bitCount_95d88_52 : decode cJ13_bitCount_95d88 52 = .ok (.lushr, 1) := by decide +kernel
theorem dJ13_bitCount_95d88_53 : decode cJ13_bitCount_95d88 53 = .ok (.ladd, 1) := by decide +kernel
theorem dJ13_bitCount_95d88_54 : decode cJ13_bitCount_95d88 54 = .ok (.lstore_n 0, 1) := by decide +kernel
theorem dJ13_bitCount_95d88_55 : decode cJ13_bitCount_95d88 55 = .ok (.lload_n 0, 1) := by decide +kernel
theorem dJ13_bitCount_95d88_56 : decode cJ13_bitCount_95d88 56 = .ok (.l2i, 1) := by decide +kernel
theorem dJ13_bitCount_95d88_57 : decode cJ13_bitCount_95d88 57 = .ok (.bipush 127, 2) := by decide +kernel
theorem dJ13_bitCount_95d88_59 : decode cJ13_bitCount_95d88 59 = .ok (.iand, 1) := by decide +kernel
theorem dJ13_bitCount_95d88_60 : decode cJ13_bitCount_95d88 60 = .ok (.ireturn, 1) := by decide +kernel
theorem dJ9_abs_0f7a4_0 : decode cJ9_abs_0f7a4 0 = .ok (.iload_n 0, 1) := by decide +kernel
theorem dJ9_abs_0f7a4_1 : decode cJ9_abs_0f7a4 1 = .ok (.ifCond .ge 8, 3) := by decide +kernel
theorem dJ9_abs_0f7a4_4 : decode cJ9_abs_0f7a4 4 = .ok (.iload_n 0, 1) := by decide +kernel
theorem dJ9_abs_0f7a4_5 : decode cJ9_abs_0f7a4 5 = .ok (.ineg, 1) := by decide +kernel
theorem dJ9_abs_0f7a4_6 : decode cJ9_abs_0f7a4 6 = .ok (.goto 4, 3) := by decide +kernel
theorem dJ9_abs_0f7a4_9 : decode cJ9_abs_0f7a4 9 = .ok (.iload_n 0, 1) := by decide +kernel
theorem dJ9_abs_0f7a4_10 : decode cJ9_abs_0f7a4 10 = .ok (.ireturn, 1) := by decide +kernel
theorem dJ9_max_7cf53_0 : decode cJ9_max_7cf53 0 = .ok (.iload_n 0, 1) := by decide +kernel
theorem dJ9_max_7cf53_1 : decode cJ9_max_7cf53 1 = .ok (.iload_n 1, 1) := by decide +kernel
theorem dJ9_max_7cf53_2 : decode cJ9_max_7cf53 2 = .ok (.if_icmp .lt 7, 3) := by decide +kernel
theorem dJ9_max_7cf53_5 : decode cJ9_max_7cf53 5 = .ok (.iload_n 0, 1) := by decide +kernel
theorem dJ9_max_7cf53_6 : decode cJ9_max_7cf53 6 = .ok (.goto 4, 3) := by decide +kernel
theorem dJ9_max_7cf53_9 : decode cJ9_max_7cf53 9 = .ok (.iload_n 1, 1) := by decide +kernel
theorem dJ9_max_7cf53_10 : decode cJ9_max_7cf53 10 = .ok (.ireturn, 1) := by decide +kernel
theorem dJ9_min_7cf53_0 : decode cJ9_min_7cf53 0 = .ok (.iload_n 0, 1) := by decide +kernel
theorem dJ9_min_7cf53_1 : decode cJ9_min_7cf53 1 = .ok (.iload_n 1, 1) := by decide +kernel
theorem dJ9_min_7cf53_2 : decode cJ9_min_7cf53 2 = .ok (.if_icmp .gt 7, 3) := by decide +kernel
theorem dJ9_min_7cf53_5 : decode cJ9_min_7cf53 5 = .ok (.iload_n 0, 1) := by decide +kernel
theorem dJ9_min_7cf53_6 : decode cJ9_min_7cf53 6 = .ok (.goto 4, 3) := by decide +kernel
theorem dJ9_min_7cf53_9 : decode cJ9_min_7cf53 9 = .ok (.iload_n 1, 1) := by decide +kernel
theorem dJ9_min_7cf53_10 : decode cJ9_min_7cf53 10 = .ok (.ireturn, 1) := by decide +kernel
theorem dJxa1e45_init_da8c8_0 : decode cJxa1e45_init_da8c8 0 = .ok (.aload_n 0, 1) := by decide +kernel
theorem dJxa1e45_init_da8c8_1 : decode cJxa1e45_init_da8c8 1 = .ok (.invokespecial 1, 3) := by decide +kernel
theorem dJxa1e45_init_da8c8_4 : decode cJxa1e45_init_da8c8 4 = .ok (.return_, 1) := by decide +kernel
set_option maxRecDepth 20000 in
theorem ggJxc12de_init_da8c8_Jxa1e45_init_da8c8 : GoodIn wsJxc12de_init_da8c8 wsJxa1e45_init_da8c8 := goodIn_r _ [5, 6, 7, 8] (by decide +kernel) (by decide +kernel)
set_option maxRecDepth 20000 in
theorem gJxc12de_init_da8c8_Jxa1e45_init_da8c8 : GoodIn wsJxc12de_init_da8c8 (wsJxa1e45_init_da8c8) := ggJxc12de_init_da8c8_Jxa1e45_init_da8c8
theorem dJxc12de_init_da8c8_0 : decode cJxc12de_init_da8c8 0 = .ok (.aload_n 0, 1) := by decide +kernel
theorem dJxc12de_init_da8c8_1 : decode cJxc12de_init_da8c8 1 = .ok (.invokespecial 1, 3) := by decide +kernel
theorem dJxc12de_init_da8c8_4 : decode cJxc12de_init_da8c8 4 = .ok (.aload_n 0, 1) := by decide +kernel
theorem dJxc12de_init_da8c8_5 : decode cJxc12de_init_da8c8 5 = .ok (.iconst 0, 1) := by decide +kernel
theorem dJxc12de_init_da8c8_6 : decode cJxc12de_init_da8c8 6 = .ok (.putfield 7, 3) := by decide +kernel
theorem dJxc12de_init_da8c8_9 : decode cJxc12de_init_da8c8 9 = .ok (.return_, 1) := by decide +kernel
set_option maxRecDepth 20000 in
theorem ggJx4a65c_init_da8c8_Jxc12de_init_da8c8 : GoodIn wsJx4a65c_init_da8c8 wsJxc12de_init_da8c8 := goodIn_r _ [6, 7, 8, 9, 10, 11, 12, 13, 14, 15, 16, 17] (by decide +kernel) (by decide +kernel)
set_option maxRecDepth 20000 in
theorem gJx4a65c_init_da8c8_Jxc12de_init_da8c8 : GoodIn wsJx4a65c_init_da8c8 (wsJxc12de_init_da8c8) := ggJx4a65c_init_da8c8_Jxc12de_init_da8c8
theorem dJx4a65c_init_da8c8_0 : decode cJx4a65c_init_da8c8 0 = .ok (.aload_n 0, 1) := by decide +kernel
theorem dJx4a65c_init_da8c8_1 : decode cJx4a65c_init_da8c8 1 = .ok (.invokespecial 1, 3) := by decide +kernel
theorem dJx4a65c_init_da8c8_4 : decode cJx4a65c_init_da8c8 4 = .ok (.aload_n 0, 1) := by decide +kernel
theorem dJx4a65c_init_da8c8_5 : decode cJx4a65c_init_da8c8 5 = .ok (.getstatic 39, 3) := by decide +kernel
theorem dJx4a65c_init_da8c8_8 : decode cJx4a65c_init_da8c8 8 = .ok (.putfield 9, 3) := by decide +kernel
theorem dJx4a65c_init_da8c8_11 : decode cJx4a65c_init_da8c8 11 = .ok (.return_, 1) := by decide +kernel
set_option maxRecDepth 20000 in
theorem ggJx4a65c_grow_92f84_J8_newLength_cabcc : GoodIn wsJx4a65c_grow_92f84 wsJ8_newLength_cabcc := goodIn_r _ [11, 12, 4, 5, 6, 13, 14, 15, 10, 16] (by decide +kernel) (by decide +kernel)
set_option maxRecDepth 20000 in
theorem gJx4a65c_grow_92f84_J8_newLength_cabcc : GoodIn wsJx4a65c_grow_92f84 (va_wsS RJx4a65c 73 yJ8_newLength_cabcc wsJ8_newLength_cabcc) := goodIn_app (goodIn_of _ (by decide +kernel)) ggJx4a65c_grow_92f84_J8_newLength_cabcc
set_option maxRecDepth 20000 in
theorem ggJx4a65c_grow_92f84_J7_copyOf_1904c : GoodIn wsJx4a65c_grow_92f84 wsJ7_copyOf_1904c := goodIn_r _ [20, 21, 22, 23, 24, 25, 26, 19, 27, 28, 29, 30, 31, 5, 32, 33, 34, 35, 36] (by decide +kernel) (by decide +kernel)
set_option maxRecDepth 20000 in
theorem gJx4a65c_grow_92f84_J7_copyOf_1904c : GoodIn wsJx4a65c_grow_92f84 (va_wsS RJx4a65c 66 yJ7_copyOf_1904c wsJ7_copyOf_1904c) := goodIn_app (goodIn_of _ (by decide +kernel)) ggJx4a65c_grow_92f84_J7_copyOf_1904c
theorem dJx4a65c_grow_92f84_0 : decode cJx4a65c_grow_92f84 0 = .ok (.aload_n 0, 1) := by decide +kernel
theorem dJx4a65c_grow_92f84_1 : decode cJx4a65c_grow_92f84 1 = .ok (.getfield 9, 3) := by decide +kernel
theorem dJx4a65c_grow_92f84_4 : decode cJx4a65c_grow_92f84 4 = .ok (.arraylength, 1) := by decide +kernel
theorem dJx4a65c_grow_92f84_5 : decode cJx4a65c_grow_92f84 5 = .ok (.istore_n 2, 1) := by decide +kernel
theorem dJx4a65c_grow_92f84_6 : decode cJx4a65c_grow_92f84 6 = .ok (.iload_n 2, 1) := by decide +kernel
theorem dJx4a65c_grow_92f84_7 : decode cJx4a65c_grow_92f84 7 = .ok (.ifCond .gt 13, 3) := by decide +kernel
theorem dJx4a65c_grow_92f84_10 : decode cJx4a65c_grow_92f84 10 = .ok (.aload_n 0, 1) := by decide +kernel
theorem dJx4a65c_grow_92f84_11 : decode cJx4a65c_grow_92f84 11 = .ok (.getfield 9, 3) := by decide +kernel
theorem dJx4a65c_grow_92f84_14 : decode cJx4a65c_grow_92f84 14 = .ok (.getstatic 39, 3) := by decide +kernel
theorem dJx4a65c_grow_92f84_17 : decode cJx4a65c_grow_92f84 17 = .ok (.if_acmp .eq 28, 3) := by decide +kernel
theorem dJx4a65c_grow_92f84_20 : decode cJx4a65c_grow_92f84 20 = .ok (.iload_n 2, 1) := by decide +kernel
theorem dJx4a65c_grow_92f84_21 : decode cJx4a65c_grow_92f84 21 = .ok (.iload_n 1, 1) := by decide +kernel
theorem dJx4a65c_grow_92f84_22 : decode cJx4a65c_grow_92f84 22 = .ok (.iload_n 2, 1) := by decide +kernel
theorem dJx4a65c_grow_92f84_23 : decode cJx4a65c_grow_92f84 23 = .ok (.isub, 1) := by decide +kernel
theorem dJx4a65c_grow_92f84_24 : decode cJx4a65c_grow_92f84 24 = .ok (.iload_n 2, 1) := by decide +kernel
theorem dJx4a65c_grow_92f84_25 : decode cJx4a65c_grow_92f84 25 = .ok (.iconst 1, 1) := by decide +kernel
theorem dJx4a65c_grow_92f84_26 : decode cJx4a65c_grow_92f84 26 = .ok (.ishr, 1) := by decide +kernel
theorem dJx4a65c_grow_92f84_27 : decode cJx4a65c_grow_92f84 27 = .ok (.invokestatic 73, 3) := by decide +kernel
theorem dJx4a65c_grow_92f84_30 : decode cJx4a65c_grow_92f84 30 = .ok (.istore_n 3, 1) := by decide +kernel
theorem dJx4a65c_grow_92f84_31 : decode cJx4a65c_grow_92f84 31 = .ok (.aload_n 0, 1) := by decide +kernel
theorem dJx4a65c_grow_92f84_32 : decode cJx4a65c_grow_92f84 32 = .ok (.aload_n 0, 1) := by decide +kernel
theorem dJx4a65c_grow_92f84_33 : decode cJx4a65c_grow_92f84 33 = .ok (.getfield 9, 3) := by decide +kernel
theorem dJx4a65c_grow_92f84_36 : decode cJx4a65c_grow_92f84 36 = .ok (.iload_n 3, 1) := by decide +kernel
theorem dJx4a65c_grow_92f84_37 : decode cJx4a65c_grow_92f84 37 = .ok (.invokestatic 66, 3) := by decide +kernel
theorem dJx4a65c_grow_92f84_40 : decode cJx4a65c_grow_92f84 40 = .ok (.dup_x1, 1) := by decide +kernel
theorem dJx4a65c_grow_92f84_41 : decode cJx4a65c_grow_92f84 41 = .ok (.putfield 9, 3) := by decide +kernel
theorem dJx4a65c_grow_92f84_44 : decode cJx4a65c_grow_92f84 44 = .ok (.areturn, 1) := by decide +kernel
theorem dJx4a65c_grow_92f84_45 : decode cJx4a65c_grow_92f84 45 = .ok (.aload_n 0, 1) := by decide +kernel
theorem dJx4a65c_grow_92f84_46 : decode cJx4a65c_grow_92f84 46 = .ok (.bipush 10, 2) := by decide +kernel
theorem dJx4a65c_grow_92f84_48 : decode cJx4a65c_grow_92f84 48 = .ok (.iload_n 1, 1) := by decide +kernel
theorem dJx4a65c_grow_92f84_49 : decode cJx4a65c_grow_92f84 49 = .ok (.invokestatic 79, 3) := by decide +kernel
theorem dJx4a65c_grow_92f84_52 : decode cJx4a65c_grow_92f84 52 = .ok (.anewarray 7, 3) := by decide +kernel
theorem dJx4a65c_grow_92f84_55 : decode cJx4a65c_grow_92f84 55 = .ok (.dup_x1, 1) := by decide +kernel
theorem dJx4a65c_grow_92f84_56 : decode cJx4a65c_grow_92f84 56 = .ok (.putfield 9, 3) := by decide +kernel
theorem dJx4a65c_grow_92f84_59 : decode cJx4a65c_grow_92f84 59 = .ok (.areturn, 1) := by decide +kernel
set_option maxRecDepth 20000 in
theorem ggJx4a65c_grow_d5877_Jx4a65c_grow_92f84 : GoodIn wsJx4a65c_grow_d5877 wsJx4a65c_grow_92f84 := goodIn_r _ [6, 7, 8, 9, 10, 11, 12, 13, 14, 15, 16, 17, 18, 19, 20, 21, 22, 23, 24, 25, 26, 27, 28, 29, 30, 31, 32, 33, 34, 35, 36, 37, 38, 39, 40, 41, 42, 43, 44, 45] (by decide +kernel) (by decide +kernel)
set_option maxRecDepth 20000 in
theorem gJx4a65c_grow_d5877_Jx4a65c_grow_92f84 : GoodIn wsJx4a65c_grow_d5877 (wsV RJx4a65c 69 RJx4a65c yJx4a65c_grow_92f84 wsJx4a65c_grow_92f84) := goodIn_app (goodIn_of _ (by decide +kernel)) ggJx4a65c_grow_d5877_Jx4a65c_grow_92f84
theorem dJx4a65c_grow_d5877_0 : decode cJx4a65c_grow_d5877 0 = .ok (.aload_n 0, 1) := by decide +kernel
theorem dJx4a65c_grow_d5877_1 : decode cJx4a65c_grow_d5877 1 = .ok (.aload_n 0, 1) := by decide +kernel
theorem dJx4a65c_grow_d5877_2 : decode cJx4a65c_grow_d5877 2 = .ok (.getfield 48, 3) := by decide +kernel
theorem dJx4a65c_grow_d5877_5 : decode cJx4a65c_grow_d5877 5 = .ok (.iconst 1, 1) := by decide +kernel
theorem dJx4a65c_grow_d5877_6 : decode cJx4a65c_grow_d5877 6 = .ok (.iadd, 1) := by decide +kernel
theorem dJx4a65c_grow_d5877_7 : decode cJx4a65c_grow_d5877 7 = .ok (.invokevirtual 69, 3) := by decide +kernel
theorem dJx4a65c_grow_d5877_10 : decode cJx4a65c_grow_d5877 10 = .ok (.areturn, 1) := by decide +kernel
theorem dJx4a65c_size_8abf5_0 : decode cJx4a65c_size_8abf5 0 = .ok (.aload_n 0, 1) := by decide +kernel
theorem dJx4a65c_size_8abf5_1 : decode cJx4a65c_size_8abf5 1 = .ok (.getfield 48, 3) := by decide +kernel
theorem dJx4a65c_size_8abf5_4 : decode cJx4a65c_size_8abf5 4 = .ok (.ireturn, 1) := by decide +kernel
theorem dJx4a65c_elementData_915e3_0 : decode cJx4a65c_elementData_915e3 0 = .ok (.aload_n 0, 1) := by decide +kernel
theorem dJx4a65c_elementData_915e3_1 : decode cJx4a65c_elementData_915e3 1 = .ok (.getfield 9, 3) := by decide +kernel
theorem dJx4a65c_elementData_915e3_4 : decode cJx4a65c_elementData_915e3 4 = .ok (.iload_n 1, 1) := by decide +kernel
theorem dJx4a65c_elementData_915e3_5 : decode cJx4a65c_elementData_915e3 5 = .ok (.aaload, 1) := by decide +kernel
theorem dJx4a65c_elementData_915e3_6 : decode cJx4a65c_elementData_915e3 6 = .ok (.areturn, 1) := by decide +kernel
set_option maxRecDepth 20000 in
theorem ggJx4a65c_get_915e3_J15_checkIndex_7cf53 : GoodIn wsJx4a65c_get_915e3 wsJ15_checkIndex_7cf53 := goodIn_r _ [5, 6, 7, 8, 9] (by decide +kernel) (by decide +kernel)
set_option maxRecDepth 20000 in
theorem gJx4a65c_get_915e3_J15_checkIndex_7cf53 : GoodIn wsJx4a65c_get_915e3 (va_wsS RJx4a65c 118 yJ15_checkIndex_7cf53 wsJ15_checkIndex_7cf53) := goodIn_app (goodIn_of _ (by decide +kernel)) ggJx4a65c_get_915e3_J15_checkIndex_7cf53
set_option maxRecDepth 20000 in
theorem ggJx4a65c_get_915e3_Jx4a65c_elementData_915e3 : GoodIn wsJx4a65c_get_915e3 wsJx4a65c_elementData_915e3 := goodIn_r _ [14, 15, 16, 17, 18] (by decide +kernel) (by decide +kernel)
set_option maxRecDepth 20000 in
theorem gJx4a65c_get_915e3_Jx4a65c_elementData_915e3 : GoodIn wsJx4a65c_get_915e3 (wsV RJx4a65c 123 RJx4a65c yJx4a65c_elementData_915e3 wsJx4a65c_elementData_915e3) := goodIn_app (goodIn_of _ (by decide +kernel)) ggJx4a65c_get_915e3_Jx4a65c_elementData_915e3
theorem dJx4a65c_get_915e3_0 : decode cJx4a65c_get_915e3 0 = .ok (.iload_n 1, 1) := by decide +kernel
theorem dJx4a65c_get_915e3_1 : decode cJx4a65c_get_915e3 1 = .ok (.aload_n 0, 1) := by decide +kernel
theorem dJx4a65c_get_915e3_2 : decode cJx4a65c_get_915e3 2 = .ok (.getfield 48, 3) := by decide +kernel
theorem dJx4a65c_get_915e3_5 : decode cJx4a65c_get_915e3 5 = .ok (.invokestatic 118, 3) := by decide +kernel
theorem dJx4a65c_get_915e3_8 : decode cJx4a65c_get_915e3 8 = .ok (.pop, 1) := by decide +kernel
theorem dJx4a65c_get_915e3_9 : decode cJx4a65c_get_915e3 9 = .ok (.aload_n 0, 1) := by decide +kernel
theorem dJx4a65c_get_915e3_10 : decode cJx4a65c_get_915e3 10 = .ok (.iload_n 1, 1) := by decide +kernel
theorem dJx4a65c_get_915e3_11 : decode cJx4a65c_get_915e3 11 = .ok (.invokevirtual 123, 3) := by decide +kernel
theorem dJx4a65c_get_915e3_14 : decode cJx4a65c_get_915e3 14 = .ok (.areturn, 1) := by decide +kernel
set_option maxRecDepth 20000 in
theorem ggJx4a65c_add_72be8_Jx4a65c_grow_d5877 : GoodIn wsJx4a65c_add_72be8 wsJx4a65c_grow_d5877 := goodIn_r _ [6, 1, 7, 8, 9, 5, 10, 11, 12, 13, 14, 15, 16, 17, 18, 19, 20, 21, 22, 23, 24, 25, 26, 27, 28, 29, 30, 31, 32, 33, 34, 35, 36, 37, 38, 39, 40, 41, 42, 43, 44, 45, 46, 47, 48, 49] (by decide +kernel) (by decide +kernel)
set_option maxRecDepth 20000 in
theorem gJx4a65c_add_72be8_Jx4a65c_grow_d5877 : GoodIn wsJx4a65c_add_72be8 (wsV RJx4a65c 129 RJx4a65c yJx4a65c_grow_d5877 wsJx4a65c_grow_d5877) := goodIn_app (goodIn_of _ (by decide +kernel)) ggJx4a65c_add_72be8_Jx4a65c_grow_d5877
theorem dJx4a65c_add_72be8_0 : decode cJx4a65c_add_72be8 0 = .ok (.iload_n 3, 1) := by decide +kernel
theorem dJx4a65c_add_72be8_1 : decode cJx4a65c_add_72be8 1 = .ok (.aload_n 2, 1) := by decide +kernel
theorem dJx4a65c_add_72be8_2 : decode cJx4a65c_add_72be8 2 = .ok (.arraylength, 1) := by decide +kernel
theorem dJx4a65c_add_72be8_3 : decode cJx4a65c_add_72be8 3 = .ok (.if_icmp .ne 8, 3) := by decide +kernel
theorem dJx4a65c_add_72be8_6 : decode cJx4a65c_add_72be8 6 = .ok (.aload_n 0, 1) := by decide +kernel
theorem dJx4a65c_add_72be8_7 : decode cJx4a65c_add_72be8 7 = .ok (.invokevirtual 129, 3) := by decide +kernel
theorem dJx4a65c_add_72be8_10 : decode cJx4a65c_add_72be8 10 = .ok (.astore_n 2, 1) := by decide +kernel
theorem dJx4a65c_add_72be8_11 : decode cJx4a65c_add_72be8 11 = .ok (.aload_n 2, 1) := by decide +kernel
theorem dJx4a65c_add_72be8_12 : decode cJx4a65c_add_72be8 12 = .ok (.iload_n 3, 1) := by decide +kernel
theorem dJx4a65c_add_72be8_13 : decode cJx4a65c_add_72be8 13 = .ok (.aload_n 1, 1) := by decide +kernel
theorem dJx4a65c_add_72be8_14 : decode cJx4a65c_add_72be8 14 = .ok (.aastore, 1) := by decide +kernel
theorem dJx4a65c_add_72be8_15 : decode cJx4a65c_add_72be8 15 = .ok (.aload_n 0, 1) := by decide +kernel
theorem dJx4a65c_add_72be8_16 : decode cJx4a65c_add_72be8 16 = .ok (.iload_n 3, 1) := by decide +kernel
theorem dJx4a65c_add_72be8_17 : decode cJx4a65c_add_72be8 17 = .ok (.iconst 1, 1) := by decide +kernel
theorem dJx4a65c_add_72be8_18 : decode cJx4a65c_add_72be8 18 = .ok (.iadd, 1) := by decide +kernel
theorem dJx4a65c_add_72be8_19 : decode cJx4a65c_add_72be8 19 = .ok (.putfield 48, 3) := by decide +kernel
theorem dJx4a65c_add_72be8_22 : decode cJx4a65c_add_72be8 22 = .ok (.return_, 1) := by decide +kernel
set_option maxRecDepth 20000 in
theorem ggJx4a65c_add_9ea2d_Jx4a65c_add_72be8 : GoodIn wsJx4a65c_add_9ea2d wsJx4a65c_add_72be8 := goodIn_r _ [9, 4, 10, 11, 12, 8, 13, 14, 15, 16, 17, 3, 18, 19, 20, 21, 22, 23, 24, 25, 26, 27, 28, 29, 30, 31, 32, 33, 34, 35, 36, 37, 38, 39, 40, 41, 42, 43, 44, 45, 46, 47, 48, 49, 50, 51, 52, 53, 54, 55] (by decide +kernel) (by decide +kernel)
set_option maxRecDepth 20000 in
theorem gJx4a65c_add_9ea2d_Jx4a65c_add_72be8 : GoodIn wsJx4a65c_add_9ea2d (wsV RJx4a65c 131 RJx4a65c yJx4a65c_add_72be8 wsJx4a65c_add_72be8) := goodIn_app (goodIn_of _ (by decide +kernel)) ggJx4a65c_add_9ea2d_Jx4a65c_add_72be8
theorem dJx4a65c_add_9ea2d_0 : decode cJx4a65c_add_9ea2d 0 = .ok (.aload_n 0, 1) := by decide +kernel
theorem dJx4a65c_add_9ea2d_1 : decode cJx4a65c_add_9ea2d 1 = .ok (.dup, 1) := by decide +kernel
theorem dJx4a65c_add_9ea2d_2 : decode cJx4a65c_add_9ea2d 2 = .ok (.getfield 63, 3) := by decide +kernel
theorem dJx4a65c_add_9ea2d_5 : decode cJx4a65c_add_9ea2d 5 = .ok (.iconst 1, 1) := by decide +kernel
theorem dJx4a65c_add_9ea2d_6 : decode cJx4a65c_add_9ea2d 6 = .ok (.iadd, 1) := by decide +kernel
theorem dJx4a65c_add_9ea2d_7 : decode cJx4a65c_add_9ea2d 7 = .ok (.putfield 63, 3) := by decide +kernel
theorem dJx4a65c_add_9ea2d_10 : decode cJx4a65c_add_9ea2d 10 = .ok (.aload_n 0, 1) := by decide +kernel
theorem dJx4a65c_add_9ea2d_11 : decode cJx4a65c_add_9ea2d 11 = .ok (.aload_n 1, 1) := by decide +kernel
theorem dJx4a65c_add_9ea2d_12 : decode cJx4a65c_add_9ea2d 12 = .ok (.aload_n 0, 1) := by decide +kernel
theorem dJx4a65c_add_9ea2d_13 : decode cJx4a65c_add_9ea2d 13 = .ok (.getfield 9, 3) := by decide +kernel
theorem dJx4a65c_add_9ea2d_16 : decode cJx4a65c_add_9ea2d 16 = .ok (.aload_n 0, 1) := by decide +kernel
theorem dJx4a65c_add_9ea2d_17 : decode cJx4a65c_add_9ea2d 17 = .ok (.getfield 48, 3) := by decide +kernel
theorem dJx4a65c_add_9ea2d_20 : decode cJx4a65c_add_9ea2d 20 = .ok (.invokevirtual 131, 3) := by decide +kernel
theorem dJx4a65c_add_9ea2d_23 : decode cJx4a65c_add_9ea2d 23 = .ok (.iconst 1, 1) := by decide +kernel
theorem dJx4a65c_add_9ea2d_24 : decode cJx4a65c_add_9ea2d 24 = .ok (.ireturn, 1) := by decide +kernel
theorem dJx4a65c_clear_da8c8_0 : decode cJx4a65c_clear_da8c8 0 = .ok (.aload_n 0, 1) := by decide +kernel
theorem dJx4a65c_clear_da8c8_1 : decode cJx4a65c_clear_da8c8 1 = .ok (.dup, 1) := by decide +kernel
theorem dJx4a65c_clear_da8c8_2 : decode cJx4a65c_clear_da8c8 2 = .ok (.getfield 63, 3) := by decide +kernel
theorem dJx4a65c_clear_da8c8_5 : decode cJx4a65c_clear_da8c8 5 = .ok (.iconst 1, 1) := by decide +kernel
theorem dJx4a65c_clear_da8c8_6 : decode cJx4a65c_clear_da8c8 6 = .ok (.iadd, 1) := by decide +kernel
theorem dJx4a65c_clear_da8c8_7 : decode cJx4a65c_clear_da8c8 7 = .ok (.putfield 63, 3) := by decide +kernel
theorem dJx4a65c_clear_da8c8_10 : decode cJx4a65c_clear_da8c8 10 = .ok (.aload_n 0, 1) := by decide +kernel
theorem dJx4a65c_clear_da8c8_11 : decode cJx4a65c_clear_da8c8 11 = .ok (.getfield 9, 3) := by decide +kernel
theorem dJx4a65c_clear_da8c8_14 : decode cJx4a65c_clear_da8c8 14 = .ok (.astore_n 1, 1) := by decide +kernel
theorem dJx4a65c_clear_da8c8_15 : decode cJx4a65c_clear_da8c8 15 = .ok (.aload_n 0, 1) := by decide +kernel
theorem dJx4a65c_clear_da8c8_16 : decode cJx4a65c_clear_da8c8 16 = .ok (.getfield 48, 3) := by decide +kernel
theorem dJx4a65c_clear_da8c8_19 : decode cJx4a65c_clear_da8c8 19 = .ok (.istore_n 2, 1) := by decide +kernel
theorem dJx4a65c_clear_da8c8_20 : decode cJx4a65c_clear_da8c8 20 = .ok (.aload_n 0, 1) := by decide +kernel
theorem dJx4a65c_clear_da8c8_21 : decode cJx4a65c_clear_da8c8 21 = .ok (.iconst 0, 1) := by decide +kernel
theorem dJx4a65c_clear_da8c8_22 : decode cJx4a65c_clear_da8c8 22 = .ok (.dup_x1, 1) := by decide +kernel
theorem dJx4a65c_clear_da8c8_23 : decode cJx4a65c_clear_da8c8 23 = .ok (.putfield 48, 3) := by decide +kernel
theorem dJx4a65c_clear_da8c8_26 : decode cJx4a65c_clear_da8c8 26 = .ok (.istore_n 3, 1) := by decide +kernel
theorem dJx4a65c_clear_da8c8_27 : decode cJx4a65c_clear_da8c8 27 = .ok (.iload_n 3, 1) := by decide +kernel
theorem dJx4a65c_clear_da8c8_28 : decode cJx4a65c_clear_da8c8 28 = .ok (.iload_n 2, 1) := by decide +kernel
theorem dJx4a65c_clear_da8c8_29 : decode cJx4a65c_clear_da8c8 29 = .ok (.if_icmp .ge 13, 3) := by decide +kernel
theorem dJx4a65c_clear_da8c8_32 : decode cJx4a65c_clear_da8c8 32 = .ok (.aload_n 1, 1) := by decide +kernel
theorem dJx4a65c_clear_da8c8_33 : decode cJx4a65c_clear_da8c8 33 = .ok (.iload_n 3, 1) := by decide +kernel
theorem dJx4a65c_clear_da8c8_34 : decode cJx4a65c_clear_da8c8 34 = .ok (.aconst_null, 1) := by decide +kernel
theorem dJx4a65c_clear_da8c8_35 : decode cJx4a65c_clear_da8c8 35 = .ok (.aastore, 1) := by decide +kernel
theorem dJx4a65c_clear_da8c8_36 : decode cJx4a65c_clear_da8c8 36 = .ok (.iinc 3 1, 3) := by decide +kernel
theorem dJx4a65c_clear_da8c8_39 : decode cJx4a65c_clear_da8c8 39 = .ok (.goto (-12), 3) := by decide +kernel
theorem dJx4a65c_clear_da8c8_42 : decode cJx4a65c_clear_da8c8 42 = .ok (.return_, 1) := by decide +kernel
set_option maxRecDepth 20000 in
theorem ggJ7_copyOf_1904c_J7_copyOf_6403c : GoodIn wsJ7_copyOf_1904c wsJ7_copyOf_6403c := goodIn_r _ [8, 9, 10, 11, 12, 13, 14, 15, 16, 17, 18] (by decide +kernel) (by decide +kernel)
set_option maxRecDepth 20000 in
theorem gJ7_copyOf_1904c_J7_copyOf_6403c : GoodIn wsJ7_copyOf_1904c (va_wsS RJ7 300 yJ7_copyOf_6403c wsJ7_copyOf_6403c) := goodIn_app (goodIn_of _ (by decide +kernel)) ggJ7_copyOf_1904c_J7_copyOf_6403c
theorem dJ7_copyOf_1904c_0 : decode cJ7_copyOf_1904c 0 = .ok (.aload_n 0, 1) := by decide +kernel
theorem dJ7_copyOf_1904c_1 : decode cJ7_copyOf_1904c 1 = .ok (.iload_n 1, 1) := by decide +kernel
theorem dJ7_copyOf_1904c_2 : decode cJ7_copyOf_1904c 2 = .ok (.aload_n 0, 1) := by decide +kernel
theorem dJ7_copyOf_1904c_3 : decode cJ7_copyOf_1904c 3 = .ok (.invokevirtual 86, 3) := by decide +kernel
theorem dJ7_copyOf_1904c_6 : decode cJ7_copyOf_1904c 6 = .ok (.invokestatic 300, 3) := by decide +kernel
theorem dJ7_copyOf_1904c_9 : decode cJ7_copyOf_1904c 9 = .ok (.areturn, 1) := by decide +kernel
theorem dJ7_copyOf_6403c_0 : decode cJ7_copyOf_6403c 0 = .ok (.aload_n 2, 1) := by decide +kernel
theorem dJ7_copyOf_6403c_1 : decode cJ7_copyOf_6403c 1 = .ok (.ldc 110, 2) := by decide +kernel
theorem dJ7_copyOf_6403c_3 : decode cJ7_copyOf_6403c 3 = .ok (.if_acmp .ne 10, 3) := by decide +kernel
theorem dJ7_copyOf_6403c_6 : decode cJ7_copyOf_6403c 6 = .ok (.iload_n 1, 1) := by decide +kernel
theorem dJ7_copyOf_6403c_7 : decode cJ7_copyOf_6403c 7 = .ok (.anewarray 2, 3) := by decide +kernel
theorem dJ7_copyOf_6403c_10 : decode cJ7_copyOf_6403c 10 = .ok (.goto 14, 3) := by decide +kernel
theorem dJ7_copyOf_6403c_13 : decode cJ7_copyOf_6403c 13 = .ok (.aload_n 2, 1) := by decide +kernel
theorem dJ7_copyOf_6403c_14 : decode cJ7_copyOf_6403c 14 = .ok (.invokevirtual 90, 3) := by decide +kernel
theorem dJ7_copyOf_6403c_17 : decode cJ7_copyOf_6403c 17 = .ok (.iload_n 1, 1) := by decide +kernel
theorem dJ7_copyOf_6403c_18 : decode cJ7_copyOf_6403c 18 = .ok (.invokestatic 95, 3) := by decide +kernel
theorem dJ7_copyOf_6403c_21 : decode cJ7_copyOf_6403c 21 = .ok (.checkcast 110, 3) := by decide +kernel
theorem dJ7_copyOf_6403c_24 : decode cJ7_copyOf_6403c 24 = .ok (.astore_n 3, 1) := by decide +kernel
theorem dJ7_copyOf_6403c_25 : decode cJ7_copyOf_6403c 25 = .ok (.aload_n 0, 1) := by decide +kernel
theorem dJ7_copyOf_6403c_26 : decode cJ7_copyOf_6403c 26 = .ok (.iconst 0, 1) := by decide +kernel
theorem dJ7_copyOf_6403c_27 : decode cJ7_copyOf_6403c 27 = .ok (.aload_n 3, 1) := by decide +kernel
theorem dJ7_copyOf_6403c_28 : decode cJ7_copyOf_6403c 28 = .ok (.iconst 0, 1) := by decide +kernel
theorem dJ7_copyOf_6403c_29 : decode cJ7_copyOf_6403c 29 = .ok (.aload_n 0, 1) := by decide +kernel
theorem dJ7_copyOf_6403c_30 : decode cJ7_copyOf_6403c 30 = .ok (.arraylength, 1) := by decide +kernel
theorem dJ7_copyOf_6403c_31 : decode cJ7_copyOf_6403c 31 = .ok (.iload_n 1, 1) := by decide +kernel
theorem dJ7_copyOf_6403c_32 : decode cJ7_copyOf_6403c 32 = .ok (.invokestatic 304, 3) := by decide +kernel
theorem dJ7_copyOf_6403c_35 : decode cJ7_copyOf_6403c 35 = .ok (.invokestatic 150, 3) := by decide +kernel
theorem dJ7_copyOf_6403c_38 : decode cJ7_copyOf_6403c 38 = .ok (.aload_n 3, 1) := by decide +kernel
theorem dJ7_copyOf_6403c_39 : decode cJ7_copyOf_6403c 39 = .ok (.areturn, 1) := by decide +kernel
set_option maxRecDepth 20000 in
theorem ggJ15_checkIndex_7cf53_J3_checkIndex_8e157 : GoodIn wsJ15_checkIndex_7cf53 wsJ3_checkIndex_8e157 := goodIn_r _ [4] (by decide +kernel) (by decide +kernel)
set_option maxRecDepth 20000 in
theorem gJ15_checkIndex_7cf53_J3_checkIndex_8e157 : GoodIn wsJ15_checkIndex_7cf53 (va_wsS RJ15 105 yJ3_checkIndex_8e157 wsJ3_checkIndex_8e157) := goodIn_app (goodIn_of _ (by decide +kernel)) ggJ15_checkIndex_7cf53_J3_checkIndex_8e157
theorem dJ15_checkIndex_7cf53_0 : decode cJ15_checkIndex_7cf53 0 = .ok (.iload_n 0, 1) := by decide +kernel
theorem dJ15_checkIndex_7cf53_1 : decode cJ15_checkIndex_7cf53 1 = .ok (.iload_n 1, 1) := by decide +kernel
theorem dJ15_checkIndex_7cf53_2 : decode cJ15_checkIndex_7cf53 2 = .ok (.aconst_null, 1) := by decide +kernel
theorem dJ15_checkIndex_7cf53_3 : decode cJ15_checkIndex_7cf53 3 = .ok (.invokestatic 105, 3) := by decide +kernel
theorem dJ15_checkIndex_7cf53_6 : decode cJ15_checkIndex_7cf53 6 = .ok (.ireturn, 1) := by decide +kernel
set_option maxRecDepth 20000 in
theorem ggJ8_newLength_cabcc_J8_hugeLength_7cf53 : GoodIn wsJ8_newLength_cabcc wsJ8_hugeLength_7cf53 := goodIn_r _ [9, 5] (by decide +kernel) (by decide +kernel)
set_option maxRecDepth 20000 in
theorem gJ8_newLength_cabcc_J8_hugeLength_7cf53 : GoodIn wsJ8_newLength_cabcc (va_wsS RJ8 201 yJ8_hugeLength_7cf53 wsJ8_hugeLength_7cf53) := goodIn_app (goodIn_of _ (by decide +kernel)) ggJ8_newLength_cabcc_J8_hugeLength_7cf53
theorem dJ8_newLength_cabcc_0 : decode cJ8_newLength_cabcc 0 = .ok (.iload_n 0, 1) := by decide +kernel
theorem dJ8_newLength_cabcc_1 : decode cJ8_newLength_cabcc 1 = .ok (.iload_n 1, 1) := by decide +kernel
theorem dJ8_newLength_cabcc_2 : decode cJ8_newLength_cabcc 2 = .ok (.iload_n 2, 1) := by decide +kernel
theorem dJ8_newLength_cabcc_3 : decode cJ8_newLength_cabcc 3 = .ok (.invokestatic 194, 3) := by decide +kernel
theorem dJ8_newLength_cabcc_6 : decode cJ8_newLength_cabcc 6 = .ok (.iadd, 1) := by decide +kernel
theorem dJ8_newLength_cabcc_7 : decode cJ8_newLength_cabcc 7 = .ok (.istore_n 3, 1) := by decide +kernel
theorem dJ8_newLength_cabcc_8 : decode cJ8_newLength_cabcc 8 = .ok (.iconst 0, 1) := by decide +kernel
theorem dJ8_newLength_cabcc_9 : decode cJ8_newLength_cabcc 9 = .ok (.iload_n 3, 1) := by decide +kernel
theorem dJ8_newLength_cabcc_10 : decode cJ8_newLength_cabcc 10 = .ok (.if_icmp .ge 11, 3) := by decide +kernel
theorem dJ8_newLength_cabcc_13 : decode cJ8_newLength_cabcc 13 = .ok (.iload_n 3, 1) := by decide +kernel
theorem dJ8_newLength_cabcc_14 : decode cJ8_newLength_cabcc 14 = .ok (.ldc 200, 2) := by decide +kernel
theorem dJ8_newLength_cabcc_16 : decode cJ8_newLength_cabcc 16 = .ok (.if_icmp .gt 5, 3) := by decide +kernel
theorem dJ8_newLength_cabcc_19 : decode cJ8_newLength_cabcc 19 = .ok (.iload_n 3, 1) := by decide +kernel
theorem dJ8_newLength_cabcc_20 : decode cJ8_newLength_cabcc 20 = .ok (.ireturn, 1) := by decide +kernel
theorem dJ8_newLength_cabcc_21 : decode cJ8_newLength_cabcc 21 = .ok (.iload_n 0, 1) := by decide +kernel
theorem dJ8_newLength_cabcc_22 : decode cJ8_newLength_cabcc 22 = .ok (.iload_n 1, 1) := by decide +kernel
theorem dJ8_newLength_cabcc_23 : decode cJ8_newLength_cabcc 23 = .ok (.invokestatic 201, 3) := by decide +kernel
theorem dJ8_newLength_cabcc_26 : decode cJ8_newLength_cabcc 26 = .ok (.ireturn, 1) := by decide +kernel
theorem dJ8_hugeLength_7cf53_0 : decode cJ8_hugeLength_7cf53 0 = .ok (.iload_n 0, 1) := by decide +kernel
theorem dJ8_hugeLength_7cf53_1 : decode cJ8_hugeLength_7cf53 1 = .ok (.iload_n 1, 1) := by decide +kernel
theorem dJ8_hugeLength_7cf53_2 : decode cJ8_hugeLength_7cf53 2 = .ok (.iadd, 1) := by decide +kernel
theorem dJ8_hugeLength_7cf53_3 : decode cJ8_hugeLength_7cf53 3 = .ok (.istore_n 2, 1) := by decide +kernel
theorem dJ8_hugeLength_7cf53_4 : decode cJ8_hugeLength_7cf53 4 = .ok (.iload_n 2, 1) := by decide +kernel
theorem dJ8_hugeLength_7cf53_5 : decode cJ8_hugeLength_7cf53 5 = .ok (.ifCond .ge 44, 3) := by decide +kernel
theorem dJ8_hugeLength_7cf53_8 : decode cJ8_hugeLength_7cf53 8 = .ok (.new 204, 3) := by decide +kernel
theorem dJ8_hugeLength_7cf53_11 : decode cJ8_hugeLength_7cf53 11 = .ok (.dup, 1) := by decide +kernel
theorem dJ8_hugeLength_7cf53_12 : decode cJ8_hugeLength_7cf53 12 = .ok (.new 89, 3) := by decide +kernel
theorem dJ8_hugeLength_7cf53_15 : decode cJ8_hugeLength_7cf53 15 = .ok (.dup, 1) := by decide +kernel
theorem dJ8_hugeLength_7cf53_16 : decode cJ8_hugeLength_7cf53 16 = .ok (.invokespecial 91, 3) := by decide +kernel
theorem dJ8_hugeLength_7cf53_19 : decode cJ8_hugeLength_7cf53 19 = .ok (.ldc 206, 2) := by decide +kernel
theorem dJ8_hugeLength_7cf53_21 : decode cJ8_hugeLength_7cf53 21 = .ok (.invokevirtual 94, 3) := by decide +kernel
theorem dJ8_hugeLength_7cf53_24 : decode cJ8_hugeLength_7cf53 24 = .ok (.iload_n 0, 1) := by decide +kernel
theorem dJ8_hugeLength_7cf53_25 : decode cJ8_hugeLength_7cf53 25 = .ok (.invokevirtual 98, 3) := by decide +kernel
theorem dJ8_hugeLength_7cf53_28 : decode cJ8_hugeLength_7cf53 28 = .ok (.ldc 208, 2) := by decide +kernel
theorem dJ8_hugeLength_7cf53_30 : decode cJ8_hugeLength_7cf53 30 = .ok (.invokevirtual 94, 3) := by decide +kernel
theorem dJ8_hugeLength_7cf53_33 : decode cJ8_hugeLength_7cf53 33 = .ok (.iload_n 1, 1) := by decide +kernel
theorem dJ8_hugeLength_7cf53_34 : decode cJ8_hugeLength_7cf53 34 = .ok (.invokevirtual 98, 3) := by decide +kernel
theorem dJ8_hugeLength_7cf53_37 : decode cJ8_hugeLength_7cf53 37 = .ok (.ldc 210, 2) := by decide +kernel
theorem dJ8_hugeLength_7cf53_39 : decode cJ8_hugeLength_7cf53 39 = .ok (.invokevirtual 94, 3) := by decide +kernel
theorem dJ8_hugeLength_7cf53_42 : decode cJ8_hugeLength_7cf53 42 = .ok (.invokevirtual 101, 3) := by decide +kernel
theorem dJ8_hugeLength_7cf53_45 : decode cJ8_hugeLength_7cf53 45 = .ok (.invokespecial 212, 3) := by decide +kernel
theorem dJ8_hugeLength_7cf53_48 : decode cJ8_hugeLength_7cf53 48 = .ok (.athrow, 1) := by decide +kernel
theorem dJ8_hugeLength_7cf53_49 : decode cJ8_hugeLength_7cf53 49 = .ok (.iload_n 2, 1) := by decide +kernel
theorem dJ8_hugeLength_7cf53_50 : decode cJ8_hugeLength_7cf53 50 = .ok (.ldc 200, 2) := by decide +kernel
theorem dJ8_hugeLength_7cf53_52 : decode cJ8_hugeLength_7cf53 52 = .ok (.if_icmp .gt 6, 3) := by decide +kernel
theorem dJ8_hugeLength_7cf53_55 : decode cJ8_hugeLength_7cf53 55 = .ok (.ldc 200, 2) := by decide +kernel
theorem dJ8_hugeLength_7cf53_57 : decode cJ8_hugeLength_7cf53 57 = .ok (.ireturn, 1) := by decide +kernel
theorem dJ8_hugeLength_7cf53_58 : decode cJ8_hugeLength_7cf53 58 = .ok (.iload_n 2, 1) := by decide +kernel
theorem dJ8_hugeLength_7cf53_59 : decode cJ8_hugeLength_7cf53 59 = .ok (.ireturn, 1) := by decide +kernel
theorem dJ3_checkIndex_8e157_0 : decode cJ3_checkIndex_8e157 0 = .ok (.iload_n 0, 1) := by decide +kernel
theorem dJ3_checkIndex_8e157_1 : decode cJ3_checkIndex_8e157 1 = .ok (.ifCond .lt 8, 3) := by decide +kernel
theorem dJ3_checkIndex_8e157_4 : decode cJ3_checkIndex_8e157 4 = .ok (.iload_n 0, 1) := by decide +kernel
theorem dJ3_checkIndex_8e157_5 : decode cJ3_checkIndex_8e157 5 = .ok (.iload_n 1, 1) := by decide +kernel
theorem dJ3_checkIndex_8e157_6 : decode cJ3_checkIndex_8e157 6 = .ok (.if_icmp .lt 10, 3) := by decide +kernel
theorem dJ3_checkIndex_8e157_9 : decode cJ3_checkIndex_8e157 9 = .ok (.aload_n 2, 1) := by decide +kernel
theorem dJ3_checkIndex_8e157_10 : decode cJ3_checkIndex_8e157 10 = .ok (.iload_n 0, 1) := by decide +kernel
theorem dJ3_checkIndex_8e157_11 : decode cJ3_checkIndex_8e157 11 = .ok (.iload_n 1, 1) := by decide +kernel
theorem dJ3_checkIndex_8e157_12 : decode cJ3_checkIndex_8e157 12 = .ok (.invokestatic 95, 3) := by decide +kernel
theorem dJ3_checkIndex_8e157_15 : decode cJ3_checkIndex_8e157 15 = .ok (.athrow, 1) := by decide +kernel
theorem dJ3_checkIndex_8e157_16 : decode cJ3_checkIndex_8e157 16 = .ok (.iload_n 0, 1) := by decide +kernel
theorem dJ3_checkIndex_8e157_17 : decode cJ3_checkIndex_8e157 17 = .ok (.ireturn, 1) := by decide +kernel
abbrev vwCl : List vw_C := [(RJx4a65c, TJx4a65c, 3), (RX0, TX0, 2), (RX1, TX1, 5), (RX2, TX2, 1), (RX3, TX3, 2), (RX4, TX4, 4), (RX5, TX5, 2), (RX6, TX6, 9), (RX7, TX7, 2), (RX8, TX8, 10), (RX9, TX9, 29)]
