theorem dX8_hire_32 : decode cX8_hire 32 = .ok (.getfield 186, 3) := by decide +kernel
theorem dX8_hire_35 : decode cX8_hire 35 = .ok (.istore_n 3, 1) := by decide +kernel
theorem dX8_hire_36 : decode cX8_hire 36 = .ok (.iload_n 3, 1) := by decide +kernel
theorem dX8_hire_37 : decode cX8_hire 37 = .ok (.ifCond .eq 13, 3) := by decide +kernel
theorem dX8_hire_40 : decode cX8_hire 40 = .ok (.iload_n 2, 1) := by decide +kernel
theorem dX8_hire_41 : decode cX8_hire 41 = .ok (.iload_n 3, 1) := by decide +kernel
theorem dX8_hire_42 : decode cX8_hire 42 = .ok (.imul, 1) := by decide +kernel
theorem dX8_hire_43 : decode cX8_hire 43 = .ok (.aload_n 0, 1) := by decide +kernel
theorem dX8_hire_44 : decode cX8_hire 44 = .ok (.getfield 55, 3) := by decide +kernel
theorem dX8_hire_47 : decode cX8_hire 47 = .ok (.if_icmp .le 5, 3) := by decide +kernel
theorem dX8_hire_50 : decode cX8_hire 50 = .ok (.iconst (-1), 1) := by decide +kernel
theorem dX8_hire_51 : decode cX8_hire 51 = .ok (.ireturn, 1) := by decide +kernel
theorem dX8_hire_52 : decode cX8_hire 52 = .ok (.aload_n 0, 1) := by decide +kernel
theorem dX8_hire_53 : decode cX8_hire 53 = .ok (.dup, 1) := by decide +kernel
theorem dX8_hire_54 : decode cX8_hire 54 = .ok (.getfield 55, 3) := by decide +kernel
theorem dX8_hire_57 : decode cX8_hire 57 = .ok (.iload_n 2, 1) := by decide +kernel
theorem dX8_hire_58 : decode cX8_hire 58 = .ok (.iload_n 3, 1) := by decide +kernel
theorem dX8_hire_59 : decode cX8_hire 59 = .ok (.imul, 1) := by decide +kernel
theorem dX8_hire_60 : decode cX8_hire 60 = .ok (.isub, 1) := by decide +kernel
theorem dX8_hire_61 : decode cX8_hire 61 = .ok (.putfield 55, 3) := by decide +kernel
theorem dX8_hire_64 : decode cX8_hire 64 = .ok (.aload_n 0, 1) := by decide +kernel
theorem dX8_hire_65 : decode cX8_hire 65 = .ok (.getfield 17, 3) := by decide +kernel
theorem dX8_hire_68 : decode cX8_hire 68 = .ok (.iload_n 1, 1) := by decide +kernel
theorem dX8_hire_69 : decode cX8_hire 69 = .ok (.aaload, 1) := by decide +kernel
theorem dX8_hire_70 : decode cX8_hire 70 = .ok (.iload_n 2, 1) := by decide +kernel
theorem dX8_hire_71 : decode cX8_hire 71 = .ok (.invokevirtual 175, 3) := by decide +kernel
theorem dX8_hire_74 : decode cX8_hire 74 = .ok (.aload_n 0, 1) := by decide +kernel
theorem dX8_hire_75 : decode cX8_hire 75 = .ok (.dup, 1) := by decide +kernel
theorem dX8_hire_76 : decode cX8_hire 76 = .ok (.getfield 67, 3) := by decide +kernel
theorem dX8_hire_79 : decode cX8_hire 79 = .ok (.iload_n 2, 1) := by decide +kernel
theorem dX8_hire_80 : decode cX8_hire 80 = .ok (.iadd, 1) := by decide +kernel
theorem dX8_hire_81 : decode cX8_hire 81 = .ok (.putfield 67, 3) := by decide +kernel
theorem dX8_hire_84 : decode cX8_hire 84 = .ok (.aload_n 0, 1) := by decide +kernel
theorem dX8_hire_85 : decode cX8_hire 85 = .ok (.getfield 55, 3) := by decide +kernel
theorem dX8_hire_88 : decode cX8_hire 88 = .ok (.ireturn, 1) := by decide +kernel
set_option maxRecDepth 20000 in
theorem ggX8_river_X8_isWithin : GoodIn wsX8_river wsX8_isWithin := goodIn_r _ [6] (by decide +kernel) (by decide +kernel)
set_option maxRecDepth 20000 in
theorem gX8_river_X8_isWithin : GoodIn wsX8_river (va_wsS RX8 76 yX8_isWithin wsX8_isWithin) := goodIn_app (goodIn_of _ (by decide +kernel)) ggX8_river_X8_isWithin
theorem dX8_river_0 : decode cX8_river 0 = .ok (.iload_n 1, 1) := by decide +kernel
theorem dX8_river_1 : decode cX8_river 1 = .ok (.aload_n 0, 1) := by decide +kernel
theorem dX8_river_2 : decode cX8_river 2 = .ok (.getfield 45, 3) := by decide +kernel
theorem dX8_river_5 : decode cX8_river 5 = .ok (.if_icmp .lt 25, 3) := by decide +kernel
theorem dX8_river_8 : decode cX8_river 8 = .ok (.iload_n 2, 1) := by decide +kernel
theorem dX8_river_9 : decode cX8_river 9 = .ok (.iload_n 1, 1) := by decide +kernel
theorem dX8_river_10 : decode cX8_river 10 = .ok (.if_icmp .lt 20, 3) := by decide +kernel
theorem dX8_river_13 : decode cX8_river 13 = .ok (.iload_n 2, 1) := by decide +kernel
theorem dX8_river_14 : decode cX8_river 14 = .ok (.sipush 1040, 3) := by decide +kernel
theorem dX8_river_17 : decode cX8_river 17 = .ok (.if_icmp .ge 13, 3) := by decide +kernel
theorem dX8_river_20 : decode cX8_river 20 = .ok (.iload_n 3, 1) := by decide +kernel
theorem dX8_river_21 : decode cX8_river 21 = .ok (.sipush 3000, 3) := by decide +kernel
theorem dX8_river_24 : decode cX8_river 24 = .ok (.invokestatic 76, 3) := by decide +kernel
theorem dX8_river_27 : decode cX8_river 27 = .ok (.ifCond .ne 5, 3) := by decide +kernel
theorem dX8_river_30 : decode cX8_river 30 = .ok (.iconst 0, 1) := by decide +kernel
theorem dX8_river_31 : decode cX8_river 31 = .ok (.ireturn, 1) := by decide +kernel
theorem dX8_river_32 : decode cX8_river 32 = .ok (.iload_n 1, 1) := by decide +kernel
theorem dX8_river_33 : decode cX8_river 33 = .ok (.istore 4, 2) := by decide +kernel
theorem dX8_river_35 : decode cX8_river 35 = .ok (.iload 4, 2) := by decide +kernel
theorem dX8_river_37 : decode cX8_river 37 = .ok (.iload_n 2, 1) := by decide +kernel
theorem dX8_river_38 : decode cX8_river 38 = .ok (.if_icmp .gt 17, 3) := by decide +kernel
theorem dX8_river_41 : decode cX8_river 41 = .ok (.aload_n 0, 1) := by decide +kernel
theorem dX8_river_42 : decode cX8_river 42 = .ok (.getfield 41, 3) := by decide +kernel
theorem dX8_river_45 : decode cX8_river 45 = .ok (.iload 4, 2) := by decide +kernel
theorem dX8_river_47 : decode cX8_river 47 = .ok (.iload_n 3, 1) := by decide +kernel
theorem dX8_river_48 : decode cX8_river 48 = .ok (.iastore, 1) := by decide +kernel
theorem dX8_river_49 : decode cX8_river 49 = .ok (.iinc 4 1, 3) := by decide +kernel
theorem dX8_river_52 : decode cX8_river 52 = .ok (.goto (-17), 3) := by decide +kernel
theorem dX8_river_55 : decode cX8_river 55 = .ok (.iconst 1, 1) := by decide +kernel
theorem dX8_river_56 : decode cX8_river 56 = .ok (.ireturn, 1) := by decide +kernel
set_option maxRecDepth 20000 in
theorem ggX8_go_X8_isWithin : GoodIn wsX8_go wsX8_isWithin := goodIn_r _ [6] (by decide +kernel) (by decide +kernel)
set_option maxRecDepth 20000 in
theorem gX8_go_X8_isWithin : GoodIn wsX8_go (va_wsS RX8 76 yX8_isWithin wsX8_isWithin) := goodIn_app (goodIn_of _ (by decide +kernel)) ggX8_go_X8_isWithin
set_option maxRecDepth 20000 in
theorem ggX8_go_X8_endWeek : GoodIn wsX8_go wsX8_endWeek := goodIn_r _ [10, 11, 12, 13, 14, 15, 16, 17, 18, 19, 20, 21, 22, 23, 24, 25, 26, 27, 28, 29, 30, 31, 32, 33, 34, 35, 36, 37, 38, 39] (by decide +kernel) (by decide +kernel)
set_option maxRecDepth 20000 in
theorem gX8_go_X8_endWeek : GoodIn wsX8_go (wsV RX8 189 RX8 yX8_endWeek wsX8_endWeek) := goodIn_app (goodIn_of _ (by decide +kernel)) ggX8_go_X8_endWeek
theorem dX8_go_0 : decode cX8_go 0 = .ok (.iload_n 1, 1) := by decide +kernel
theorem dX8_go_1 : decode cX8_go 1 = .ok (.bipush 104, 2) := by decide +kernel
theorem dX8_go_3 : decode cX8_go 3 = .ok (.invokestatic 76, 3) := by decide +kernel
theorem dX8_go_6 : decode cX8_go 6 = .ok (.ifCond .ne 5, 3) := by decide +kernel
theorem dX8_go_9 : decode cX8_go 9 = .ok (.iconst (-1), 1) := by decide +kernel
theorem dX8_go_10 : decode cX8_go 10 = .ok (.ireturn, 1) := by decide +kernel
theorem dX8_go_11 : decode cX8_go 11 = .ok (.iconst 0, 1) := by decide +kernel
theorem dX8_go_12 : decode cX8_go 12 = .ok (.istore_n 2, 1) := by decide +kernel
theorem dX8_go_13 : decode cX8_go 13 = .ok (.iload_n 2, 1) := by decide +kernel
theorem dX8_go_14 : decode cX8_go 14 = .ok (.iload_n 1, 1) := by decide +kernel
theorem dX8_go_15 : decode cX8_go 15 = .ok (.if_icmp .ge 42, 3) := by decide +kernel
theorem dX8_go_18 : decode cX8_go 18 = .ok (.aload_n 0, 1) := by decide +kernel
theorem dX8_go_19 : decode cX8_go 19 = .ok (.getfield 45, 3) := by decide +kernel
theorem dX8_go_22 : decode cX8_go 22 = .ok (.sipush 1040, 3) := by decide +kernel
theorem dX8_go_25 : decode cX8_go 25 = .ok (.if_icmp .ge 32, 3) := by decide +kernel
theorem dX8_go_28 : decode cX8_go 28 = .ok (.aload_n 0, 1) := by decide +kernel
theorem dX8_go_29 : decode cX8_go 29 = .ok (.aload_n 0, 1) := by decide +kernel
theorem dX8_go_30 : decode cX8_go 30 = .ok (.getfield 41, 3) := by decide +kernel
theorem dX8_go_33 : decode cX8_go 33 = .ok (.aload_n 0, 1) := by decide +kernel
theorem dX8_go_34 : decode cX8_go 34 = .ok (.getfield 45, 3) := by decide +kernel
theorem dX8_go_37 : decode cX8_go 37 = .ok (.iaload, 1) := by decide +kernel
theorem dX8_go_38 : decode cX8_go 38 = .ok (.invokevirtual 189, 3) := by decide +kernel
theorem dX8_go_41 : decode cX8_go 41 = .ok (.aload_n 0, 1) := by decide +kernel
theorem dX8_go_42 : decode cX8_go 42 = .ok (.dup, 1) := by decide +kernel
theorem dX8_go_43 : decode cX8_go 43 = .ok (.getfield 45, 3) := by decide +kernel
theorem dX8_go_46 : decode cX8_go 46 = .ok (.iconst 1, 1) := by decide +kernel
theorem dX8_go_47 : decode cX8_go 47 = .ok (.iadd, 1) := by decide +kernel
theorem dX8_go_48 : decode cX8_go 48 = .ok (.putfield 45, 3) := by decide +kernel
theorem dX8_go_51 : decode cX8_go 51 = .ok (.iinc 2 1, 3) := by decide +kernel
theorem dX8_go_54 : decode cX8_go 54 = .ok (.goto (-41), 3) := by decide +kernel
theorem dX8_go_57 : decode cX8_go 57 = .ok (.aload_n 0, 1) := by decide +kernel
theorem dX8_go_58 : decode cX8_go 58 = .ok (.getfield 45, 3) := by decide +kernel
theorem dX8_go_61 : decode cX8_go 61 = .ok (.ireturn, 1) := by decide +kernel
set_option maxRecDepth 20000 in
theorem ggX8_told_X8_isHouse : GoodIn wsX8_told wsX8_isHouse := goodIn_r _ [11, 12, 13, 14, 10, 15, 72, 73, 74, 75, 76, 77, 78, 79, 80, 81, 82, 83, 84, 85] (by decide +kernel) (by decide +kernel)
set_option maxRecDepth 20000 in
theorem gX8_told_X8_isHouse : GoodIn wsX8_told (wsV RX8 117 RX8 yX8_isHouse wsX8_isHouse) := goodIn_app (goodIn_of _ (by decide +kernel)) ggX8_told_X8_isHouse
set_option maxRecDepth 20000 in
theorem ggX8_told_X8_isYearSoFar : GoodIn wsX8_told wsX8_isYearSoFar := goodIn_r _ [19, 20, 21, 22, 10, 23, 24, 13, 14, 15, 72, 73, 74, 75, 76, 77, 78, 79, 80, 81, 82, 83, 84, 85] (by decide +kernel) (by decide +kernel)
set_option maxRecDepth 20000 in
theorem gX8_told_X8_isYearSoFar : GoodIn wsX8_told (wsV RX8 126 RX8 yX8_isYearSoFar wsX8_isYearSoFar) := goodIn_app (goodIn_of _ (by decide +kernel)) ggX8_told_X8_isYearSoFar
set_option maxRecDepth 20000 in
theorem ggX8_told_X8_daysOwed : GoodIn wsX8_told wsX8_daysOwed := goodIn_r _ [28, 29, 30, 31, 32, 33, 34, 35, 36, 37, 38, 39, 40, 41, 42, 43, 44, 45, 46, 47, 48, 49, 50, 51, 52, 53, 54, 55, 56, 72, 73, 74, 75, 76, 77, 78, 79, 80, 81, 82, 83, 84, 85, 86, 87, 88, 89, 90, 91, 92, 93, 94, 95, 96, 97, 98, 99, 100, 101, 102, 103, 104, 105, 106] (by decide +kernel) (by decide +kernel)
set_option maxRecDepth 20000 in
theorem gX8_told_X8_daysOwed : GoodIn wsX8_told (wsV RX8 141 RX8 yX8_daysOwed wsX8_daysOwed) := goodIn_app (goodIn_of _ (by decide +kernel)) ggX8_told_X8_daysOwed
set_option maxRecDepth 20000 in
theorem ggX8_told_X8_daysOwedYet : GoodIn wsX8_told wsX8_daysOwedYet := goodIn_r _ [60, 61, 62, 63, 64, 25, 26, 27, 10, 28, 29, 30, 31, 32, 33, 34, 35, 36, 37, 38, 39, 40, 41, 42, 43, 44, 45, 46, 47, 48, 49, 50, 51, 52, 53, 54, 55, 56, 65, 66, 67, 68, 69, 70, 71, 72, 73, 74, 75, 76, 77, 78, 79, 80, 81, 82, 83, 84, 85, 86, 87, 88, 89, 90, 91, 92, 93, 94, 95, 96, 97, 98, 99, 100, 101, 102, 103, 104, 105, 106] (by decide +kernel) (by decide +kernel)
set_option maxRecDepth 20000 in
theorem gX8_told_X8_daysOwedYet : GoodIn wsX8_told (wsV RX8 149 RX8 yX8_daysOwedYet wsX8_daysOwedYet) := goodIn_app (goodIn_of _ (by decide +kernel)) ggX8_told_X8_daysOwedYet
theorem dX8_told_0 : decode cX8_told 0 = .ok (.aload_n 0, 1) := by decide +kernel
theorem dX8_told_1 : decode cX8_told 1 = .ok (.iload_n 1, 1) := by decide +kernel
theorem dX8_told_2 : decode cX8_told 2 = .ok (.invokevirtual 117, 3) := by decide +kernel
theorem dX8_told_5 : decode cX8_told 5 = .ok (.ifCond .eq 11, 3) := by decide +kernel
theorem dX8_told_8 : decode cX8_told 8 = .ok (.aload_n 0, 1) := by decide +kernel
theorem dX8_told_9 : decode cX8_told 9 = .ok (.iload_n 2, 1) := by decide +kernel
theorem dX8_told_10 : decode cX8_told 10 = .ok (.invokevirtual 126, 3) := by decide +kernel
theorem dX8_told_13 : decode cX8_told 13 = .ok (.ifCond .ne 5, 3) := by decide +kernel
theorem dX8_told_16 : decode cX8_told 16 = .ok (.iconst (-1), 1) := by decide +kernel
theorem dX8_told_17 : decode cX8_told 17 = .ok (.ireturn, 1) := by decide +kernel
theorem dX8_told_18 : decode cX8_told 18 = .ok (.aload_n 0, 1) := by decide +kernel
theorem dX8_told_19 : decode cX8_told 19 = .ok (.getfield 23, 3) := by decide +kernel
theorem dX8_told_22 : decode cX8_told 22 = .ok (.iload_n 1, 1) := by decide +kernel
theorem dX8_told_23 : decode cX8_told 23 = .ok (.aaload, 1) := by decide +kernel
theorem dX8_told_24 : decode cX8_told 24 = .ok (.astore 4, 2) := by decide +kernel
theorem dX8_told_26 : decode cX8_told 26 = .ok (.iload_n 3, 1) := by decide +kernel
theorem dX8_told_27 : decode cX8_told 27 = .ok (.tableswitch 97 0 6 #[41, 49, 57, 65, 73, 81, 89], 41) := by decide +kernel
theorem dX8_told_68 : decode cX8_told 68 = .ok (.aload_n 0, 1) := by decide +kernel
theorem dX8_told_69 : decode cX8_told 69 = .ok (.aload 4, 2) := by decide +kernel
theorem dX8_told_71 : decode cX8_told 71 = .ok (.iload_n 2, 1) := by decide +kernel
theorem dX8_told_72 : decode cX8_told 72 = .ok (.invokevirtual 141, 3) := by decide +kernel
theorem dX8_told_75 : decode cX8_told 75 = .ok (.ireturn, 1) := by decide +kernel
theorem dX8_told_76 : decode cX8_told 76 = .ok (.aload 4, 2) := by decide +kernel
theorem dX8_told_78 : decode cX8_told 78 = .ok (.getfield 152, 3) := by decide +kernel
theorem dX8_told_81 : decode cX8_told 81 = .ok (.iload_n 2, 1) := by decide +kernel
theorem dX8_told_82 : decode cX8_told 82 = .ok (.iaload, 1) := by decide +kernel
theorem dX8_told_83 : decode cX8_told 83 = .ok (.ireturn, 1) := by decide +kernel
theorem dX8_told_84 : decode cX8_told 84 = .ok (.aload 4, 2) := by decide +kernel
theorem dX8_told_86 : decode cX8_told 86 = .ok (.getfield 162, 3) := by decide +kernel
theorem dX8_told_89 : decode cX8_told 89 = .ok (.iload_n 2, 1) := by decide +kernel
theorem dX8_told_90 : decode cX8_told 90 = .ok (.iaload, 1) := by decide +kernel
theorem dX8_told_91 : decode cX8_told 91 = .ok (.ireturn, 1) := by decide +kernel
theorem dX8_told_92 : decode cX8_told 92 = .ok (.aload 4, 2) := by decide +kernel
theorem dX8_told_94 : decode cX8_told 94 = .ok (.getfield 179, 3) := by decide +kernel
theorem dX8_told_97 : decode cX8_told 97 = .ok (.iload_n 2, 1) := by decide +kernel
theorem dX8_told_98 : decode cX8_told 98 = .ok (.iaload, 1) := by decide +kernel
theorem dX8_told_99 : decode cX8_told 99 = .ok (.ireturn, 1) := by decide +kernel
theorem dX8_told_100 : decode cX8_told 100 = .ok (.aload_n 0, 1) := by decide +kernel
theorem dX8_told_101 : decode cX8_told 101 = .ok (.aload 4, 2) := by decide +kernel
theorem dX8_told_103 : decode cX8_told 103 = .ok (.iload_n 2, 1) := by decide +kernel
theorem dX8_told_104 : decode cX8_told 104 = .ok (.invokevirtual 149, 3) := by decide +kernel
theorem dX8_told_107 : decode cX8_told 107 = .ok (.ireturn, 1) := by decide +kernel
theorem dX8_told_108 : decode cX8_told 108 = .ok (.aload 4, 2) := by decide +kernel
theorem dX8_told_110 : decode cX8_told 110 = .ok (.getfield 159, 3) := by decide +kernel
theorem dX8_told_113 : decode cX8_told 113 = .ok (.iload_n 2, 1) := by decide +kernel
theorem dX8_told_114 : decode cX8_told 114 = .ok (.iaload, 1) := by decide +kernel
theorem dX8_told_115 : decode cX8_told 115 = .ok (.ireturn, 1) := by decide +kernel
theorem dX8_told_116 : decode cX8_told 116 = .ok (.aload 4, 2) := by decide +kernel
theorem dX8_told_118 : decode cX8_told 118 = .ok (.getfield 165, 3) := by decide +kernel
theorem dX8_told_121 : decode cX8_told 121 = .ok (.iload_n 2, 1) := by decide +kernel
theorem dX8_told_122 : decode cX8_told 122 = .ok (.iaload, 1) := by decide +kernel
theorem dX8_told_123 : decode cX8_told 123 = .ok (.ireturn, 1) := by decide +kernel
theorem dX8_told_124 : decode cX8_told 124 = .ok (.iconst (-1), 1) := by decide +kernel
theorem dX8_told_125 : decode cX8_told 125 = .ok (.ireturn, 1) := by decide +kernel
set_option maxRecDepth 20000 in
theorem ggX8_paper_X8_firstPaperWeek : GoodIn wsX8_paper wsX8_firstPaperWeek := goodIn_r _ [5, 6, 7, 8, 9, 10, 11, 12, 4, 13, 14, 15, 16, 17, 18, 19, 20, 21, 22, 23, 24, 25, 26, 27, 28, 29, 30, 31, 32, 33, 34, 35, 36, 37, 38, 39, 40, 41, 42, 43, 44, 45, 46, 47, 48, 49, 50, 51, 52, 53, 54, 55, 56, 57, 58, 59, 60, 61, 62, 63, 64, 65] (by decide +kernel) (by decide +kernel)
set_option maxRecDepth 20000 in
theorem gX8_paper_X8_firstPaperWeek : GoodIn wsX8_paper (wsV RX8 192 RX8 yX8_firstPaperWeek wsX8_firstPaperWeek) := goodIn_app (goodIn_of _ (by decide +kernel)) ggX8_paper_X8_firstPaperWeek
theorem dX8_paper_0 : decode cX8_paper 0 = .ok (.aload_n 0, 1) := by decide +kernel
theorem dX8_paper_1 : decode cX8_paper 1 = .ok (.iload_n 1, 1) := by decide +kernel
theorem dX8_paper_2 : decode cX8_paper 2 = .ok (.invokevirtual 192, 3) := by decide +kernel
theorem dX8_paper_5 : decode cX8_paper 5 = .ok (.iconst (-1), 1) := by decide +kernel
theorem dX8_paper_6 : decode cX8_paper 6 = .ok (.if_icmp .eq 7, 3) := by decide +kernel
theorem dX8_paper_9 : decode cX8_paper 9 = .ok (.iconst 1, 1) := by decide +kernel
theorem dX8_paper_10 : decode cX8_paper 10 = .ok (.goto 4, 3) := by decide +kernel
theorem dX8_paper_13 : decode cX8_paper 13 = .ok (.iconst 0, 1) := by decide +kernel
theorem dX8_paper_14 : decode cX8_paper 14 = .ok (.ireturn, 1) := by decide +kernel
set_option maxRecDepth 20000 in
theorem ggX8_paperWeek_X8_firstPaperWeek : GoodIn wsX8_paperWeek wsX8_firstPaperWeek := goodIn_r _ [5, 6, 7, 8, 9, 10, 11, 12, 4, 13, 14, 15, 16, 17, 18, 19, 20, 21, 22, 23, 24, 25, 26, 27, 28, 29, 30, 31, 32, 33, 34, 35, 36, 37, 38, 39, 40, 41, 42, 43, 44, 45, 46, 47, 48, 49, 50, 51, 52, 53, 54, 55, 56, 57, 58, 59, 60, 61, 62, 63, 64, 65] (by decide +kernel) (by decide +kernel)
set_option maxRecDepth 20000 in
theorem gX8_paperWeek_X8_firstPaperWeek : GoodIn wsX8_paperWeek (wsV RX8 192 RX8 yX8_firstPaperWeek wsX8_firstPaperWeek) := goodIn_app (goodIn_of _ (by decide +kernel)) ggX8_paperWeek_X8_firstPaperWeek
theorem dX8_paperWeek_0 : decode cX8_paperWeek 0 = .ok (.aload_n 0, 1) := by decide +kernel
theorem dX8_paperWeek_1 : decode cX8_paperWeek 1 = .ok (.iload_n 1, 1) := by decide +kernel
theorem dX8_paperWeek_2 : decode cX8_paperWeek 2 = .ok (.invokevirtual 192, 3) := by decide +kernel
theorem dX8_paperWeek_5 : decode cX8_paperWeek 5 = .ok (.ireturn, 1) := by decide +kernel
set_option maxRecDepth 20000 in
theorem ggX8_bank_X8_isRod : GoodIn wsX8_bank wsX8_isRod := goodIn_r _ [8, 9, 10, 7, 11] (by decide +kernel) (by decide +kernel)
set_option maxRecDepth 20000 in
theorem gX8_bank_X8_isRod : GoodIn wsX8_bank (va_wsS RX8 83 yX8_isRod wsX8_isRod) := goodIn_app (goodIn_of _ (by decide +kernel)) ggX8_bank_X8_isRod
set_option maxRecDepth 20000 in
theorem ggX8_bank_X8_isWithin : GoodIn wsX8_bank wsX8_isWithin := goodIn_r _ [11] (by decide +kernel) (by decide +kernel)
set_option maxRecDepth 20000 in
theorem gX8_bank_X8_isWithin : GoodIn wsX8_bank (va_wsS RX8 76 yX8_isWithin wsX8_isWithin) := goodIn_app (goodIn_of _ (by decide +kernel)) ggX8_bank_X8_isWithin
set_option maxRecDepth 20000 in
theorem ggX8_bank_X4_daysTo : GoodIn wsX8_bank wsX4_daysTo := goodIn_r _ [16, 17, 18, 19, 20, 15, 21, 22, 23, 7, 24, 39, 40, 41, 42, 43] (by decide +kernel) (by decide +kernel)
set_option maxRecDepth 20000 in
theorem gX8_bank_X4_daysTo : GoodIn wsX8_bank (wsV RX8 205 RX4 yX4_daysTo wsX4_daysTo) := goodIn_app (goodIn_of _ (by decide +kernel)) ggX8_bank_X4_daysTo
theorem dX8_bank_0 : decode cX8_bank 0 = .ok (.iload_n 1, 1) := by decide +kernel
theorem dX8_bank_1 : decode cX8_bank 1 = .ok (.invokestatic 83, 3) := by decide +kernel
theorem dX8_bank_4 : decode cX8_bank 4 = .ok (.ifCond .ne 5, 3) := by decide +kernel
theorem dX8_bank_7 : decode cX8_bank 7 = .ok (.iconst (-1), 1) := by decide +kernel
theorem dX8_bank_8 : decode cX8_bank 8 = .ok (.ireturn, 1) := by decide +kernel
theorem dX8_bank_9 : decode cX8_bank 9 = .ok (.iload_n 2, 1) := by decide +kernel
theorem dX8_bank_10 : decode cX8_bank 10 = .ok (.tableswitch 85 0 3 #[30, 40, 50, 60], 30) := by decide +kernel
theorem dX8_bank_40 : decode cX8_bank 40 = .ok (.aload_n 0, 1) := by decide +kernel
theorem dX8_bank_41 : decode cX8_bank 41 = .ok (.getfield 17, 3) := by decide +kernel
theorem dX8_bank_44 : decode cX8_bank 44 = .ok (.iload_n 1, 1) := by decide +kernel
theorem dX8_bank_45 : decode cX8_bank 45 = .ok (.aaload, 1) := by decide +kernel
theorem dX8_bank_46 : decode cX8_bank 46 = .ok (.getfield 196, 3) := by decide +kernel
theorem dX8_bank_49 : decode cX8_bank 49 = .ok (.ireturn, 1) := by decide +kernel
theorem dX8_bank_50 : decode cX8_bank 50 = .ok (.aload_n 0, 1) := by decide +kernel
theorem dX8_bank_51 : decode cX8_bank 51 = .ok (.getfield 17, 3) := by decide +kernel
theorem dX8_bank_54 : decode cX8_bank 54 = .ok (.iload_n 1, 1) := by decide +kernel
theorem dX8_bank_55 : decode cX8_bank 55 = .ok (.aaload, 1) := by decide +kernel
theorem dX8_bank_56 : decode cX8_bank 56 = .ok (.getfield 199, 3) := by decide +kernel
theorem dX8_bank_59 : decode cX8_bank 59 = .ok (.ireturn, 1) := by decide +kernel
theorem dX8_bank_60 : decode cX8_bank 60 = .ok (.aload_n 0, 1) := by decide +kernel
theorem dX8_bank_61 : decode cX8_bank 61 = .ok (.getfield 17, 3) := by decide +kernel
theorem dX8_bank_64 : decode cX8_bank 64 = .ok (.iload_n 1, 1) := by decide +kernel
theorem dX8_bank_65 : decode cX8_bank 65 = .ok (.aaload, 1) := by decide +kernel
theorem dX8_bank_66 : decode cX8_bank 66 = .ok (.getfield 202, 3) := by decide +kernel
theorem dX8_bank_69 : decode cX8_bank 69 = .ok (.ireturn, 1) := by decide +kernel
theorem dX8_bank_70 : decode cX8_bank 70 = .ok (.iload_n 3, 1) := by decide +kernel
theorem dX8_bank_71 : decode cX8_bank 71 = .ok (.sipush 3000, 3) := by decide +kernel
theorem dX8_bank_74 : decode cX8_bank 74 = .ok (.invokestatic 76, 3) := by decide +kernel
theorem dX8_bank_77 : decode cX8_bank 77 = .ok (.ifCond .eq 16, 3) := by decide +kernel
theorem dX8_bank_80 : decode cX8_bank 80 = .ok (.aload_n 0, 1) := by decide +kernel
theorem dX8_bank_81 : decode cX8_bank 81 = .ok (.getfield 17, 3) := by decide +kernel
theorem dX8_bank_84 : decode cX8_bank 84 = .ok (.iload_n 1, 1) := by decide +kernel
theorem dX8_bank_85 : decode cX8_bank 85 = .ok (.aaload, 1) := by decide +kernel
theorem dX8_bank_86 : decode cX8_bank 86 = .ok (.iload_n 3, 1) := by decide +kernel
theorem dX8_bank_87 : decode cX8_bank 87 = .ok (.invokevirtual 205, 3) := by decide +kernel
theorem dX8_bank_90 : decode cX8_bank 90 = .ok (.goto 4, 3) := by decide +kernel
theorem dX8_bank_93 : decode cX8_bank 93 = .ok (.iconst (-1), 1) := by decide +kernel
theorem dX8_bank_94 : decode cX8_bank 94 = .ok (.ireturn, 1) := by decide +kernel
theorem dX8_bank_95 : decode cX8_bank 95 = .ok (.iconst (-1), 1) := by decide +kernel
theorem dX8_bank_96 : decode cX8_bank 96 = .ok (.ireturn, 1) := by decide +kernel
set_option maxRecDepth 20000 in
theorem ggX8_saved_X8_isWithin : GoodIn wsX8_saved wsX8_isWithin := goodIn_r _ [6] (by decide +kernel) (by decide +kernel)
set_option maxRecDepth 20000 in
theorem gX8_saved_X8_isWithin : GoodIn wsX8_saved (va_wsS RX8 76 yX8_isWithin wsX8_isWithin) := goodIn_app (goodIn_of _ (by decide +kernel)) ggX8_saved_X8_isWithin
set_option maxRecDepth 20000 in
theorem ggX8_saved_X3_bestWorth : GoodIn wsX8_saved wsX3_bestWorth := goodIn_r _ [11, 12, 13, 14, 4, 5, 6, 15, 16, 17, 18, 19, 20, 21, 22, 23, 24, 25, 26, 27, 28, 29, 30, 10, 31, 32, 33, 34, 35, 54, 55, 56, 57, 58, 59] (by decide +kernel) (by decide +kernel)
set_option maxRecDepth 20000 in
theorem gX8_saved_X3_bestWorth : GoodIn wsX8_saved (wsV RX8 208 RX3 yX3_bestWorth wsX3_bestWorth) := goodIn_app (goodIn_of _ (by decide +kernel)) ggX8_saved_X3_bestWorth
set_option maxRecDepth 20000 in
theorem ggX8_saved_X3_lossOf : GoodIn wsX8_saved wsX3_lossOf := goodIn_r _ [38, 39] (by decide +kernel) (by decide +kernel)
set_option maxRecDepth 20000 in
theorem gX8_saved_X3_lossOf : GoodIn wsX8_saved (va_wsS RX8 212 yX3_lossOf wsX3_lossOf) := goodIn_app (goodIn_of _ (by decide +kernel)) ggX8_saved_X3_lossOf
theorem dX8_saved_0 : decode cX8_saved 0 = .ok (.iload_n 1, 1) := by decide +kernel
theorem dX8_saved_1 : decode cX8_saved 1 = .ok (.sipush 300, 3) := by decide +kernel
theorem dX8_saved_4 : decode cX8_saved 4 = .ok (.invokestatic 76, 3) := by decide +kernel
theorem dX8_saved_7 : decode cX8_saved 7 = .ok (.ifCond .eq 13, 3) := by decide +kernel
theorem dX8_saved_10 : decode cX8_saved 10 = .ok (.iload_n 2, 1) := by decide +kernel
theorem dX8_saved_11 : decode cX8_saved 11 = .ok (.sipush 3000, 3) := by decide +kernel
theorem dX8_saved_14 : decode cX8_saved 14 = .ok (.invokestatic 76, 3) := by decide +kernel
theorem dX8_saved_17 : decode cX8_saved 17 = .ok (.ifCond .ne 5, 3) := by decide +kernel
theorem dX8_saved_20 : decode cX8_saved 20 = .ok (.iconst (-1), 1) := by decide +kernel
theorem dX8_saved_21 : decode cX8_saved 21 = .ok (.ireturn, 1) := by decide +kernel
theorem dX8_saved_22 : decode cX8_saved 22 = .ok (.aload_n 0, 1) := by decide +kernel
theorem dX8_saved_23 : decode cX8_saved 23 = .ok (.getfield 37, 3) := by decide +kernel
theorem dX8_saved_26 : decode cX8_saved 26 = .ok (.aload_n 0, 1) := by decide +kernel
theorem dX8_saved_27 : decode cX8_saved 27 = .ok (.getfield 17, 3) := by decide +kernel
theorem dX8_saved_30 : decode cX8_saved 30 = .ok (.iload_n 1, 1) := by decide +kernel
theorem dX8_saved_31 : decode cX8_saved 31 = .ok (.iload_n 2, 1) := by decide +kernel
theorem dX8_saved_32 : decode cX8_saved 32 = .ok (.invokevirtual 208, 3) := by decide +kernel
theorem dX8_saved_35 : decode cX8_saved 35 = .ok (.invokestatic 212, 3) := by decide +kernel
theorem dX8_saved_38 : decode cX8_saved 38 = .ok (.ireturn, 1) := by decide +kernel
set_option maxRecDepth 20000 in
theorem ggX8_chosen_X8_isWithin : GoodIn wsX8_chosen wsX8_isWithin := goodIn_r _ [6] (by decide +kernel) (by decide +kernel)
set_option maxRecDepth 20000 in
theorem gX8_chosen_X8_isWithin : GoodIn wsX8_chosen (va_wsS RX8 76 yX8_isWithin wsX8_isWithin) := goodIn_app (goodIn_of _ (by decide +kernel)) ggX8_chosen_X8_isWithin
set_option maxRecDepth 20000 in
theorem ggX8_chosen_X3_bestWorth : GoodIn wsX8_chosen wsX3_bestWorth := goodIn_r _ [11, 12, 13, 14, 4, 5, 6, 15, 16, 17, 18, 19, 20, 21, 22, 23, 24, 25, 26, 27, 28, 29, 30, 10, 31, 32, 33, 34, 35, 57, 58, 59, 60, 61, 62] (by decide +kernel) (by decide +kernel)
set_option maxRecDepth 20000 in
theorem gX8_chosen_X3_bestWorth : GoodIn wsX8_chosen (wsV RX8 208 RX3 yX3_bestWorth wsX3_bestWorth) := goodIn_app (goodIn_of _ (by decide +kernel)) ggX8_chosen_X3_bestWorth
set_option maxRecDepth 20000 in
theorem ggX8_chosen_X3_heapOf : GoodIn wsX8_chosen wsX3_heapOf := goodIn_r _ [38, 39, 40, 10, 41, 42] (by decide +kernel) (by decide +kernel)
set_option maxRecDepth 20000 in
theorem gX8_chosen_X3_heapOf : GoodIn wsX8_chosen (va_wsS RX8 216 yX3_heapOf wsX3_heapOf) := goodIn_app (goodIn_of _ (by decide +kernel)) ggX8_chosen_X3_heapOf
theorem dX8_chosen_0 : decode cX8_chosen 0 = .ok (.iload_n 1, 1) := by decide +kernel
theorem dX8_chosen_1 : decode cX8_chosen 1 = .ok (.sipush 300, 3) := by decide +kernel
theorem dX8_chosen_4 : decode cX8_chosen 4 = .ok (.invokestatic 76, 3) := by decide +kernel
theorem dX8_chosen_7 : decode cX8_chosen 7 = .ok (.ifCond .eq 13, 3) := by decide +kernel
theorem dX8_chosen_10 : decode cX8_chosen 10 = .ok (.iload_n 2, 1) := by decide +kernel
theorem dX8_chosen_11 : decode cX8_chosen 11 = .ok (.sipush 3000, 3) := by decide +kernel
theorem dX8_chosen_14 : decode cX8_chosen 14 = .ok (.invokestatic 76, 3) := by decide +kernel
theorem dX8_chosen_17 : decode cX8_chosen 17 = .ok (.ifCond .ne 5, 3) := by decide +kernel
theorem dX8_chosen_20 : decode cX8_chosen 20 = .ok (.iconst (-1), 1) := by decide +kernel
theorem dX8_chosen_21 : decode cX8_chosen 21 = .ok (.ireturn, 1) := by decide +kernel
theorem dX8_chosen_22 : decode cX8_chosen 22 = .ok (.aload_n 0, 1) := by decide +kernel
theorem dX8_chosen_23 : decode cX8_chosen 23 = .ok (.getfield 37, 3) := by decide +kernel
theorem dX8_chosen_26 : decode cX8_chosen 26 = .ok (.aload_n 0, 1) := by decide +kernel
theorem dX8_chosen_27 : decode cX8_chosen 27 = .ok (.getfield 17, 3) := by decide +kernel
theorem dX8_chosen_30 : decode cX8_chosen 30 = .ok (.iload_n 1, 1) := by decide +kernel
theorem dX8_chosen_31 : decode cX8_chosen 31 = .ok (.iload_n 2, 1) := by decide +kernel
theorem dX8_chosen_32 : decode cX8_chosen 32 = .ok (.invokevirtual 208, 3) := by decide +kernel
theorem dX8_chosen_35 : decode cX8_chosen 35 = .ok (.invokestatic 216, 3) := by decide +kernel
theorem dX8_chosen_38 : decode cX8_chosen 38 = .ok (.ireturn, 1) := by decide +kernel
set_option maxRecDepth 20000 in
theorem ggX8_called_X8_isVillage : GoodIn wsX8_called wsX8_isVillage := goodIn_r _ [4, 5, 6, 3, 7] (by decide +kernel) (by decide +kernel)
set_option maxRecDepth 20000 in
theorem gX8_called_X8_isVillage : GoodIn wsX8_called (va_wsS RX8 72 yX8_isVillage wsX8_isVillage) := goodIn_app (goodIn_of _ (by decide +kernel)) ggX8_called_X8_isVillage
set_option maxRecDepth 20000 in
theorem ggX8_called_X8_hourOfCall : GoodIn wsX8_called wsX8_hourOfCall := goodIn_r _ [11, 12, 13, 14, 15, 3, 16, 17, 18, 19, 20, 21, 22, 23, 24, 25, 26, 27, 28, 29, 30, 31, 32, 33, 34, 35, 36, 37, 38, 39, 40] (by decide +kernel) (by decide +kernel)
set_option maxRecDepth 20000 in
theorem gX8_called_X8_hourOfCall : GoodIn wsX8_called (wsV RX8 219 RX8 yX8_hourOfCall wsX8_hourOfCall) := goodIn_app (goodIn_of _ (by decide +kernel)) ggX8_called_X8_hourOfCall
theorem dX8_called_0 : decode cX8_called 0 = .ok (.iload_n 1, 1) := by decide +kernel
theorem dX8_called_1 : decode cX8_called 1 = .ok (.invokestatic 72, 3) := by decide +kernel
theorem dX8_called_4 : decode cX8_called 4 = .ok (.ifCond .eq 10, 3) := by decide +kernel
theorem dX8_called_7 : decode cX8_called 7 = .ok (.iload_n 2, 1) := by decide +kernel
theorem dX8_called_8 : decode cX8_called 8 = .ok (.invokestatic 72, 3) := by decide +kernel
theorem dX8_called_11 : decode cX8_called 11 = .ok (.ifCond .ne 5, 3) := by decide +kernel
theorem dX8_called_14 : decode cX8_called 14 = .ok (.iconst (-1), 1) := by decide +kernel
theorem dX8_called_15 : decode cX8_called 15 = .ok (.ireturn, 1) := by decide +kernel
theorem dX8_called_16 : decode cX8_called 16 = .ok (.aload_n 0, 1) := by decide +kernel
theorem dX8_called_17 : decode cX8_called 17 = .ok (.iload_n 1, 1) := by decide +kernel
theorem dX8_called_18 : decode cX8_called 18 = .ok (.iload_n 2, 1) := by decide +kernel
theorem dX8_called_19 : decode cX8_called 19 = .ok (.invokevirtual 219, 3) := by decide +kernel
theorem dX8_called_22 : decode cX8_called 22 = .ok (.ireturn, 1) := by decide +kernel
set_option maxRecDepth 20000 in
theorem ggX8_arrived_X8_isVillage : GoodIn wsX8_arrived wsX8_isVillage := goodIn_r _ [7, 8, 9, 6, 10] (by decide +kernel) (by decide +kernel)
set_option maxRecDepth 20000 in
theorem gX8_arrived_X8_isVillage : GoodIn wsX8_arrived (va_wsS RX8 72 yX8_isVillage wsX8_isVillage) := goodIn_app (goodIn_of _ (by decide +kernel)) ggX8_arrived_X8_isVillage
set_option maxRecDepth 20000 in
theorem ggX8_arrived_X8_isRod : GoodIn wsX8_arrived wsX8_isRod := goodIn_r _ [13, 8, 9, 6, 10] (by decide +kernel) (by decide +kernel)
set_option maxRecDepth 20000 in
theorem gX8_arrived_X8_isRod : GoodIn wsX8_arrived (va_wsS RX8 83 yX8_isRod wsX8_isRod) := goodIn_app (goodIn_of _ (by decide +kernel)) ggX8_arrived_X8_isRod
set_option maxRecDepth 20000 in
theorem ggX8_arrived_X8_isWithin : GoodIn wsX8_arrived wsX8_isWithin := goodIn_r _ [10] (by decide +kernel) (by decide +kernel)
set_option maxRecDepth 20000 in
theorem gX8_arrived_X8_isWithin : GoodIn wsX8_arrived (va_wsS RX8 76 yX8_isWithin wsX8_isWithin) := goodIn_app (goodIn_of _ (by decide +kernel)) ggX8_arrived_X8_isWithin
set_option maxRecDepth 20000 in
theorem ggX8_arrived_X8_hoursFor : GoodIn wsX8_arrived wsX8_hoursFor := goodIn_r _ [16, 17, 18, 19, 20, 21, 22, 6, 23] (by decide +kernel) (by decide +kernel)
set_option maxRecDepth 20000 in
theorem gX8_arrived_X8_hoursFor : GoodIn wsX8_arrived (va_wsS RX8 223 yX8_hoursFor wsX8_hoursFor) := goodIn_app (goodIn_of _ (by decide +kernel)) ggX8_arrived_X8_hoursFor
set_option maxRecDepth 20000 in
theorem ggX8_arrived_X8_hourOfCall : GoodIn wsX8_arrived wsX8_hourOfCall := goodIn_r _ [27, 1, 2, 14, 15, 6, 16, 17, 18, 19, 20, 21, 22, 23, 44, 45, 46, 47, 48, 49, 50, 51, 52, 53, 54, 55, 56, 57, 58, 59, 60] (by decide +kernel) (by decide +kernel)
set_option maxRecDepth 20000 in
theorem gX8_arrived_X8_hourOfCall : GoodIn wsX8_arrived (wsV RX8 219 RX8 yX8_hourOfCall wsX8_hourOfCall) := goodIn_app (goodIn_of _ (by decide +kernel)) ggX8_arrived_X8_hourOfCall
set_option maxRecDepth 20000 in
theorem ggX8_arrived_X8_trueHands : GoodIn wsX8_arrived wsX8_trueHands := goodIn_r _ [31, 32, 33, 34, 35, 36, 37, 38, 39, 40, 41, 42, 43, 44, 45, 46, 47, 48, 49, 50, 51, 52, 53, 54, 55, 56, 57, 61, 62, 63, 64, 65, 66, 67, 68, 69, 70, 71, 72, 73] (by decide +kernel) (by decide +kernel)
set_option maxRecDepth 20000 in
theorem gX8_arrived_X8_trueHands : GoodIn wsX8_arrived (wsV RX8 227 RX8 yX8_trueHands wsX8_trueHands) := goodIn_app (goodIn_of _ (by decide +kernel)) ggX8_arrived_X8_trueHands
theorem dX8_arrived_0 : decode cX8_arrived 0 = .ok (.iload_n 1, 1) := by decide +kernel
theorem dX8_arrived_1 : decode cX8_arrived 1 = .ok (.invokestatic 72, 3) := by decide +kernel
theorem dX8_arrived_4 : decode cX8_arrived 4 = .ok (.ifCond .eq 19, 3) := by decide +kernel
theorem dX8_arrived_7 : decode cX8_arrived 7 = .ok (.iload_n 2, 1) := by decide +kernel
theorem dX8_arrived_8 : decode cX8_arrived 8 = .ok (.invokestatic 83, 3) := by decide +kernel
theorem dX8_arrived_11 : decode cX8_arrived 11 = .ok (.ifCond .eq 12, 3) := by decide +kernel
theorem dX8_arrived_14 : decode cX8_arrived 14 = .ok (.iload_n 3, 1) := by decide +kernel
theorem dX8_arrived_15 : decode cX8_arrived 15 = .ok (.bipush 100, 2) := by decide +kernel
theorem dX8_arrived_17 : decode cX8_arrived 17 = .ok (.invokestatic 76, 3) := by decide +kernel
theorem dX8_arrived_20 : decode cX8_arrived 20 = .ok (.ifCond .ne 5, 3) := by decide +kernel
theorem dX8_arrived_23 : decode cX8_arrived 23 = .ok (.iconst (-1), 1) := by decide +kernel
theorem dX8_arrived_24 : decode cX8_arrived 24 = .ok (.ireturn, 1) := by decide +kernel
theorem dX8_arrived_25 : decode cX8_arrived 25 = .ok (.iconst 0, 1) := by decide +kernel
theorem dX8_arrived_26 : decode cX8_arrived 26 = .ok (.istore 4, 2) := by decide +kernel
theorem dX8_arrived_28 : decode cX8_arrived 28 = .ok (.iconst 0, 1) := by decide +kernel
theorem dX8_arrived_29 : decode cX8_arrived 29 = .ok (.istore 5, 2) := by decide +kernel
theorem dX8_arrived_31 : decode cX8_arrived 31 = .ok (.iload 5, 2) := by decide +kernel
theorem dX8_arrived_33 : decode cX8_arrived 33 = .ok (.bipush 8, 2) := by decide +kernel
theorem dX8_arrived_35 : decode cX8_arrived 35 = .ok (.if_icmp .ge 57, 3) := by decide +kernel
theorem dX8_arrived_38 : decode cX8_arrived 38 = .ok (.aload_n 0, 1) := by decide +kernel
theorem dX8_arrived_39 : decode cX8_arrived 39 = .ok (.getfield 11, 3) := by decide +kernel
theorem dX8_arrived_42 : decode cX8_arrived 42 = .ok (.iload 5, 2) := by decide +kernel
theorem dX8_arrived_44 : decode cX8_arrived 44 = .ok (.aaload, 1) := by decide +kernel
theorem dX8_arrived_45 : decode cX8_arrived 45 = .ok (.getfield 80, 3) := by decide +kernel
theorem dX8_arrived_48 : decode cX8_arrived 48 = .ok (.iload_n 2, 1) := by decide +kernel
theorem dX8_arrived_49 : decode cX8_arrived 49 = .ok (.iconst 3, 1) := by decide +kernel
theorem dX8_arrived_50 : decode cX8_arrived 50 = .ok (.imul, 1) := by decide +kernel
theorem dX8_arrived_51 : decode cX8_arrived 51 = .ok (.iconst 3, 1) := by decide +kernel
theorem dX8_arrived_52 : decode cX8_arrived 52 = .ok (.invokestatic 223, 3) := by decide +kernel
theorem dX8_arrived_55 : decode cX8_arrived 55 = .ok (.istore 6, 2) := by decide +kernel
theorem dX8_arrived_57 : decode cX8_arrived 57 = .ok (.aload_n 0, 1) := by decide +kernel
theorem dX8_arrived_58 : decode cX8_arrived 58 = .ok (.iload_n 1, 1) := by decide +kernel
theorem dX8_arrived_59 : decode cX8_arrived 59 = .ok (.iload 5, 2) := by decide +kernel
theorem dX8_arrived_61 : decode cX8_arrived 61 = .ok (.invokevirtual 219, 3) := by decide +kernel
theorem dX8_arrived_64 : decode cX8_arrived 64 = .ok (.iload 6, 2) := by decide +kernel
theorem dX8_arrived_66 : decode cX8_arrived 66 = .ok (.iadd, 1) := by decide +kernel
theorem dX8_arrived_67 : decode cX8_arrived 67 = .ok (.iload_n 3, 1) := by decide +kernel
theorem dX8_arrived_68 : decode cX8_arrived 68 = .ok (.if_icmp .gt 18, 3) := by decide +kernel
theorem dX8_arrived_71 : decode cX8_arrived 71 = .ok (.iload 4, 2) := by decide +kernel
theorem dX8_arrived_73 : decode cX8_arrived 73 = .ok (.aload_n 0, 1) := by decide +kernel
theorem dX8_arrived_74 : decode cX8_arrived 74 = .ok (.iload 5, 2) := by decide +kernel
theorem dX8_arrived_76 : decode cX8_arrived 76 = .ok (.aload_n 0, 1) := by decide +kernel
theorem dX8_arrived_77 : decode cX8_arrived 77 = .ok (.getfield 45, 3) := by decide +kernel
theorem dX8_arrived_80 : decode cX8_arrived 80 = .ok (.invokevirtual 227, 3) := by decide +kernel
theorem dX8_arrived_83 : decode cX8_arrived 83 = .ok (.iadd, 1) := by decide +kernel
theorem dX8_arrived_84 : decode cX8_arrived 84 = .ok (.istore 4, 2) := by decide +kernel
theorem dX8_arrived_86 : decode cX8_arrived 86 = .ok (.iinc 5 1, 3) := by decide +kernel
theorem dX8_arrived_89 : decode cX8_arrived 89 = .ok (.goto (-58), 3) := by decide +kernel
theorem dX8_arrived_92 : decode cX8_arrived 92 = .ok (.iload 4, 2) := by decide +kernel
theorem dX8_arrived_94 : decode cX8_arrived 94 = .ok (.ireturn, 1) := by decide +kernel
theorem dX8_count_0 : decode cX8_count 0 = .ok (.iload_n 1, 1) := by decide +kernel
theorem dX8_count_1 : decode cX8_count 1 = .ok (.tableswitch 99 0 8 #[51, 56, 61, 69, 74, 79, 84, 89, 94], 51) := by decide +kernel
theorem dX8_count_52 : decode cX8_count 52 = .ok (.aload_n 0, 1) := by decide +kernel
theorem dX8_count_53 : decode cX8_count 53 = .ok (.getfield 45, 3) := by decide +kernel
theorem dX8_count_56 : decode cX8_count 56 = .ok (.ireturn, 1) := by decide +kernel
theorem dX8_count_57 : decode cX8_count 57 = .ok (.aload_n 0, 1) := by decide +kernel
theorem dX8_count_58 : decode cX8_count 58 = .ok (.getfield 49, 3) := by decide +kernel
theorem dX8_count_61 : decode cX8_count 61 = .ok (.ireturn, 1) := by decide +kernel
theorem dX8_count_62 : decode cX8_count 62 = .ok (.aload_n 0, 1) := by decide +kernel
theorem dX8_count_63 : decode cX8_count 63 = .ok (.getfield 30, 3) := by decide +kernel
theorem dX8_count_66 : decode cX8_count 66 = .ok (.getfield 108, 3) := by decide +kernel
theorem dX8_count_69 : decode cX8_count 69 = .ok (.ireturn, 1) := by decide +kernel
theorem dX8_count_70 : decode cX8_count 70 = .ok (.aload_n 0, 1) := by decide +kernel
theorem dX8_count_71 : decode cX8_count 71 = .ok (.getfield 52, 3) := by decide +kernel
theorem dX8_count_74 : decode cX8_count 74 = .ok (.ireturn, 1) := by decide +kernel
theorem dX8_count_75 : decode cX8_count 75 = .ok (.aload_n 0, 1) := by decide +kernel
theorem dX8_count_76 : decode cX8_count 76 = .ok (.getfield 55, 3) := by decide +kernel
theorem dX8_count_79 : decode cX8_count 79 = .ok (.ireturn, 1) := by decide +kernel
theorem dX8_count_80 : decode cX8_count 80 = .ok (.aload_n 0, 1) := by decide +kernel
theorem dX8_count_81 : decode cX8_count 81 = .ok (.getfield 58, 3) := by decide +kernel
theorem dX8_count_84 : decode cX8_count 84 = .ok (.ireturn, 1) := by decide +kernel
theorem dX8_count_85 : decode cX8_count 85 = .ok (.aload_n 0, 1) := by decide +kernel
theorem dX8_count_86 : decode cX8_count 86 = .ok (.getfield 61, 3) := by decide +kernel
theorem dX8_count_89 : decode cX8_count 89 = .ok (.ireturn, 1) := by decide +kernel
theorem dX8_count_90 : decode cX8_count 90 = .ok (.aload_n 0, 1) := by decide +kernel
theorem dX8_count_91 : decode cX8_count 91 = .ok (.getfield 64, 3) := by decide +kernel
theorem dX8_count_94 : decode cX8_count 94 = .ok (.ireturn, 1) := by decide +kernel
theorem dX8_count_95 : decode cX8_count 95 = .ok (.aload_n 0, 1) := by decide +kernel
theorem dX8_count_96 : decode cX8_count 96 = .ok (.getfield 67, 3) := by decide +kernel
theorem dX8_count_99 : decode cX8_count 99 = .ok (.ireturn, 1) := by decide +kernel
theorem dX8_count_100 : decode cX8_count 100 = .ok (.iconst (-1), 1) := by decide +kernel
theorem dX8_count_101 : decode cX8_count 101 = .ok (.ireturn, 1) := by decide +kernel
theorem dX8_isWithin_0 : decode cX8_isWithin 0 = .ok (.iload_n 0, 1) := by decide +kernel
theorem dX8_isWithin_1 : decode cX8_isWithin 1 = .ok (.ifCond .lt 12, 3) := by decide +kernel
theorem dX8_isWithin_4 : decode cX8_isWithin 4 = .ok (.iload_n 0, 1) := by decide +kernel
theorem dX8_isWithin_5 : decode cX8_isWithin 5 = .ok (.iload_n 1, 1) := by decide +kernel
theorem dX8_isWithin_6 : decode cX8_isWithin 6 = .ok (.if_icmp .gt 7, 3) := by decide +kernel
theorem dX8_isWithin_9 : decode cX8_isWithin 9 = .ok (.iconst 1, 1) := by decide +kernel
theorem dX8_isWithin_10 : decode cX8_isWithin 10 = .ok (.goto 4, 3) := by decide +kernel
theorem dX8_isWithin_13 : decode cX8_isWithin 13 = .ok (.iconst 0, 1) := by decide +kernel
theorem dX8_isWithin_14 : decode cX8_isWithin 14 = .ok (.ireturn, 1) := by decide +kernel
set_option maxRecDepth 20000 in
theorem ggX8_isVillage_X8_isWithin : GoodIn wsX8_isVillage wsX8_isWithin := goodIn_r _ [4] (by decide +kernel) (by decide +kernel)
set_option maxRecDepth 20000 in
theorem gX8_isVillage_X8_isWithin : GoodIn wsX8_isVillage (va_wsS RX8 76 yX8_isWithin wsX8_isWithin) := goodIn_app (goodIn_of _ (by decide +kernel)) ggX8_isVillage_X8_isWithin
theorem dX8_isVillage_0 : decode cX8_isVillage 0 = .ok (.iload_n 0, 1) := by decide +kernel
theorem dX8_isVillage_1 : decode cX8_isVillage 1 = .ok (.bipush 7, 2) := by decide +kernel
theorem dX8_isVillage_3 : decode cX8_isVillage 3 = .ok (.invokestatic 76, 3) := by decide +kernel
theorem dX8_isVillage_6 : decode cX8_isVillage 6 = .ok (.ireturn, 1) := by decide +kernel
set_option maxRecDepth 20000 in
theorem ggX8_isRod_X8_isWithin : GoodIn wsX8_isRod wsX8_isWithin := goodIn_r _ [4] (by decide +kernel) (by decide +kernel)
set_option maxRecDepth 20000 in
theorem gX8_isRod_X8_isWithin : GoodIn wsX8_isRod (va_wsS RX8 76 yX8_isWithin wsX8_isWithin) := goodIn_app (goodIn_of _ (by decide +kernel)) ggX8_isRod_X8_isWithin
theorem dX8_isRod_0 : decode cX8_isRod 0 = .ok (.iload_n 0, 1) := by decide +kernel
theorem dX8_isRod_1 : decode cX8_isRod 1 = .ok (.bipush 29, 2) := by decide +kernel
theorem dX8_isRod_3 : decode cX8_isRod 3 = .ok (.invokestatic 76, 3) := by decide +kernel
theorem dX8_isRod_6 : decode cX8_isRod 6 = .ok (.ireturn, 1) := by decide +kernel
set_option maxRecDepth 20000 in
theorem ggX8_isHolding_X8_isWithin : GoodIn wsX8_isHolding wsX8_isWithin := goodIn_r _ [4] (by decide +kernel) (by decide +kernel)
set_option maxRecDepth 20000 in
theorem gX8_isHolding_X8_isWithin : GoodIn wsX8_isHolding (va_wsS RX8 76 yX8_isWithin wsX8_isWithin) := goodIn_app (goodIn_of _ (by decide +kernel)) ggX8_isHolding_X8_isWithin
theorem dX8_isHolding_0 : decode cX8_isHolding 0 = .ok (.iload_n 0, 1) := by decide +kernel
theorem dX8_isHolding_1 : decode cX8_isHolding 1 = .ok (.sipush 500, 3) := by decide +kernel
theorem dX8_isHolding_4 : decode cX8_isHolding 4 = .ok (.invokestatic 76, 3) := by decide +kernel
theorem dX8_isHolding_7 : decode cX8_isHolding 7 = .ok (.ifCond .eq 16, 3) := by decide +kernel
theorem dX8_isHolding_10 : decode cX8_isHolding 10 = .ok (.iload_n 1, 1) := by decide +kernel
theorem dX8_isHolding_11 : decode cX8_isHolding 11 = .ok (.bipush 20, 2) := by decide +kernel
theorem dX8_isHolding_13 : decode cX8_isHolding 13 = .ok (.invokestatic 76, 3) := by decide +kernel
theorem dX8_isHolding_16 : decode cX8_isHolding 16 = .ok (.ifCond .eq 7, 3) := by decide +kernel
theorem dX8_isHolding_19 : decode cX8_isHolding 19 = .ok (.iconst 1, 1) := by decide +kernel
theorem dX8_isHolding_20 : decode cX8_isHolding 20 = .ok (.goto 4, 3) := by decide +kernel
theorem dX8_isHolding_23 : decode cX8_isHolding 23 = .ok (.iconst 0, 1) := by decide +kernel
theorem dX8_isHolding_24 : decode cX8_isHolding 24 = .ok (.ireturn, 1) := by decide +kernel
set_option maxRecDepth 20000 in
theorem ggX8_isHouse_X8_isWithin : GoodIn wsX8_isHouse wsX8_isWithin := goodIn_r _ [5] (by decide +kernel) (by decide +kernel)
set_option maxRecDepth 20000 in
theorem gX8_isHouse_X8_isWithin : GoodIn wsX8_isHouse (va_wsS RX8 76 yX8_isWithin wsX8_isWithin) := goodIn_app (goodIn_of _ (by decide +kernel)) ggX8_isHouse_X8_isWithin
theorem dX8_isHouse_0 : decode cX8_isHouse 0 = .ok (.iload_n 1, 1) := by decide +kernel
theorem dX8_isHouse_1 : decode cX8_isHouse 1 = .ok (.aload_n 0, 1) := by decide +kernel
theorem dX8_isHouse_2 : decode cX8_isHouse 2 = .ok (.getfield 49, 3) := by decide +kernel
theorem dX8_isHouse_5 : decode cX8_isHouse 5 = .ok (.iconst 1, 1) := by decide +kernel
theorem dX8_isHouse_6 : decode cX8_isHouse 6 = .ok (.isub, 1) := by decide +kernel
theorem dX8_isHouse_7 : decode cX8_isHouse 7 = .ok (.invokestatic 76, 3) := by decide +kernel
theorem dX8_isHouse_10 : decode cX8_isHouse 10 = .ok (.ireturn, 1) := by decide +kernel
set_option maxRecDepth 20000 in
theorem ggX8_isYearSoFar_X8_yearNow : GoodIn wsX8_isYearSoFar wsX8_yearNow := goodIn_r _ [5, 6, 10, 11, 12, 13, 14, 15, 16, 17, 18, 19, 20, 21, 22, 23] (by decide +kernel) (by decide +kernel)
set_option maxRecDepth 20000 in
theorem gX8_isYearSoFar_X8_yearNow : GoodIn wsX8_isYearSoFar (wsV RX8 145 RX8 yX8_yearNow wsX8_yearNow) := goodIn_app (goodIn_of _ (by decide +kernel)) ggX8_isYearSoFar_X8_yearNow
set_option maxRecDepth 20000 in
theorem ggX8_isYearSoFar_X8_isWithin : GoodIn wsX8_isYearSoFar wsX8_isWithin := goodIn_r _ [9] (by decide +kernel) (by decide +kernel)
set_option maxRecDepth 20000 in
theorem gX8_isYearSoFar_X8_isWithin : GoodIn wsX8_isYearSoFar (va_wsS RX8 76 yX8_isWithin wsX8_isWithin) := goodIn_app (goodIn_of _ (by decide +kernel)) ggX8_isYearSoFar_X8_isWithin
theorem dX8_isYearSoFar_0 : decode cX8_isYearSoFar 0 = .ok (.iload_n 1, 1) := by decide +kernel
theorem dX8_isYearSoFar_1 : decode cX8_isYearSoFar 1 = .ok (.aload_n 0, 1) := by decide +kernel
theorem dX8_isYearSoFar_2 : decode cX8_isYearSoFar 2 = .ok (.invokevirtual 145, 3) := by decide +kernel
theorem dX8_isYearSoFar_5 : decode cX8_isYearSoFar 5 = .ok (.invokestatic 76, 3) := by decide +kernel
theorem dX8_isYearSoFar_8 : decode cX8_isYearSoFar 8 = .ok (.ireturn, 1) := by decide +kernel
theorem dX8_yearNow_0 : decode cX8_yearNow 0 = .ok (.aload_n 0, 1) := by decide +kernel
theorem dX8_yearNow_1 : decode cX8_yearNow 1 = .ok (.getfield 45, 3) := by decide +kernel
theorem dX8_yearNow_4 : decode cX8_yearNow 4 = .ok (.bipush 52, 2) := by decide +kernel
theorem dX8_yearNow_6 : decode cX8_yearNow 6 = .ok (.idiv, 1) := by decide +kernel
theorem dX8_yearNow_7 : decode cX8_yearNow 7 = .ok (.ireturn, 1) := by decide +kernel
set_option maxRecDepth 20000 in
theorem ggX8_daysOwed_X0_toldAheadOf : GoodIn wsX8_daysOwed wsX0_toldAheadOf := goodIn_r _ [6, 7, 8, 9, 43, 44, 45, 46, 47, 48, 49, 50, 51, 52, 53, 54, 55] (by decide +kernel) (by decide +kernel)
set_option maxRecDepth 20000 in
theorem gX8_daysOwed_X0_toldAheadOf : GoodIn wsX8_daysOwed (wsV RX8 129 RX0 yX0_toldAheadOf wsX0_toldAheadOf) := goodIn_app (goodIn_of _ (by decide +kernel)) ggX8_daysOwed_X0_toldAheadOf
set_option maxRecDepth 20000 in
theorem ggX8_daysOwed_X2_ofYear : GoodIn wsX8_daysOwed wsX2_ofYear := goodIn_r _ [14, 15, 16, 17, 18, 56, 57, 58, 59, 60, 61, 62, 63] (by decide +kernel) (by decide +kernel)
set_option maxRecDepth 20000 in
theorem gX8_daysOwed_X2_ofYear : GoodIn wsX8_daysOwed (wsV RX8 182 RX2 yX2_ofYear wsX2_ofYear) := goodIn_app (goodIn_of _ (by decide +kernel)) ggX8_daysOwed_X2_ofYear
set_option maxRecDepth 20000 in
theorem ggX8_daysOwed_X1_daysFor : GoodIn wsX8_daysOwed wsX1_daysFor := goodIn_r _ [23, 24, 25, 26, 27, 28, 51, 52, 53, 54, 55, 59, 60, 61, 62, 63] (by decide +kernel) (by decide +kernel)
set_option maxRecDepth 20000 in
theorem gX8_daysOwed_X1_daysFor : GoodIn wsX8_daysOwed (wsV RX8 230 RX1 yX1_daysFor wsX1_daysFor) := goodIn_app (goodIn_of _ (by decide +kernel)) ggX8_daysOwed_X1_daysFor
theorem dX8_daysOwed_0 : decode cX8_daysOwed 0 = .ok (.aload_n 1, 1) := by decide +kernel
theorem dX8_daysOwed_1 : decode cX8_daysOwed 1 = .ok (.iload_n 2, 1) := by decide +kernel
theorem dX8_daysOwed_2 : decode cX8_daysOwed 2 = .ok (.bipush 52, 2) := by decide +kernel
theorem dX8_daysOwed_4 : decode cX8_daysOwed 4 = .ok (.imul, 1) := by decide +kernel
theorem dX8_daysOwed_5 : decode cX8_daysOwed 5 = .ok (.invokevirtual 129, 3) := by decide +kernel
theorem dX8_daysOwed_8 : decode cX8_daysOwed 8 = .ok (.astore_n 3, 1) := by decide +kernel
theorem dX8_daysOwed_9 : decode cX8_daysOwed 9 = .ok (.aload_n 3, 1) := by decide +kernel
theorem dX8_daysOwed_10 : decode cX8_daysOwed 10 = .ok (.ifnonnull 7, 3) := by decide +kernel
theorem dX8_daysOwed_13 : decode cX8_daysOwed 13 = .ok (.iconst 0, 1) := by decide +kernel
theorem dX8_daysOwed_14 : decode cX8_daysOwed 14 = .ok (.goto 15, 3) := by decide +kernel
theorem dX8_daysOwed_17 : decode cX8_daysOwed 17 = .ok (.aload_n 0, 1) := by decide +kernel
theorem dX8_daysOwed_18 : decode cX8_daysOwed 18 = .ok (.getfield 30, 3) := by decide +kernel
theorem dX8_daysOwed_21 : decode cX8_daysOwed 21 = .ok (.iload_n 2, 1) := by decide +kernel
theorem dX8_daysOwed_22 : decode cX8_daysOwed 22 = .ok (.invokevirtual 182, 3) := by decide +kernel
theorem dX8_daysOwed_25 : decode cX8_daysOwed 25 = .ok (.aload_n 3, 1) := by decide +kernel
theorem dX8_daysOwed_26 : decode cX8_daysOwed 26 = .ok (.invokevirtual 230, 3) := by decide +kernel
theorem dX8_daysOwed_29 : decode cX8_daysOwed 29 = .ok (.ireturn, 1) := by decide +kernel
set_option maxRecDepth 20000 in
theorem ggX8_daysOwedYet_X8_daysOwed : GoodIn wsX8_daysOwedYet wsX8_daysOwed := goodIn_r _ [9, 10, 11, 12, 13, 14, 15, 16, 17, 18, 19, 20, 21, 22, 23, 24, 25, 26, 27, 28, 29, 30, 31, 32, 33, 34, 35, 36, 37, 45, 46, 47, 48, 49, 50, 51, 52, 53, 54, 55, 56, 57, 58, 59, 60, 61, 62, 63, 64, 65, 66, 67, 68, 69, 70, 71, 72, 73, 74, 75, 76, 77, 78, 79] (by decide +kernel) (by decide +kernel)
set_option maxRecDepth 20000 in
theorem gX8_daysOwedYet_X8_daysOwed : GoodIn wsX8_daysOwedYet (wsV RX8 141 RX8 yX8_daysOwed wsX8_daysOwed) := goodIn_app (goodIn_of _ (by decide +kernel)) ggX8_daysOwedYet_X8_daysOwed
set_option maxRecDepth 20000 in
theorem ggX8_daysOwedYet_X0_daysMet : GoodIn wsX8_daysOwedYet wsX0_daysMet := goodIn_r _ [41, 42, 43, 44, 59, 60, 61, 62, 63, 64, 65, 66] (by decide +kernel) (by decide +kernel)
set_option maxRecDepth 20000 in
theorem gX8_daysOwedYet_X0_daysMet : GoodIn wsX8_daysOwedYet (wsV RX8 234 RX0 yX0_daysMet wsX0_daysMet) := goodIn_app (goodIn_of _ (by decide +kernel)) ggX8_daysOwedYet_X0_daysMet
theorem dX8_daysOwedYet_0 : decode cX8_daysOwedYet 0 = .ok (.iconst 0, 1) := by decide +kernel
theorem dX8_daysOwedYet_1 : decode cX8_daysOwedYet 1 = .ok (.aload_n 0, 1) := by decide +kernel
theorem dX8_daysOwedYet_2 : decode cX8_daysOwedYet 2 = .ok (.aload_n 1, 1) := by decide +kernel
theorem dX8_daysOwedYet_3 : decode cX8_daysOwedYet 3 = .ok (.iload_n 2, 1) := by decide +kernel
theorem dX8_daysOwedYet_4 : decode cX8_daysOwedYet 4 = .ok (.invokevirtual 141, 3) := by decide +kernel
theorem dX8_daysOwedYet_7 : decode cX8_daysOwedYet 7 = .ok (.aload_n 1, 1) := by decide +kernel
theorem dX8_daysOwedYet_8 : decode cX8_daysOwedYet 8 = .ok (.iload_n 2, 1) := by decide +kernel
theorem dX8_daysOwedYet_9 : decode cX8_daysOwedYet 9 = .ok (.invokevirtual 234, 3) := by decide +kernel
theorem dX8_daysOwedYet_12 : decode cX8_daysOwedYet 12 = .ok (.isub, 1) := by decide +kernel
theorem dX8_daysOwedYet_13 : decode cX8_daysOwedYet 13 = .ok (.invokestatic 237, 3) := by decide +kernel
theorem dX8_daysOwedYet_16 : decode cX8_daysOwedYet 16 = .ok (.ireturn, 1) := by decide +kernel
theorem dX8_canSubstitute_0 : decode cX8_canSubstitute 0 = .ok (.aload_n 2, 1) := by decide +kernel
theorem dX8_canSubstitute_1 : decode cX8_canSubstitute 1 = .ok (.getfield 159, 3) := by decide +kernel
theorem dX8_canSubstitute_4 : decode cX8_canSubstitute 4 = .ok (.iload_n 3, 1) := by decide +kernel
theorem dX8_canSubstitute_5 : decode cX8_canSubstitute 5 = .ok (.iaload, 1) := by decide +kernel
theorem dX8_canSubstitute_6 : decode cX8_canSubstitute 6 = .ok (.istore 4, 2) := by decide +kernel
theorem dX8_canSubstitute_8 : decode cX8_canSubstitute 8 = .ok (.aload_n 0, 1) := by decide +kernel
theorem dX8_canSubstitute_9 : decode cX8_canSubstitute 9 = .ok (.getfield 23, 3) := by decide +kernel
theorem dX8_canSubstitute_12 : decode cX8_canSubstitute 12 = .ok (.iload_n 1, 1) := by decide +kernel
theorem dX8_canSubstitute_13 : decode cX8_canSubstitute 13 = .ok (.aaload, 1) := by decide +kernel
theorem dX8_canSubstitute_14 : decode cX8_canSubstitute 14 = .ok (.getfield 168, 3) := by decide +kernel
theorem dX8_canSubstitute_17 : decode cX8_canSubstitute 17 = .ok (.aload_n 2, 1) := by decide +kernel
theorem dX8_canSubstitute_18 : decode cX8_canSubstitute 18 = .ok (.getfield 168, 3) := by decide +kernel
theorem dX8_canSubstitute_21 : decode cX8_canSubstitute 21 = .ok (.if_icmp .ne 19, 3) := by decide +kernel
theorem dX8_canSubstitute_24 : decode cX8_canSubstitute 24 = .ok (.iload 4, 2) := by decide +kernel
theorem dX8_canSubstitute_26 : decode cX8_canSubstitute 26 = .ok (.iconst (-1), 1) := by decide +kernel
theorem dX8_canSubstitute_27 : decode cX8_canSubstitute 27 = .ok (.if_icmp .eq 9, 3) := by decide +kernel
theorem dX8_canSubstitute_30 : decode cX8_canSubstitute 30 = .ok (.iload 4, 2) := by decide +kernel
theorem dX8_canSubstitute_32 : decode cX8_canSubstitute 32 = .ok (.iload_n 1, 1) := by decide +kernel
theorem dX8_canSubstitute_33 : decode cX8_canSubstitute 33 = .ok (.if_icmp .ne 7, 3) := by decide +kernel
theorem dX8_canSubstitute_36 : decode cX8_canSubstitute 36 = .ok (.iconst 1, 1) := by decide +kernel
theorem dX8_canSubstitute_37 : decode cX8_canSubstitute 37 = .ok (.goto 4, 3) := by decide +kernel
theorem dX8_canSubstitute_40 : decode cX8_canSubstitute 40 = .ok (.iconst 0, 1) := by decide +kernel
theorem dX8_canSubstitute_41 : decode cX8_canSubstitute 41 = .ok (.ireturn, 1) := by decide +kernel
set_option maxRecDepth 20000 in
theorem ggX8_endWeek_X4_wear : GoodIn wsX8_endWeek wsX4_wear := goodIn_r _ [7, 8, 9, 10, 25, 26, 27, 28, 29] (by decide +kernel) (by decide +kernel)
set_option maxRecDepth 20000 in
theorem gX8_endWeek_X4_wear : GoodIn wsX8_endWeek (wsV RX8 242 RX4 yX4_wear wsX4_wear) := goodIn_app (goodIn_of _ (by decide +kernel)) ggX8_endWeek_X4_wear
theorem dX8_endWeek_0 : decode cX8_endWeek 0 = .ok (.iconst 0, 1) := by decide +kernel
theorem dX8_endWeek_1 : decode cX8_endWeek 1 = .ok (.istore_n 2, 1) := by decide +kernel
theorem dX8_endWeek_2 : decode cX8_endWeek 2 = .ok (.iload_n 2, 1) := by decide +kernel
theorem dX8_endWeek_3 : decode cX8_endWeek 3 = .ok (.bipush 30, 2) := by decide +kernel
theorem dX8_endWeek_5 : decode cX8_endWeek 5 = .ok (.if_icmp .ge 28, 3) := by decide +kernel
theorem dX8_endWeek_8 : decode cX8_endWeek 8 = .ok (.aload_n 0, 1) := by decide +kernel
theorem dX8_endWeek_9 : decode cX8_endWeek 9 = .ok (.dup, 1) := by decide +kernel
theorem dX8_endWeek_10 : decode cX8_endWeek 10 = .ok (.getfield 58, 3) := by decide +kernel
theorem dX8_endWeek_13 : decode cX8_endWeek 13 = .ok (.aload_n 0, 1) := by decide +kernel
theorem dX8_endWeek_14 : decode cX8_endWeek 14 = .ok (.getfield 17, 3) := by decide +kernel
theorem dX8_endWeek_17 : decode cX8_endWeek 17 = .ok (.iload_n 2, 1) := by decide +kernel
theorem dX8_endWeek_18 : decode cX8_endWeek 18 = .ok (.aaload, 1) := by decide +kernel
theorem dX8_endWeek_19 : decode cX8_endWeek 19 = .ok (.iload_n 1, 1) := by decide +kernel
theorem dX8_endWeek_20 : decode cX8_endWeek 20 = .ok (.invokevirtual 242, 3) := by decide +kernel
theorem dX8_endWeek_23 : decode cX8_endWeek 23 = .ok (.iadd, 1) := by decide +kernel
theorem dX8_endWeek_24 : decode cX8_endWeek 24 = .ok (.putfield 58, 3) := by decide +kernel
theorem dX8_endWeek_27 : decode cX8_endWeek 27 = .ok (.iinc 2 1, 3) := by decide +kernel
theorem dX8_endWeek_30 : decode cX8_endWeek 30 = .ok (.goto (-28), 3) := by decide +kernel
theorem dX8_endWeek_33 : decode cX8_endWeek 33 = .ok (.return_, 1) := by decide +kernel
set_option maxRecDepth 20000 in
theorem ggX8_trueHands_X0_handsIn : GoodIn wsX8_trueHands wsX0_handsIn := goodIn_r _ [8, 9, 10, 11, 12, 27, 28, 29, 30, 31, 32, 33, 34, 35, 36, 37, 38, 39] (by decide +kernel) (by decide +kernel)
set_option maxRecDepth 20000 in
theorem gX8_trueHands_X0_handsIn : GoodIn wsX8_trueHands (wsV RX8 245 RX0 yX0_handsIn wsX0_handsIn) := goodIn_app (goodIn_of _ (by decide +kernel)) ggX8_trueHands_X0_handsIn
theorem dX8_trueHands_0 : decode cX8_trueHands 0 = .ok (.iconst 0, 1) := by decide +kernel
theorem dX8_trueHands_1 : decode cX8_trueHands 1 = .ok (.istore_n 3, 1) := by decide +kernel
theorem dX8_trueHands_2 : decode cX8_trueHands 2 = .ok (.iconst 0, 1) := by decide +kernel
theorem dX8_trueHands_3 : decode cX8_trueHands 3 = .ok (.istore 4, 2) := by decide +kernel
theorem dX8_trueHands_5 : decode cX8_trueHands 5 = .ok (.iload 4, 2) := by decide +kernel
theorem dX8_trueHands_7 : decode cX8_trueHands 7 = .ok (.aload_n 0, 1) := by decide +kernel
theorem dX8_trueHands_8 : decode cX8_trueHands 8 = .ok (.getfield 49, 3) := by decide +kernel
theorem dX8_trueHands_11 : decode cX8_trueHands 11 = .ok (.if_icmp .ge 37, 3) := by decide +kernel
theorem dX8_trueHands_14 : decode cX8_trueHands 14 = .ok (.aload_n 0, 1) := by decide +kernel
theorem dX8_trueHands_15 : decode cX8_trueHands 15 = .ok (.getfield 23, 3) := by decide +kernel
theorem dX8_trueHands_18 : decode cX8_trueHands 18 = .ok (.iload 4, 2) := by decide +kernel
theorem dX8_trueHands_20 : decode cX8_trueHands 20 = .ok (.aaload, 1) := by decide +kernel
theorem dX8_trueHands_21 : decode cX8_trueHands 21 = .ok (.getfield 168, 3) := by decide +kernel
theorem dX8_trueHands_24 : decode cX8_trueHands 24 = .ok (.iload_n 1, 1) := by decide +kernel
theorem dX8_trueHands_25 : decode cX8_trueHands 25 = .ok (.if_icmp .ne 17, 3) := by decide +kernel
theorem dX8_trueHands_28 : decode cX8_trueHands 28 = .ok (.iload_n 3, 1) := by decide +kernel
theorem dX8_trueHands_29 : decode cX8_trueHands 29 = .ok (.aload_n 0, 1) := by decide +kernel
theorem dX8_trueHands_30 : decode cX8_trueHands 30 = .ok (.getfield 23, 3) := by decide +kernel
theorem dX8_trueHands_33 : decode cX8_trueHands 33 = .ok (.iload 4, 2) := by decide +kernel
theorem dX8_trueHands_35 : decode cX8_trueHands 35 = .ok (.aaload, 1) := by decide +kernel
theorem dX8_trueHands_36 : decode cX8_trueHands 36 = .ok (.iload_n 2, 1) := by decide +kernel
theorem dX8_trueHands_37 : decode cX8_trueHands 37 = .ok (.invokevirtual 245, 3) := by decide +kernel
theorem dX8_trueHands_40 : decode cX8_trueHands 40 = .ok (.iadd, 1) := by decide +kernel
theorem dX8_trueHands_41 : decode cX8_trueHands 41 = .ok (.istore_n 3, 1) := by decide +kernel
theorem dX8_trueHands_42 : decode cX8_trueHands 42 = .ok (.iinc 4 1, 3) := by decide +kernel
theorem dX8_trueHands_45 : decode cX8_trueHands 45 = .ok (.goto (-40), 3) := by decide +kernel
theorem dX8_trueHands_48 : decode cX8_trueHands 48 = .ok (.iload_n 3, 1) := by decide +kernel
theorem dX8_trueHands_49 : decode cX8_trueHands 49 = .ok (.ireturn, 1) := by decide +kernel
set_option maxRecDepth 20000 in
theorem ggX8_firstPaperWeek_X8_isVillage : GoodIn wsX8_firstPaperWeek wsX8_isVillage := goodIn_r _ [9, 10, 11, 8, 12] (by decide +kernel) (by decide +kernel)
set_option maxRecDepth 20000 in
theorem gX8_firstPaperWeek_X8_isVillage : GoodIn wsX8_firstPaperWeek (va_wsS RX8 72 yX8_isVillage wsX8_isVillage) := goodIn_app (goodIn_of _ (by decide +kernel)) ggX8_firstPaperWeek_X8_isVillage
set_option maxRecDepth 20000 in
theorem ggX8_firstPaperWeek_X8_trueHands : GoodIn wsX8_firstPaperWeek wsX8_trueHands := goodIn_r _ [16, 17, 18, 19, 20, 21, 22, 23, 24, 25, 26, 27, 28, 29, 30, 31, 32, 33, 34, 35, 36, 37, 38, 39, 40, 41, 42, 49, 50, 51, 52, 53, 54, 55, 56, 57, 58, 59, 60, 61] (by decide +kernel) (by decide +kernel)
set_option maxRecDepth 20000 in
theorem gX8_firstPaperWeek_X8_trueHands : GoodIn wsX8_firstPaperWeek (wsV RX8 227 RX8 yX8_trueHands wsX8_trueHands) := goodIn_app (goodIn_of _ (by decide +kernel)) ggX8_firstPaperWeek_X8_trueHands
theorem dX8_firstPaperWeek_0 : decode cX8_firstPaperWeek 0 = .ok (.iload_n 1, 1) := by decide +kernel
theorem dX8_firstPaperWeek_1 : decode cX8_firstPaperWeek 1 = .ok (.invokestatic 72, 3) := by decide +kernel
theorem dX8_firstPaperWeek_4 : decode cX8_firstPaperWeek 4 = .ok (.ifCond .ne 5, 3) := by decide +kernel
theorem dX8_firstPaperWeek_7 : decode cX8_firstPaperWeek 7 = .ok (.iconst (-1), 1) := by decide +kernel
theorem dX8_firstPaperWeek_8 : decode cX8_firstPaperWeek 8 = .ok (.ireturn, 1) := by decide +kernel
theorem dX8_firstPaperWeek_9 : decode cX8_firstPaperWeek 9 = .ok (.aload_n 0, 1) := by decide +kernel
theorem dX8_firstPaperWeek_10 : decode cX8_firstPaperWeek 10 = .ok (.getfield 11, 3) := by decide +kernel
theorem dX8_firstPaperWeek_13 : decode cX8_firstPaperWeek 13 = .ok (.iload_n 1, 1) := by decide +kernel
theorem dX8_firstPaperWeek_14 : decode cX8_firstPaperWeek 14 = .ok (.aaload, 1) := by decide +kernel
theorem dX8_firstPaperWeek_15 : decode cX8_firstPaperWeek 15 = .ok (.getfield 248, 3) := by decide +kernel
theorem dX8_firstPaperWeek_18 : decode cX8_firstPaperWeek 18 = .ok (.astore_n 2, 1) := by decide +kernel
theorem dX8_firstPaperWeek_19 : decode cX8_firstPaperWeek 19 = .ok (.aload_n 2, 1) := by decide +kernel
theorem dX8_firstPaperWeek_20 : decode cX8_firstPaperWeek 20 = .ok (.ifnull 35, 3) := by decide +kernel
theorem dX8_firstPaperWeek_23 : decode cX8_firstPaperWeek 23 = .ok (.aload_n 2, 1) := by decide +kernel
theorem dX8_firstPaperWeek_24 : decode cX8_firstPaperWeek 24 = .ok (.getfield 252, 3) := by decide +kernel
theorem dX8_firstPaperWeek_27 : decode cX8_firstPaperWeek 27 = .ok (.bipush 6, 2) := by decide +kernel
theorem dX8_firstPaperWeek_29 : decode cX8_firstPaperWeek 29 = .ok (.aload_n 0, 1) := by decide +kernel
theorem dX8_firstPaperWeek_30 : decode cX8_firstPaperWeek 30 = .ok (.iload_n 1, 1) := by decide +kernel
theorem dX8_firstPaperWeek_31 : decode cX8_firstPaperWeek 31 = .ok (.aload_n 2, 1) := by decide +kernel
theorem dX8_firstPaperWeek_32 : decode cX8_firstPaperWeek 32 = .ok (.getfield 255, 3) := by decide +kernel
theorem dX8_firstPaperWeek_35 : decode cX8_firstPaperWeek 35 = .ok (.invokevirtual 227, 3) := by decide +kernel
theorem dX8_firstPaperWeek_38 : decode cX8_firstPaperWeek 38 = .ok (.imul, 1) := by decide +kernel
theorem dX8_firstPaperWeek_39 : decode cX8_firstPaperWeek 39 = .ok (.if_icmp .le 8, 3) := by decide +kernel
theorem dX8_firstPaperWeek_42 : decode cX8_firstPaperWeek 42 = .ok (.aload_n 2, 1) := by decide +kernel
theorem dX8_firstPaperWeek_43 : decode cX8_firstPaperWeek 43 = .ok (.getfield 255, 3) := by decide +kernel
theorem dX8_firstPaperWeek_46 : decode cX8_firstPaperWeek 46 = .ok (.ireturn, 1) := by decide +kernel
theorem dX8_firstPaperWeek_47 : decode cX8_firstPaperWeek 47 = .ok (.aload_n 2, 1) := by decide +kernel
theorem dX8_firstPaperWeek_48 : decode cX8_firstPaperWeek 48 = .ok (.getfield 258, 3) := by decide +kernel
theorem dX8_firstPaperWeek_51 : decode cX8_firstPaperWeek 51 = .ok (.astore_n 2, 1) := by decide +kernel
theorem dX8_firstPaperWeek_52 : decode cX8_firstPaperWeek 52 = .ok (.goto (-33), 3) := by decide +kernel
theorem dX8_firstPaperWeek_55 : decode cX8_firstPaperWeek 55 = .ok (.iconst (-1), 1) := by decide +kernel
theorem dX8_firstPaperWeek_56 : decode cX8_firstPaperWeek 56 = .ok (.ireturn, 1) := by decide +kernel
set_option maxRecDepth 20000 in
theorem ggX8_hourOfCall_X8_hoursFor : GoodIn wsX8_hourOfCall wsX8_hoursFor := goodIn_r _ [6, 7, 8, 9, 10, 11, 12, 5, 13] (by decide +kernel) (by decide +kernel)
set_option maxRecDepth 20000 in
theorem gX8_hourOfCall_X8_hoursFor : GoodIn wsX8_hourOfCall (va_wsS RX8 223 yX8_hoursFor wsX8_hoursFor) := goodIn_app (goodIn_of _ (by decide +kernel)) ggX8_hourOfCall_X8_hoursFor
theorem dX8_hourOfCall_0 : decode cX8_hourOfCall 0 = .ok (.aload_n 0, 1) := by decide +kernel
theorem dX8_hourOfCall_1 : decode cX8_hourOfCall 1 = .ok (.getfield 11, 3) := by decide +kernel
theorem dX8_hourOfCall_4 : decode cX8_hourOfCall 4 = .ok (.iload_n 1, 1) := by decide +kernel
theorem dX8_hourOfCall_5 : decode cX8_hourOfCall 5 = .ok (.aaload, 1) := by decide +kernel
theorem dX8_hourOfCall_6 : decode cX8_hourOfCall 6 = .ok (.getfield 80, 3) := by decide +kernel
theorem dX8_hourOfCall_9 : decode cX8_hourOfCall 9 = .ok (.aload_n 0, 1) := by decide +kernel
theorem dX8_hourOfCall_10 : decode cX8_hourOfCall 10 = .ok (.getfield 11, 3) := by decide +kernel
theorem dX8_hourOfCall_13 : decode cX8_hourOfCall 13 = .ok (.iload_n 2, 1) := by decide +kernel
theorem dX8_hourOfCall_14 : decode cX8_hourOfCall 14 = .ok (.aaload, 1) := by decide +kernel
theorem dX8_hourOfCall_15 : decode cX8_hourOfCall 15 = .ok (.getfield 80, 3) := by decide +kernel
theorem dX8_hourOfCall_18 : decode cX8_hourOfCall 18 = .ok (.bipush 6, 2) := by decide +kernel
theorem dX8_hourOfCall_20 : decode cX8_hourOfCall 20 = .ok (.invokestatic 223, 3) := by decide +kernel
theorem dX8_hourOfCall_23 : decode cX8_hourOfCall 23 = .ok (.ireturn, 1) := by decide +kernel
set_option maxRecDepth 20000 in
theorem ggX8_hoursFor_X8_dividedUp : GoodIn wsX8_hoursFor wsX8_dividedUp := goodIn_r _ [8] (by decide +kernel) (by decide +kernel)
set_option maxRecDepth 20000 in
theorem gX8_hoursFor_X8_dividedUp : GoodIn wsX8_hoursFor (va_wsS RX8 264 yX8_dividedUp wsX8_dividedUp) := goodIn_app (goodIn_of _ (by decide +kernel)) ggX8_hoursFor_X8_dividedUp
theorem dX8_hoursFor_0 : decode cX8_hoursFor 0 = .ok (.iload_n 0, 1) := by decide +kernel
theorem dX8_hoursFor_1 : decode cX8_hoursFor 1 = .ok (.iload_n 1, 1) := by decide +kernel
theorem dX8_hoursFor_2 : decode cX8_hoursFor 2 = .ok (.isub, 1) := by decide +kernel
theorem dX8_hoursFor_3 : decode cX8_hoursFor 3 = .ok (.invokestatic 261, 3) := by decide +kernel
theorem dX8_hoursFor_6 : decode cX8_hoursFor 6 = .ok (.iload_n 2, 1) := by decide +kernel
theorem dX8_hoursFor_7 : decode cX8_hoursFor 7 = .ok (.invokestatic 264, 3) := by decide +kernel
theorem dX8_hoursFor_10 : decode cX8_hoursFor 10 = .ok (.ireturn, 1) := by decide +kernel
theorem dX8_dividedUp_0 : decode cX8_dividedUp 0 = .ok (.iload_n 1, 1) := by decide +kernel
theorem dX8_dividedUp_1 : decode cX8_dividedUp 1 = .ok (.ifCond .gt 7, 3) := by decide +kernel
theorem dX8_dividedUp_4 : decode cX8_dividedUp 4 = .ok (.iconst 0, 1) := by decide +kernel
theorem dX8_dividedUp_5 : decode cX8_dividedUp 5 = .ok (.goto 10, 3) := by decide +kernel
theorem dX8_dividedUp_8 : decode cX8_dividedUp 8 = .ok (.iload_n 0, 1) := by decide +kernel
theorem dX8_dividedUp_9 : decode cX8_dividedUp 9 = .ok (.iload_n 1, 1) := by decide +kernel
theorem dX8_dividedUp_10 : decode cX8_dividedUp 10 = .ok (.iadd, 1) := by decide +kernel
theorem dX8_dividedUp_11 : decode cX8_dividedUp 11 = .ok (.iconst 1, 1) := by decide +kernel
theorem dX8_dividedUp_12 : decode cX8_dividedUp 12 = .ok (.isub, 1) := by decide +kernel
theorem dX8_dividedUp_13 : decode cX8_dividedUp 13 = .ok (.iload_n 1, 1) := by decide +kernel
theorem dX8_dividedUp_14 : decode cX8_dividedUp 14 = .ok (.idiv, 1) := by decide +kernel
theorem dX8_dividedUp_15 : decode cX8_dividedUp 15 = .ok (.ireturn, 1) := by decide +kernel
