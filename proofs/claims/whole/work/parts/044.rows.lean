set_option maxRecDepth 20000 in
theorem ggX12_shorter_X12_isApp : GoodIn wsX12_shorter wsX12_isApp := goodIn_r _ [10, 11, 65, 66, 67, 68, 69, 70, 71, 72, 73, 74, 75, 76, 77, 78, 79, 80, 81, 82, 83, 84, 85, 86, 87, 88, 89, 90, 91, 92, 93, 94, 95, 96, 97, 98, 99, 100, 101, 102, 103, 104, 105, 106, 107, 108, 109, 110, 111, 112, 113, 114, 115, 116, 117, 118, 119, 120] (by decide +kernel) (by decide +kernel)
set_option maxRecDepth 20000 in
theorem gX12_shorter_X12_isApp : GoodIn wsX12_shorter (wsV RX12 340 RX12 yX12_isApp wsX12_isApp) := goodIn_app (goodIn_of _ (by decide +kernel)) ggX12_shorter_X12_isApp
set_option maxRecDepth 20000 in
theorem ggX12_shorter_X12_refused : GoodIn wsX12_shorter wsX12_refused := goodIn_r _ [15, 16, 17, 65, 66, 67, 68, 69, 70, 71, 72, 73, 74, 75, 76, 77, 78, 79, 80, 81, 82, 83, 84, 85, 86, 87, 88, 89, 90, 91, 92, 93, 94, 95, 96, 97, 98, 99, 100, 101, 102, 103, 104, 105, 106, 107, 108, 109, 110, 111, 112, 113, 114, 115, 116, 117, 118, 119, 120] (by decide +kernel) (by decide +kernel)
set_option maxRecDepth 20000 in
theorem gX12_shorter_X12_refused : GoodIn wsX12_shorter (wsV RX12 316 RX12 yX12_refused wsX12_refused) := goodIn_app (goodIn_of _ (by decide +kernel)) ggX12_shorter_X12_refused
set_option maxRecDepth 20000 in
theorem ggX12_shorter_X12_comes : GoodIn wsX12_shorter wsX12_comes := goodIn_r _ [21, 3, 4, 22, 5, 23, 24, 25, 9, 26, 27, 28, 29, 30, 31, 32, 33, 34, 35, 36, 37, 38, 39, 40, 41, 42, 43, 44, 45, 46, 47, 48, 49, 50, 51, 52, 53, 54, 55, 56, 57, 58, 59, 60, 65, 66, 67, 68, 69, 70, 71, 72, 73, 74, 75, 76, 77, 78, 79, 80, 81, 82, 83, 84, 85, 86, 87, 88, 89, 90, 91, 92, 93, 94, 95, 96, 97, 98, 99, 100, 101, 102, 103, 104, 105, 106, 107, 108, 109, 110, 111, 112, 113, 114, 115, 116, 117, 118, 119, 120, 121, 122, 123, 124, 125, 126, 127, 128, 129, 130, 131, 132, 133, 134, 135, 136, 137, 138, 139, 140, 141, 142] (by decide +kernel) (by decide +kernel)
set_option maxRecDepth 20000 in
theorem gX12_shorter_X12_comes : GoodIn wsX12_shorter (wsV RX12 421 RX12 yX12_comes wsX12_comes) := goodIn_app (goodIn_of _ (by decide +kernel)) ggX12_shorter_X12_comes
set_option maxRecDepth 20000 in
theorem ggX12_shorter_X12_done : GoodIn wsX12_shorter wsX12_done := goodIn_r _ [64, 16, 17, 65, 66, 67, 68, 69, 70, 71, 72, 73, 74, 75, 76, 77, 78, 79, 80, 81, 82, 83, 84, 85, 86, 87, 88, 89, 90, 91, 92, 93, 94, 95, 96, 97, 98, 99, 100, 101, 102, 103, 104, 105, 106, 107, 108, 109, 110, 111, 112, 113, 114, 115, 116, 117, 118, 119, 120] (by decide +kernel) (by decide +kernel)
set_option maxRecDepth 20000 in
theorem gX12_shorter_X12_done : GoodIn wsX12_shorter (wsV RX12 337 RX12 yX12_done wsX12_done) := goodIn_app (goodIn_of _ (by decide +kernel)) ggX12_shorter_X12_done
theorem dX12_shorter_0 : decode cX12_shorter 0 = .ok (.aload_n 0, 1) := by decide +kernel
theorem dX12_shorter_1 : decode cX12_shorter 1 = .ok (.iconst 0, 1) := by decide +kernel
theorem dX12_shorter_2 : decode cX12_shorter 2 = .ok (.putfield 1, 3) := by decide +kernel
theorem dX12_shorter_5 : decode cX12_shorter 5 = .ok (.aload_n 0, 1) := by decide +kernel
theorem dX12_shorter_6 : decode cX12_shorter 6 = .ok (.iload_n 1, 1) := by decide +kernel
theorem dX12_shorter_7 : decode cX12_shorter 7 = .ok (.invokevirtual 340, 3) := by decide +kernel
theorem dX12_shorter_10 : decode cX12_shorter 10 = .ok (.ifCond .ne 9, 3) := by decide +kernel
theorem dX12_shorter_13 : decode cX12_shorter 13 = .ok (.aload_n 0, 1) := by decide +kernel
theorem dX12_shorter_14 : decode cX12_shorter 14 = .ok (.iconst 1, 1) := by decide +kernel
theorem dX12_shorter_15 : decode cX12_shorter 15 = .ok (.invokevirtual 316, 3) := by decide +kernel
theorem dX12_shorter_18 : decode cX12_shorter 18 = .ok (.ireturn, 1) := by decide +kernel
theorem dX12_shorter_19 : decode cX12_shorter 19 = .ok (.aload_n 0, 1) := by decide +kernel
theorem dX12_shorter_20 : decode cX12_shorter 20 = .ok (.aload_n 0, 1) := by decide +kernel
theorem dX12_shorter_21 : decode cX12_shorter 21 = .ok (.getfield 21, 3) := by decide +kernel
theorem dX12_shorter_24 : decode cX12_shorter 24 = .ok (.iload_n 1, 1) := by decide +kernel
theorem dX12_shorter_25 : decode cX12_shorter 25 = .ok (.aaload, 1) := by decide +kernel
theorem dX12_shorter_26 : decode cX12_shorter 26 = .ok (.iconst (-1), 1) := by decide +kernel
theorem dX12_shorter_27 : decode cX12_shorter 27 = .ok (.invokevirtual 421, 3) := by decide +kernel
theorem dX12_shorter_30 : decode cX12_shorter 30 = .ok (.istore_n 2, 1) := by decide +kernel
theorem dX12_shorter_31 : decode cX12_shorter 31 = .ok (.iload_n 2, 1) := by decide +kernel
theorem dX12_shorter_32 : decode cX12_shorter 32 = .ok (.ifCond .ne 9, 3) := by decide +kernel
theorem dX12_shorter_35 : decode cX12_shorter 35 = .ok (.aload_n 0, 1) := by decide +kernel
theorem dX12_shorter_36 : decode cX12_shorter 36 = .ok (.iconst 4, 1) := by decide +kernel
theorem dX12_shorter_37 : decode cX12_shorter 37 = .ok (.invokevirtual 316, 3) := by decide +kernel
theorem dX12_shorter_40 : decode cX12_shorter 40 = .ok (.ireturn, 1) := by decide +kernel
theorem dX12_shorter_41 : decode cX12_shorter 41 = .ok (.aload_n 0, 1) := by decide +kernel
theorem dX12_shorter_42 : decode cX12_shorter 42 = .ok (.aload_n 0, 1) := by decide +kernel
theorem dX12_shorter_43 : decode cX12_shorter 43 = .ok (.getfield 418, 3) := by decide +kernel
theorem dX12_shorter_46 : decode cX12_shorter 46 = .ok (.putfield 415, 3) := by decide +kernel
theorem dX12_shorter_49 : decode cX12_shorter 49 = .ok (.iconst 1, 1) := by decide +kernel
theorem dX12_shorter_50 : decode cX12_shorter 50 = .ok (.istore_n 3, 1) := by decide +kernel
theorem dX12_shorter_51 : decode cX12_shorter 51 = .ok (.iload_n 3, 1) := by decide +kernel
theorem dX12_shorter_52 : decode cX12_shorter 52 = .ok (.ifCond .eq 95, 3) := by decide +kernel
theorem dX12_shorter_55 : decode cX12_shorter 55 = .ok (.iconst 0, 1) := by decide +kernel
theorem dX12_shorter_56 : decode cX12_shorter 56 = .ok (.istore_n 3, 1) := by decide +kernel
theorem dX12_shorter_57 : decode cX12_shorter 57 = .ok (.aload_n 0, 1) := by decide +kernel
theorem dX12_shorter_58 : decode cX12_shorter 58 = .ok (.getfield 415, 3) := by decide +kernel
theorem dX12_shorter_61 : decode cX12_shorter 61 = .ok (.iconst 1, 1) := by decide +kernel
theorem dX12_shorter_62 : decode cX12_shorter 62 = .ok (.isub, 1) := by decide +kernel
theorem dX12_shorter_63 : decode cX12_shorter 63 = .ok (.istore 4, 2) := by decide +kernel
theorem dX12_shorter_65 : decode cX12_shorter 65 = .ok (.iload 4, 2) := by decide +kernel
theorem dX12_shorter_67 : decode cX12_shorter 67 = .ok (.ifCond .lt 77, 3) := by decide +kernel
theorem dX12_shorter_70 : decode cX12_shorter 70 = .ok (.aload_n 0, 1) := by decide +kernel
theorem dX12_shorter_71 : decode cX12_shorter 71 = .ok (.aload_n 0, 1) := by decide +kernel
theorem dX12_shorter_72 : decode cX12_shorter 72 = .ok (.getfield 21, 3) := by decide +kernel
theorem dX12_shorter_75 : decode cX12_shorter 75 = .ok (.iload_n 1, 1) := by decide +kernel
theorem dX12_shorter_76 : decode cX12_shorter 76 = .ok (.aaload, 1) := by decide +kernel
theorem dX12_shorter_77 : decode cX12_shorter 77 = .ok (.iload 4, 2) := by decide +kernel
theorem dX12_shorter_79 : decode cX12_shorter 79 = .ok (.invokevirtual 421, 3) := by decide +kernel
theorem dX12_shorter_82 : decode cX12_shorter 82 = .ok (.iload_n 2, 1) := by decide +kernel
theorem dX12_shorter_83 : decode cX12_shorter 83 = .ok (.if_icmp .eq 6, 3) := by decide +kernel
theorem dX12_shorter_86 : decode cX12_shorter 86 = .ok (.goto 52, 3) := by decide +kernel
theorem dX12_shorter_89 : decode cX12_shorter 89 = .ok (.iload 4, 2) := by decide +kernel
theorem dX12_shorter_91 : decode cX12_shorter 91 = .ok (.iconst 1, 1) := by decide +kernel
theorem dX12_shorter_92 : decode cX12_shorter 92 = .ok (.iadd, 1) := by decide +kernel
theorem dX12_shorter_93 : decode cX12_shorter 93 = .ok (.istore 5, 2) := by decide +kernel
theorem dX12_shorter_95 : decode cX12_shorter 95 = .ok (.iload 5, 2) := by decide +kernel
theorem dX12_shorter_97 : decode cX12_shorter 97 = .ok (.aload_n 0, 1) := by decide +kernel
theorem dX12_shorter_98 : decode cX12_shorter 98 = .ok (.getfield 415, 3) := by decide +kernel
theorem dX12_shorter_101 : decode cX12_shorter 101 = .ok (.if_icmp .ge 25, 3) := by decide +kernel
theorem dX12_shorter_104 : decode cX12_shorter 104 = .ok (.aload_n 0, 1) := by decide +kernel
theorem dX12_shorter_105 : decode cX12_shorter 105 = .ok (.getfield 101, 3) := by decide +kernel
theorem dX12_shorter_108 : decode cX12_shorter 108 = .ok (.iload 5, 2) := by decide +kernel
theorem dX12_shorter_110 : decode cX12_shorter 110 = .ok (.iconst 1, 1) := by decide +kernel
theorem dX12_shorter_111 : decode cX12_shorter 111 = .ok (.isub, 1) := by decide +kernel
theorem dX12_shorter_112 : decode cX12_shorter 112 = .ok (.aload_n 0, 1) := by decide +kernel
theorem dX12_shorter_113 : decode cX12_shorter 113 = .ok (.getfield 101, 3) := by decide +kernel
theorem dX12_shorter_116 : decode cX12_shorter 116 = .ok (.iload 5, 2) := by decide +kernel
theorem dX12_shorter_118 : decode cX12_shorter 118 = .ok (.iaload, 1) := by decide +kernel
theorem dX12_shorter_119 : decode cX12_shorter 119 = .ok (.iastore, 1) := by decide +kernel
theorem dX12_shorter_120 : decode cX12_shorter 120 = .ok (.iinc 5 1, 3) := by decide +kernel
theorem dX12_shorter_123 : decode cX12_shorter 123 = .ok (.goto (-28), 3) := by decide +kernel
theorem dX12_shorter_126 : decode cX12_shorter 126 = .ok (.aload_n 0, 1) := by decide +kernel
theorem dX12_shorter_127 : decode cX12_shorter 127 = .ok (.dup, 1) := by decide +kernel
theorem dX12_shorter_128 : decode cX12_shorter 128 = .ok (.getfield 415, 3) := by decide +kernel
theorem dX12_shorter_131 : decode cX12_shorter 131 = .ok (.iconst 1, 1) := by decide +kernel
theorem dX12_shorter_132 : decode cX12_shorter 132 = .ok (.isub, 1) := by decide +kernel
theorem dX12_shorter_133 : decode cX12_shorter 133 = .ok (.putfield 415, 3) := by decide +kernel
theorem dX12_shorter_136 : decode cX12_shorter 136 = .ok (.iconst 1, 1) := by decide +kernel
theorem dX12_shorter_137 : decode cX12_shorter 137 = .ok (.istore_n 3, 1) := by decide +kernel
theorem dX12_shorter_138 : decode cX12_shorter 138 = .ok (.iinc 4 (-1), 3) := by decide +kernel
theorem dX12_shorter_141 : decode cX12_shorter 141 = .ok (.goto (-76), 3) := by decide +kernel
theorem dX12_shorter_144 : decode cX12_shorter 144 = .ok (.goto (-93), 3) := by decide +kernel
theorem dX12_shorter_147 : decode cX12_shorter 147 = .ok (.aload_n 0, 1) := by decide +kernel
theorem dX12_shorter_148 : decode cX12_shorter 148 = .ok (.aload_n 0, 1) := by decide +kernel
theorem dX12_shorter_149 : decode cX12_shorter 149 = .ok (.getfield 415, 3) := by decide +kernel
theorem dX12_shorter_152 : decode cX12_shorter 152 = .ok (.invokevirtual 337, 3) := by decide +kernel
theorem dX12_shorter_155 : decode cX12_shorter 155 = .ok (.ireturn, 1) := by decide +kernel
theorem dX12_row_0 : decode cX12_row 0 = .ok (.aload_n 0, 1) := by decide +kernel
theorem dX12_row_1 : decode cX12_row 1 = .ok (.iload_n 1, 1) := by decide +kernel
theorem dX12_row_2 : decode cX12_row 2 = .ok (.ifCond .lt 11, 3) := by decide +kernel
theorem dX12_row_5 : decode cX12_row 5 = .ok (.iload_n 1, 1) := by decide +kernel
theorem dX12_row_6 : decode cX12_row 6 = .ok (.aload_n 0, 1) := by decide +kernel
theorem dX12_row_7 : decode cX12_row 7 = .ok (.getfield 415, 3) := by decide +kernel
theorem dX12_row_10 : decode cX12_row 10 = .ok (.if_icmp .lt 7, 3) := by decide +kernel
theorem dX12_row_13 : decode cX12_row 13 = .ok (.iconst 1, 1) := by decide +kernel
theorem dX12_row_14 : decode cX12_row 14 = .ok (.goto 4, 3) := by decide +kernel
theorem dX12_row_17 : decode cX12_row 17 = .ok (.iconst 0, 1) := by decide +kernel
theorem dX12_row_18 : decode cX12_row 18 = .ok (.putfield 1, 3) := by decide +kernel
theorem dX12_row_21 : decode cX12_row 21 = .ok (.aload_n 0, 1) := by decide +kernel
theorem dX12_row_22 : decode cX12_row 22 = .ok (.getfield 1, 3) := by decide +kernel
theorem dX12_row_25 : decode cX12_row 25 = .ok (.ifCond .le 7, 3) := by decide +kernel
theorem dX12_row_28 : decode cX12_row 28 = .ok (.iconst 0, 1) := by decide +kernel
theorem dX12_row_29 : decode cX12_row 29 = .ok (.goto 9, 3) := by decide +kernel
theorem dX12_row_32 : decode cX12_row 32 = .ok (.aload_n 0, 1) := by decide +kernel
theorem dX12_row_33 : decode cX12_row 33 = .ok (.getfield 101, 3) := by decide +kernel
theorem dX12_row_36 : decode cX12_row 36 = .ok (.iload_n 1, 1) := by decide +kernel
theorem dX12_row_37 : decode cX12_row 37 = .ok (.iaload, 1) := by decide +kernel
theorem dX12_row_38 : decode cX12_row 38 = .ok (.ireturn, 1) := by decide +kernel
set_option maxRecDepth 20000 in
theorem ggX12_sameAct_X12_possible : GoodIn wsX12_sameAct wsX12_possible := goodIn_r _ [5, 6, 7, 8, 9, 10, 11, 12, 13, 4, 14, 15, 16, 39, 40, 41, 42, 43, 44, 45, 46, 47, 48, 49, 50, 51, 52, 53, 54, 55, 56, 57, 58, 59, 60, 61, 62, 63, 64, 65, 66, 67, 68, 69, 70, 71, 72, 73, 74, 75, 76, 77, 78, 79, 80, 81, 82, 83, 84, 85, 86, 87, 88, 89, 90, 91, 92, 93, 94, 17, 18, 19, 20, 21, 22, 23, 24, 25, 26, 27, 28, 29, 30, 31, 32, 33, 34, 35, 36, 37, 38] (by decide +kernel) (by decide +kernel)
set_option maxRecDepth 20000 in
theorem gX12_sameAct_X12_possible : GoodIn wsX12_sameAct (wsV RX12 381 RX12 yX12_possible wsX12_possible) := goodIn_app (goodIn_of _ (by decide +kernel)) ggX12_sameAct_X12_possible
theorem dX12_sameAct_0 : decode cX12_sameAct 0 = .ok (.aload_n 0, 1) := by decide +kernel
theorem dX12_sameAct_1 : decode cX12_sameAct 1 = .ok (.aload_n 2, 1) := by decide +kernel
theorem dX12_sameAct_2 : decode cX12_sameAct 2 = .ok (.invokevirtual 381, 3) := by decide +kernel
theorem dX12_sameAct_5 : decode cX12_sameAct 5 = .ok (.istore 4, 2) := by decide +kernel
theorem dX12_sameAct_7 : decode cX12_sameAct 7 = .ok (.iload_n 3, 1) := by decide +kernel
theorem dX12_sameAct_8 : decode cX12_sameAct 8 = .ok (.bipush 24, 2) := by decide +kernel
theorem dX12_sameAct_10 : decode cX12_sameAct 10 = .ok (.if_icmp .lt 19, 3) := by decide +kernel
theorem dX12_sameAct_13 : decode cX12_sameAct 13 = .ok (.iload 4, 2) := by decide +kernel
theorem dX12_sameAct_15 : decode cX12_sameAct 15 = .ok (.iload_n 3, 1) := by decide +kernel
theorem dX12_sameAct_16 : decode cX12_sameAct 16 = .ok (.ishr, 1) := by decide +kernel
theorem dX12_sameAct_17 : decode cX12_sameAct 17 = .ok (.iconst 1, 1) := by decide +kernel
theorem dX12_sameAct_18 : decode cX12_sameAct 18 = .ok (.iand, 1) := by decide +kernel
theorem dX12_sameAct_19 : decode cX12_sameAct 19 = .ok (.iconst 1, 1) := by decide +kernel
theorem dX12_sameAct_20 : decode cX12_sameAct 20 = .ok (.if_icmp .ne 7, 3) := by decide +kernel
theorem dX12_sameAct_23 : decode cX12_sameAct 23 = .ok (.iload_n 3, 1) := by decide +kernel
theorem dX12_sameAct_24 : decode cX12_sameAct 24 = .ok (.goto 4, 3) := by decide +kernel
theorem dX12_sameAct_27 : decode cX12_sameAct 27 = .ok (.iconst (-1), 1) := by decide +kernel
theorem dX12_sameAct_28 : decode cX12_sameAct 28 = .ok (.ireturn, 1) := by decide +kernel
theorem dX12_sameAct_29 : decode cX12_sameAct 29 = .ok (.iconst 0, 1) := by decide +kernel
theorem dX12_sameAct_30 : decode cX12_sameAct 30 = .ok (.istore 5, 2) := by decide +kernel
theorem dX12_sameAct_32 : decode cX12_sameAct 32 = .ok (.iload 5, 2) := by decide +kernel
theorem dX12_sameAct_34 : decode cX12_sameAct 34 = .ok (.aload_n 2, 1) := by decide +kernel
theorem dX12_sameAct_35 : decode cX12_sameAct 35 = .ok (.getfield 208, 3) := by decide +kernel
theorem dX12_sameAct_38 : decode cX12_sameAct 38 = .ok (.if_icmp .ge 36, 3) := by decide +kernel
theorem dX12_sameAct_41 : decode cX12_sameAct 41 = .ok (.iload 4, 2) := by decide +kernel
theorem dX12_sameAct_43 : decode cX12_sameAct 43 = .ok (.iload 5, 2) := by decide +kernel
theorem dX12_sameAct_45 : decode cX12_sameAct 45 = .ok (.ishr, 1) := by decide +kernel
theorem dX12_sameAct_46 : decode cX12_sameAct 46 = .ok (.iconst 1, 1) := by decide +kernel
theorem dX12_sameAct_47 : decode cX12_sameAct 47 = .ok (.iand, 1) := by decide +kernel
theorem dX12_sameAct_48 : decode cX12_sameAct 48 = .ok (.ifCond .eq 20, 3) := by decide +kernel
theorem dX12_sameAct_51 : decode cX12_sameAct 51 = .ok (.aload_n 2, 1) := by decide +kernel
theorem dX12_sameAct_52 : decode cX12_sameAct 52 = .ok (.getfield 264, 3) := by decide +kernel
theorem dX12_sameAct_55 : decode cX12_sameAct 55 = .ok (.iload 5, 2) := by decide +kernel
theorem dX12_sameAct_57 : decode cX12_sameAct 57 = .ok (.laload, 1) := by decide +kernel
theorem dX12_sameAct_58 : decode cX12_sameAct 58 = .ok (.aload_n 1, 1) := by decide +kernel
theorem dX12_sameAct_59 : decode cX12_sameAct 59 = .ok (.getfield 264, 3) := by decide +kernel
theorem dX12_sameAct_62 : decode cX12_sameAct 62 = .ok (.iload_n 3, 1) := by decide +kernel
theorem dX12_sameAct_63 : decode cX12_sameAct 63 = .ok (.laload, 1) := by decide +kernel
theorem dX12_sameAct_64 : decode cX12_sameAct 64 = .ok (.lcmp, 1) := by decide +kernel
theorem dX12_sameAct_65 : decode cX12_sameAct 65 = .ok (.ifCond .eq 9, 3) := by decide +kernel
theorem dX12_sameAct_68 : decode cX12_sameAct 68 = .ok (.iinc 5 1, 3) := by decide +kernel
theorem dX12_sameAct_71 : decode cX12_sameAct 71 = .ok (.goto (-39), 3) := by decide +kernel
theorem dX12_sameAct_74 : decode cX12_sameAct 74 = .ok (.iload 5, 2) := by decide +kernel
theorem dX12_sameAct_76 : decode cX12_sameAct 76 = .ok (.aload_n 2, 1) := by decide +kernel
theorem dX12_sameAct_77 : decode cX12_sameAct 77 = .ok (.getfield 208, 3) := by decide +kernel
theorem dX12_sameAct_80 : decode cX12_sameAct 80 = .ok (.if_icmp .ge 8, 3) := by decide +kernel
theorem dX12_sameAct_83 : decode cX12_sameAct 83 = .ok (.iload 5, 2) := by decide +kernel
theorem dX12_sameAct_85 : decode cX12_sameAct 85 = .ok (.goto 4, 3) := by decide +kernel
theorem dX12_sameAct_88 : decode cX12_sameAct 88 = .ok (.iconst (-1), 1) := by decide +kernel
theorem dX12_sameAct_89 : decode cX12_sameAct 89 = .ok (.ireturn, 1) := by decide +kernel
set_option maxRecDepth 20000 in
theorem ggX12_sees_X12_pressed : GoodIn wsX12_sees wsX12_pressed := goodIn_r _ [15, 1, 6, 7, 9, 16, 17, 18, 19, 20, 21, 22, 23, 24, 25, 26, 27, 28, 29, 30, 31, 32, 33, 34, 35, 36, 37, 38, 39, 40, 41, 42, 43, 44, 45, 46, 47, 48, 49, 50, 51, 52, 53, 54, 55, 56, 57, 58, 59, 60, 61, 62, 63, 64, 65, 66, 67, 68, 69, 70, 71, 72, 73, 74, 75, 76, 77, 78, 79, 80, 81, 82, 83, 84, 85, 86, 87, 88, 89, 90, 91, 92, 93] (by decide +kernel) (by decide +kernel)
set_option maxRecDepth 20000 in
theorem gX12_sees_X12_pressed : GoodIn wsX12_sees (wsV RX12 354 RX12 yX12_pressed wsX12_pressed) := goodIn_app (goodIn_of _ (by decide +kernel)) ggX12_sees_X12_pressed
theorem dX12_sees_0 : decode cX12_sees 0 = .ok (.aload_n 0, 1) := by decide +kernel
theorem dX12_sees_1 : decode cX12_sees 1 = .ok (.aload_n 0, 1) := by decide +kernel
theorem dX12_sees_2 : decode cX12_sees 2 = .ok (.getfield 343, 3) := by decide +kernel
theorem dX12_sees_5 : decode cX12_sees 5 = .ok (.putfield 425, 3) := by decide +kernel
theorem dX12_sees_8 : decode cX12_sees 8 = .ok (.aload_n 0, 1) := by decide +kernel
theorem dX12_sees_9 : decode cX12_sees 9 = .ok (.iconst 0, 1) := by decide +kernel
theorem dX12_sees_10 : decode cX12_sees 10 = .ok (.putfield 428, 3) := by decide +kernel
theorem dX12_sees_13 : decode cX12_sees 13 = .ok (.aload_n 0, 1) := by decide +kernel
theorem dX12_sees_14 : decode cX12_sees 14 = .ok (.iconst 0, 1) := by decide +kernel
theorem dX12_sees_15 : decode cX12_sees 15 = .ok (.putfield 431, 3) := by decide +kernel
theorem dX12_sees_18 : decode cX12_sees 18 = .ok (.aload_n 0, 1) := by decide +kernel
theorem dX12_sees_19 : decode cX12_sees 19 = .ok (.lconst 0, 1) := by decide +kernel
theorem dX12_sees_20 : decode cX12_sees 20 = .ok (.putfield 434, 3) := by decide +kernel
theorem dX12_sees_23 : decode cX12_sees 23 = .ok (.aload_n 0, 1) := by decide +kernel
theorem dX12_sees_24 : decode cX12_sees 24 = .ok (.getfield 343, 3) := by decide +kernel
theorem dX12_sees_27 : decode cX12_sees 27 = .ok (.ifCond .le 4, 3) := by decide +kernel
theorem dX12_sees_30 : decode cX12_sees 30 = .ok (.return_, 1) := by decide +kernel
theorem dX12_sees_31 : decode cX12_sees 31 = .ok (.aload_n 0, 1) := by decide +kernel
theorem dX12_sees_32 : decode cX12_sees 32 = .ok (.getfield 52, 3) := by decide +kernel
theorem dX12_sees_35 : decode cX12_sees 35 = .ok (.aload_n 0, 1) := by decide +kernel
theorem dX12_sees_36 : decode cX12_sees 36 = .ok (.getfield 346, 3) := by decide +kernel
theorem dX12_sees_39 : decode cX12_sees 39 = .ok (.iconst 1, 1) := by decide +kernel
theorem dX12_sees_40 : decode cX12_sees 40 = .ok (.isub, 1) := by decide +kernel
theorem dX12_sees_41 : decode cX12_sees 41 = .ok (.iaload, 1) := by decide +kernel
theorem dX12_sees_42 : decode cX12_sees 42 = .ok (.istore_n 2, 1) := by decide +kernel
theorem dX12_sees_43 : decode cX12_sees 43 = .ok (.aload_n 0, 1) := by decide +kernel
theorem dX12_sees_44 : decode cX12_sees 44 = .ok (.aload_n 1, 1) := by decide +kernel
theorem dX12_sees_45 : decode cX12_sees 45 = .ok (.getfield 228, 3) := by decide +kernel
theorem dX12_sees_48 : decode cX12_sees 48 = .ok (.iload_n 2, 1) := by decide +kernel
theorem dX12_sees_49 : decode cX12_sees 49 = .ok (.laload, 1) := by decide +kernel
theorem dX12_sees_50 : decode cX12_sees 50 = .ok (.putfield 434, 3) := by decide +kernel
theorem dX12_sees_53 : decode cX12_sees 53 = .ok (.aload_n 0, 1) := by decide +kernel
theorem dX12_sees_54 : decode cX12_sees 54 = .ok (.getfield 428, 3) := by decide +kernel
theorem dX12_sees_57 : decode cX12_sees 57 = .ok (.aload_n 1, 1) := by decide +kernel
theorem dX12_sees_58 : decode cX12_sees 58 = .ok (.getfield 252, 3) := by decide +kernel
theorem dX12_sees_61 : decode cX12_sees 61 = .ok (.iload_n 2, 1) := by decide +kernel
theorem dX12_sees_62 : decode cX12_sees 62 = .ok (.iaload, 1) := by decide +kernel
theorem dX12_sees_63 : decode cX12_sees 63 = .ok (.if_icmp .ge 44, 3) := by decide +kernel
theorem dX12_sees_66 : decode cX12_sees 66 = .ok (.aload_n 0, 1) := by decide +kernel
theorem dX12_sees_67 : decode cX12_sees 67 = .ok (.getfield 125, 3) := by decide +kernel
theorem dX12_sees_70 : decode cX12_sees 70 = .ok (.aload_n 0, 1) := by decide +kernel
theorem dX12_sees_71 : decode cX12_sees 71 = .ok (.getfield 428, 3) := by decide +kernel
theorem dX12_sees_74 : decode cX12_sees 74 = .ok (.aload_n 0, 1) := by decide +kernel
theorem dX12_sees_75 : decode cX12_sees 75 = .ok (.getfield 59, 3) := by decide +kernel
theorem dX12_sees_78 : decode cX12_sees 78 = .ok (.aload_n 1, 1) := by decide +kernel
theorem dX12_sees_79 : decode cX12_sees 79 = .ok (.getfield 257, 3) := by decide +kernel
theorem dX12_sees_82 : decode cX12_sees 82 = .ok (.bipush 6, 2) := by decide +kernel
theorem dX12_sees_84 : decode cX12_sees 84 = .ok (.iload_n 2, 1) := by decide +kernel
theorem dX12_sees_85 : decode cX12_sees 85 = .ok (.imul, 1) := by decide +kernel
theorem dX12_sees_86 : decode cX12_sees 86 = .ok (.aload_n 0, 1) := by decide +kernel
theorem dX12_sees_87 : decode cX12_sees 87 = .ok (.getfield 428, 3) := by decide +kernel
theorem dX12_sees_90 : decode cX12_sees 90 = .ok (.iadd, 1) := by decide +kernel
theorem dX12_sees_91 : decode cX12_sees 91 = .ok (.iaload, 1) := by decide +kernel
theorem dX12_sees_92 : decode cX12_sees 92 = .ok (.iaload, 1) := by decide +kernel
theorem dX12_sees_93 : decode cX12_sees 93 = .ok (.iastore, 1) := by decide +kernel
theorem dX12_sees_94 : decode cX12_sees 94 = .ok (.aload_n 0, 1) := by decide +kernel
theorem dX12_sees_95 : decode cX12_sees 95 = .ok (.dup, 1) := by decide +kernel
theorem dX12_sees_96 : decode cX12_sees 96 = .ok (.getfield 428, 3) := by decide +kernel
theorem dX12_sees_99 : decode cX12_sees 99 = .ok (.iconst 1, 1) := by decide +kernel
theorem dX12_sees_100 : decode cX12_sees 100 = .ok (.iadd, 1) := by decide +kernel
theorem dX12_sees_101 : decode cX12_sees 101 = .ok (.putfield 428, 3) := by decide +kernel
theorem dX12_sees_104 : decode cX12_sees 104 = .ok (.goto (-51), 3) := by decide +kernel
theorem dX12_sees_107 : decode cX12_sees 107 = .ok (.aload_n 0, 1) := by decide +kernel
theorem dX12_sees_108 : decode cX12_sees 108 = .ok (.aload_n 1, 1) := by decide +kernel
theorem dX12_sees_109 : decode cX12_sees 109 = .ok (.invokevirtual 354, 3) := by decide +kernel
theorem dX12_sees_112 : decode cX12_sees 112 = .ok (.istore_n 3, 1) := by decide +kernel
theorem dX12_sees_113 : decode cX12_sees 113 = .ok (.iconst 0, 1) := by decide +kernel
theorem dX12_sees_114 : decode cX12_sees 114 = .ok (.istore 4, 2) := by decide +kernel
theorem dX12_sees_116 : decode cX12_sees 116 = .ok (.iload 4, 2) := by decide +kernel
theorem dX12_sees_118 : decode cX12_sees 118 = .ok (.aload_n 1, 1) := by decide +kernel
theorem dX12_sees_119 : decode cX12_sees 119 = .ok (.getfield 208, 3) := by decide +kernel
theorem dX12_sees_122 : decode cX12_sees 122 = .ok (.if_icmp .ge 47, 3) := by decide +kernel
theorem dX12_sees_125 : decode cX12_sees 125 = .ok (.iload_n 3, 1) := by decide +kernel
theorem dX12_sees_126 : decode cX12_sees 126 = .ok (.iload 4, 2) := by decide +kernel
theorem dX12_sees_128 : decode cX12_sees 128 = .ok (.ishr, 1) := by decide +kernel
theorem dX12_sees_129 : decode cX12_sees 129 = .ok (.iconst 1, 1) := by decide +kernel
theorem dX12_sees_130 : decode cX12_sees 130 = .ok (.iand, 1) := by decide +kernel
theorem dX12_sees_131 : decode cX12_sees 131 = .ok (.ifCond .ne 6, 3) := by decide +kernel
theorem dX12_sees_134 : decode cX12_sees 134 = .ok (.goto 29, 3) := by decide +kernel
theorem dX12_sees_137 : decode cX12_sees 137 = .ok (.aload_n 0, 1) := by decide +kernel
theorem dX12_sees_138 : decode cX12_sees 138 = .ok (.getfield 128, 3) := by decide +kernel
theorem dX12_sees_141 : decode cX12_sees 141 = .ok (.aload_n 0, 1) := by decide +kernel
theorem dX12_sees_142 : decode cX12_sees 142 = .ok (.getfield 431, 3) := by decide +kernel
theorem dX12_sees_145 : decode cX12_sees 145 = .ok (.aload_n 1, 1) := by decide +kernel
theorem dX12_sees_146 : decode cX12_sees 146 = .ok (.getfield 264, 3) := by decide +kernel
theorem dX12_sees_149 : decode cX12_sees 149 = .ok (.iload 4, 2) := by decide +kernel
theorem dX12_sees_151 : decode cX12_sees 151 = .ok (.laload, 1) := by decide +kernel
theorem dX12_sees_152 : decode cX12_sees 152 = .ok (.lastore, 1) := by decide +kernel
theorem dX12_sees_153 : decode cX12_sees 153 = .ok (.aload_n 0, 1) := by decide +kernel
theorem dX12_sees_154 : decode cX12_sees 154 = .ok (.dup, 1) := by decide +kernel
theorem dX12_sees_155 : decode cX12_sees 155 = .ok (.getfield 431, 3) := by decide +kernel
theorem dX12_sees_158 : decode cX12_sees 158 = .ok (.iconst 1, 1) := by decide +kernel
theorem dX12_sees_159 : decode cX12_sees 159 = .ok (.iadd, 1) := by decide +kernel
theorem dX12_sees_160 : decode cX12_sees 160 = .ok (.putfield 431, 3) := by decide +kernel
theorem dX12_sees_163 : decode cX12_sees 163 = .ok (.iinc 4 1, 3) := by decide +kernel
theorem dX12_sees_166 : decode cX12_sees 166 = .ok (.goto (-50), 3) := by decide +kernel
theorem dX12_sees_169 : decode cX12_sees 169 = .ok (.return_, 1) := by decide +kernel
set_option maxRecDepth 20000 in
theorem ggX12_isSeen_X12_pressed : GoodIn wsX12_isSeen wsX12_pressed := goodIn_r _ [15, 1, 3, 4, 7, 19, 20, 21, 22, 23, 24, 25, 26, 27, 28, 29, 30, 31, 32, 33, 34, 35, 36, 37, 38, 39, 40, 41, 42, 43, 44, 45, 46, 47, 48, 49, 50, 51, 52, 53, 54, 55, 56, 57, 58, 59, 60, 61, 62, 63, 64, 65, 66, 67, 68, 69, 70, 71, 72, 73, 74, 75, 76, 77, 78, 79, 80, 81, 82, 83, 84, 85, 86, 87, 88, 89, 90, 91, 92, 93, 94, 95, 96] (by decide +kernel) (by decide +kernel)
set_option maxRecDepth 20000 in
theorem gX12_isSeen_X12_pressed : GoodIn wsX12_isSeen (wsV RX12 354 RX12 yX12_pressed wsX12_pressed) := goodIn_app (goodIn_of _ (by decide +kernel)) ggX12_isSeen_X12_pressed
set_option maxRecDepth 20000 in
theorem ggX12_isSeen_X12_find : GoodIn wsX12_isSeen wsX12_find := goodIn_r _ [18] (by decide +kernel) (by decide +kernel)
set_option maxRecDepth 20000 in
theorem gX12_isSeen_X12_find : GoodIn wsX12_isSeen (va_wsS RX12 201 yX12_find wsX12_find) := goodIn_app (goodIn_of _ (by decide +kernel)) ggX12_isSeen_X12_find
theorem dX12_isSeen_0 : decode cX12_isSeen 0 = .ok (.aload_n 0, 1) := by decide +kernel
theorem dX12_isSeen_1 : decode cX12_isSeen 1 = .ok (.getfield 343, 3) := by decide +kernel
theorem dX12_isSeen_4 : decode cX12_isSeen 4 = .ok (.aload_n 0, 1) := by decide +kernel
theorem dX12_isSeen_5 : decode cX12_isSeen 5 = .ok (.getfield 425, 3) := by decide +kernel
theorem dX12_isSeen_8 : decode cX12_isSeen 8 = .ok (.if_icmp .eq 5, 3) := by decide +kernel
theorem dX12_isSeen_11 : decode cX12_isSeen 11 = .ok (.iconst 0, 1) := by decide +kernel
theorem dX12_isSeen_12 : decode cX12_isSeen 12 = .ok (.ireturn, 1) := by decide +kernel
theorem dX12_isSeen_13 : decode cX12_isSeen 13 = .ok (.aload_n 0, 1) := by decide +kernel
theorem dX12_isSeen_14 : decode cX12_isSeen 14 = .ok (.getfield 343, 3) := by decide +kernel
theorem dX12_isSeen_17 : decode cX12_isSeen 17 = .ok (.ifCond .le 5, 3) := by decide +kernel
theorem dX12_isSeen_20 : decode cX12_isSeen 20 = .ok (.iconst 1, 1) := by decide +kernel
theorem dX12_isSeen_21 : decode cX12_isSeen 21 = .ok (.ireturn, 1) := by decide +kernel
theorem dX12_isSeen_22 : decode cX12_isSeen 22 = .ok (.aload_n 0, 1) := by decide +kernel
theorem dX12_isSeen_23 : decode cX12_isSeen 23 = .ok (.getfield 52, 3) := by decide +kernel
theorem dX12_isSeen_26 : decode cX12_isSeen 26 = .ok (.aload_n 0, 1) := by decide +kernel
theorem dX12_isSeen_27 : decode cX12_isSeen 27 = .ok (.getfield 346, 3) := by decide +kernel
theorem dX12_isSeen_30 : decode cX12_isSeen 30 = .ok (.iconst 1, 1) := by decide +kernel
theorem dX12_isSeen_31 : decode cX12_isSeen 31 = .ok (.isub, 1) := by decide +kernel
theorem dX12_isSeen_32 : decode cX12_isSeen 32 = .ok (.iaload, 1) := by decide +kernel
theorem dX12_isSeen_33 : decode cX12_isSeen 33 = .ok (.istore_n 2, 1) := by decide +kernel
theorem dX12_isSeen_34 : decode cX12_isSeen 34 = .ok (.aload_n 1, 1) := by decide +kernel
theorem dX12_isSeen_35 : decode cX12_isSeen 35 = .ok (.getfield 228, 3) := by decide +kernel
theorem dX12_isSeen_38 : decode cX12_isSeen 38 = .ok (.iload_n 2, 1) := by decide +kernel
theorem dX12_isSeen_39 : decode cX12_isSeen 39 = .ok (.laload, 1) := by decide +kernel
theorem dX12_isSeen_40 : decode cX12_isSeen 40 = .ok (.aload_n 0, 1) := by decide +kernel
theorem dX12_isSeen_41 : decode cX12_isSeen 41 = .ok (.getfield 434, 3) := by decide +kernel
theorem dX12_isSeen_44 : decode cX12_isSeen 44 = .ok (.lcmp, 1) := by decide +kernel
theorem dX12_isSeen_45 : decode cX12_isSeen 45 = .ok (.ifCond .ne 20, 3) := by decide +kernel
theorem dX12_isSeen_48 : decode cX12_isSeen 48 = .ok (.aload_n 1, 1) := by decide +kernel
theorem dX12_isSeen_49 : decode cX12_isSeen 49 = .ok (.getfield 252, 3) := by decide +kernel
theorem dX12_isSeen_52 : decode cX12_isSeen 52 = .ok (.iload_n 2, 1) := by decide +kernel
theorem dX12_isSeen_53 : decode cX12_isSeen 53 = .ok (.iaload, 1) := by decide +kernel
theorem dX12_isSeen_54 : decode cX12_isSeen 54 = .ok (.aload_n 0, 1) := by decide +kernel
theorem dX12_isSeen_55 : decode cX12_isSeen 55 = .ok (.getfield 428, 3) := by decide +kernel
theorem dX12_isSeen_58 : decode cX12_isSeen 58 = .ok (.if_icmp .ne 7, 3) := by decide +kernel
theorem dX12_isSeen_61 : decode cX12_isSeen 61 = .ok (.iconst 1, 1) := by decide +kernel
theorem dX12_isSeen_62 : decode cX12_isSeen 62 = .ok (.goto 4, 3) := by decide +kernel
theorem dX12_isSeen_65 : decode cX12_isSeen 65 = .ok (.iconst 0, 1) := by decide +kernel
theorem dX12_isSeen_66 : decode cX12_isSeen 66 = .ok (.istore_n 3, 1) := by decide +kernel
theorem dX12_isSeen_67 : decode cX12_isSeen 67 = .ok (.iconst 0, 1) := by decide +kernel
theorem dX12_isSeen_68 : decode cX12_isSeen 68 = .ok (.istore 4, 2) := by decide +kernel
theorem dX12_isSeen_70 : decode cX12_isSeen 70 = .ok (.iload 4, 2) := by decide +kernel
theorem dX12_isSeen_72 : decode cX12_isSeen 72 = .ok (.aload_n 0, 1) := by decide +kernel
theorem dX12_isSeen_73 : decode cX12_isSeen 73 = .ok (.getfield 428, 3) := by decide +kernel
theorem dX12_isSeen_76 : decode cX12_isSeen 76 = .ok (.if_icmp .ge 46, 3) := by decide +kernel
theorem dX12_isSeen_79 : decode cX12_isSeen 79 = .ok (.iload_n 3, 1) := by decide +kernel
theorem dX12_isSeen_80 : decode cX12_isSeen 80 = .ok (.ifCond .eq 42, 3) := by decide +kernel
theorem dX12_isSeen_83 : decode cX12_isSeen 83 = .ok (.aload_n 0, 1) := by decide +kernel
theorem dX12_isSeen_84 : decode cX12_isSeen 84 = .ok (.getfield 59, 3) := by decide +kernel
theorem dX12_isSeen_87 : decode cX12_isSeen 87 = .ok (.aload_n 1, 1) := by decide +kernel
theorem dX12_isSeen_88 : decode cX12_isSeen 88 = .ok (.getfield 257, 3) := by decide +kernel
theorem dX12_isSeen_91 : decode cX12_isSeen 91 = .ok (.bipush 6, 2) := by decide +kernel
theorem dX12_isSeen_93 : decode cX12_isSeen 93 = .ok (.iload_n 2, 1) := by decide +kernel
theorem dX12_isSeen_94 : decode cX12_isSeen 94 = .ok (.imul, 1) := by decide +kernel
theorem dX12_isSeen_95 : decode cX12_isSeen 95 = .ok (.iload 4, 2) := by decide +kernel
theorem dX12_isSeen_97 : decode cX12_isSeen 97 = .ok (.iadd, 1) := by decide +kernel
theorem dX12_isSeen_98 : decode cX12_isSeen 98 = .ok (.iaload, 1) := by decide +kernel
theorem dX12_isSeen_99 : decode cX12_isSeen 99 = .ok (.iaload, 1) := by decide +kernel
theorem dX12_isSeen_100 : decode cX12_isSeen 100 = .ok (.aload_n 0, 1) := by decide +kernel
theorem dX12_isSeen_101 : decode cX12_isSeen 101 = .ok (.getfield 125, 3) := by decide +kernel
theorem dX12_isSeen_104 : decode cX12_isSeen 104 = .ok (.iload 4, 2) := by decide +kernel
theorem dX12_isSeen_106 : decode cX12_isSeen 106 = .ok (.iaload, 1) := by decide +kernel
theorem dX12_isSeen_107 : decode cX12_isSeen 107 = .ok (.if_icmp .ne 7, 3) := by decide +kernel
theorem dX12_isSeen_110 : decode cX12_isSeen 110 = .ok (.iconst 1, 1) := by decide +kernel
theorem dX12_isSeen_111 : decode cX12_isSeen 111 = .ok (.goto 4, 3) := by decide +kernel
theorem dX12_isSeen_114 : decode cX12_isSeen 114 = .ok (.iconst 0, 1) := by decide +kernel
theorem dX12_isSeen_115 : decode cX12_isSeen 115 = .ok (.istore_n 3, 1) := by decide +kernel
theorem dX12_isSeen_116 : decode cX12_isSeen 116 = .ok (.iinc 4 1, 3) := by decide +kernel
theorem dX12_isSeen_119 : decode cX12_isSeen 119 = .ok (.goto (-49), 3) := by decide +kernel
theorem dX12_isSeen_122 : decode cX12_isSeen 122 = .ok (.aload_n 0, 1) := by decide +kernel
theorem dX12_isSeen_123 : decode cX12_isSeen 123 = .ok (.aload_n 1, 1) := by decide +kernel
theorem dX12_isSeen_124 : decode cX12_isSeen 124 = .ok (.invokevirtual 354, 3) := by decide +kernel
theorem dX12_isSeen_127 : decode cX12_isSeen 127 = .ok (.istore 4, 2) := by decide +kernel
theorem dX12_isSeen_129 : decode cX12_isSeen 129 = .ok (.iconst 0, 1) := by decide +kernel
theorem dX12_isSeen_130 : decode cX12_isSeen 130 = .ok (.istore 5, 2) := by decide +kernel
theorem dX12_isSeen_132 : decode cX12_isSeen 132 = .ok (.iconst 0, 1) := by decide +kernel
theorem dX12_isSeen_133 : decode cX12_isSeen 133 = .ok (.istore 6, 2) := by decide +kernel
theorem dX12_isSeen_135 : decode cX12_isSeen 135 = .ok (.iload 6, 2) := by decide +kernel
theorem dX12_isSeen_137 : decode cX12_isSeen 137 = .ok (.aload_n 1, 1) := by decide +kernel
theorem dX12_isSeen_138 : decode cX12_isSeen 138 = .ok (.getfield 208, 3) := by decide +kernel
theorem dX12_isSeen_141 : decode cX12_isSeen 141 = .ok (.if_icmp .ge 58, 3) := by decide +kernel
theorem dX12_isSeen_144 : decode cX12_isSeen 144 = .ok (.iload_n 3, 1) := by decide +kernel
theorem dX12_isSeen_145 : decode cX12_isSeen 145 = .ok (.ifCond .eq 54, 3) := by decide +kernel
theorem dX12_isSeen_148 : decode cX12_isSeen 148 = .ok (.iload 4, 2) := by decide +kernel
theorem dX12_isSeen_150 : decode cX12_isSeen 150 = .ok (.iload 6, 2) := by decide +kernel
theorem dX12_isSeen_152 : decode cX12_isSeen 152 = .ok (.ishr, 1) := by decide +kernel
theorem dX12_isSeen_153 : decode cX12_isSeen 153 = .ok (.iconst 1, 1) := by decide +kernel
theorem dX12_isSeen_154 : decode cX12_isSeen 154 = .ok (.iand, 1) := by decide +kernel
theorem dX12_isSeen_155 : decode cX12_isSeen 155 = .ok (.ifCond .ne 6, 3) := by decide +kernel
theorem dX12_isSeen_158 : decode cX12_isSeen 158 = .ok (.goto 35, 3) := by decide +kernel
theorem dX12_isSeen_161 : decode cX12_isSeen 161 = .ok (.iinc 5 1, 3) := by decide +kernel
theorem dX12_isSeen_164 : decode cX12_isSeen 164 = .ok (.aload_n 0, 1) := by decide +kernel
theorem dX12_isSeen_165 : decode cX12_isSeen 165 = .ok (.getfield 128, 3) := by decide +kernel
theorem dX12_isSeen_168 : decode cX12_isSeen 168 = .ok (.iconst 0, 1) := by decide +kernel
theorem dX12_isSeen_169 : decode cX12_isSeen 169 = .ok (.aload_n 0, 1) := by decide +kernel
theorem dX12_isSeen_170 : decode cX12_isSeen 170 = .ok (.getfield 431, 3) := by decide +kernel
theorem dX12_isSeen_173 : decode cX12_isSeen 173 = .ok (.aload_n 1, 1) := by decide +kernel
theorem dX12_isSeen_174 : decode cX12_isSeen 174 = .ok (.getfield 264, 3) := by decide +kernel
theorem dX12_isSeen_177 : decode cX12_isSeen 177 = .ok (.iload 6, 2) := by decide +kernel
theorem dX12_isSeen_179 : decode cX12_isSeen 179 = .ok (.laload, 1) := by decide +kernel
theorem dX12_isSeen_180 : decode cX12_isSeen 180 = .ok (.invokestatic 201, 3) := by decide +kernel
theorem dX12_isSeen_183 : decode cX12_isSeen 183 = .ok (.iconst (-1), 1) := by decide +kernel
theorem dX12_isSeen_184 : decode cX12_isSeen 184 = .ok (.if_icmp .eq 7, 3) := by decide +kernel
theorem dX12_isSeen_187 : decode cX12_isSeen 187 = .ok (.iconst 1, 1) := by decide +kernel
theorem dX12_isSeen_188 : decode cX12_isSeen 188 = .ok (.goto 4, 3) := by decide +kernel
theorem dX12_isSeen_191 : decode cX12_isSeen 191 = .ok (.iconst 0, 1) := by decide +kernel
theorem dX12_isSeen_192 : decode cX12_isSeen 192 = .ok (.istore_n 3, 1) := by decide +kernel
theorem dX12_isSeen_193 : decode cX12_isSeen 193 = .ok (.iinc 6 1, 3) := by decide +kernel
theorem dX12_isSeen_196 : decode cX12_isSeen 196 = .ok (.goto (-61), 3) := by decide +kernel
theorem dX12_isSeen_199 : decode cX12_isSeen 199 = .ok (.iload_n 3, 1) := by decide +kernel
theorem dX12_isSeen_200 : decode cX12_isSeen 200 = .ok (.ifCond .eq 16, 3) := by decide +kernel
theorem dX12_isSeen_203 : decode cX12_isSeen 203 = .ok (.iload 5, 2) := by decide +kernel
theorem dX12_isSeen_205 : decode cX12_isSeen 205 = .ok (.aload_n 0, 1) := by decide +kernel
theorem dX12_isSeen_206 : decode cX12_isSeen 206 = .ok (.getfield 431, 3) := by decide +kernel
theorem dX12_isSeen_209 : decode cX12_isSeen 209 = .ok (.if_icmp .ne 7, 3) := by decide +kernel
theorem dX12_isSeen_212 : decode cX12_isSeen 212 = .ok (.iconst 1, 1) := by decide +kernel
theorem dX12_isSeen_213 : decode cX12_isSeen 213 = .ok (.goto 4, 3) := by decide +kernel
theorem dX12_isSeen_216 : decode cX12_isSeen 216 = .ok (.iconst 0, 1) := by decide +kernel
theorem dX12_isSeen_217 : decode cX12_isSeen 217 = .ok (.ireturn, 1) := by decide +kernel
set_option maxRecDepth 20000 in
theorem ggX12_isAlike_X12_unpack : GoodIn wsX12_isAlike wsX12_unpack := goodIn_r _ [10, 11, 12, 13, 14, 15, 16, 17, 18, 40, 41, 42, 43, 44, 45, 46, 47, 48, 49, 50, 51, 52, 53, 54, 55, 56, 57, 58, 59, 60, 61, 62, 63, 64, 65, 66, 67, 68, 69, 70, 71, 72, 73, 74, 75, 76, 77, 78, 79, 80, 81, 82, 83, 84, 85, 86, 87, 88, 89, 90, 91, 92, 93, 94, 95] (by decide +kernel) (by decide +kernel)
set_option maxRecDepth 20000 in
theorem gX12_isAlike_X12_unpack : GoodIn wsX12_isAlike (wsV RX12 377 RX12 yX12_unpack wsX12_unpack) := goodIn_app (goodIn_of _ (by decide +kernel)) ggX12_isAlike_X12_unpack
set_option maxRecDepth 20000 in
theorem ggX12_isAlike_X12_sees : GoodIn wsX12_isAlike wsX12_sees := goodIn_r _ [22, 11, 23, 24, 25, 26, 15, 13, 27, 17, 28, 29, 30, 31, 9, 32, 40, 41, 42, 43, 44, 45, 46, 47, 48, 49, 50, 51, 52, 53, 54, 55, 56, 57, 58, 59, 60, 61, 62, 63, 64, 65, 66, 67, 68, 69, 70, 71, 72, 73, 74, 75, 76, 77, 78, 79, 80, 81, 82, 83, 84, 85, 86, 87, 88, 89, 90, 91, 92, 93, 94, 95, 96, 97, 98, 99, 100, 101, 102, 103, 104, 105, 106, 107, 108, 109, 110, 111, 112, 113, 114, 115, 116, 117] (by decide +kernel) (by decide +kernel)
set_option maxRecDepth 20000 in
theorem gX12_isAlike_X12_sees : GoodIn wsX12_isAlike (wsV RX12 437 RX12 yX12_sees wsX12_sees) := goodIn_app (goodIn_of _ (by decide +kernel)) ggX12_isAlike_X12_sees
set_option maxRecDepth 20000 in
theorem ggX12_isAlike_X12_isSeen : GoodIn wsX12_isAlike wsX12_isSeen := goodIn_r _ [36, 11, 23, 15, 13, 26, 24, 17, 27, 28, 25, 29, 30, 31, 9, 32, 37, 38, 39, 40, 41, 42, 43, 44, 45, 46, 47, 48, 49, 50, 51, 52, 53, 54, 55, 56, 57, 58, 59, 60, 61, 62, 63, 64, 65, 66, 67, 68, 69, 70, 71, 72, 73, 74, 75, 76, 77, 78, 79, 80, 81, 82, 83, 84, 85, 86, 87, 88, 89, 90, 91, 92, 93, 94, 95, 96, 97, 98, 99, 100, 101, 102, 103, 104, 105, 106, 107, 108, 109, 110, 111, 112, 113, 114, 115, 116, 117] (by decide +kernel) (by decide +kernel)
set_option maxRecDepth 20000 in
theorem gX12_isAlike_X12_isSeen : GoodIn wsX12_isAlike (wsV RX12 440 RX12 yX12_isSeen wsX12_isSeen) := goodIn_app (goodIn_of _ (by decide +kernel)) ggX12_isAlike_X12_isSeen
theorem dX12_isAlike_0 : decode cX12_isAlike 0 = .ok (.aload_n 0, 1) := by decide +kernel
theorem dX12_isAlike_1 : decode cX12_isAlike 1 = .ok (.aload_n 0, 1) := by decide +kernel
theorem dX12_isAlike_2 : decode cX12_isAlike 2 = .ok (.getfield 107, 3) := by decide +kernel
theorem dX12_isAlike_5 : decode cX12_isAlike 5 = .ok (.iload_n 1, 1) := by decide +kernel
theorem dX12_isAlike_6 : decode cX12_isAlike 6 = .ok (.laload, 1) := by decide +kernel
theorem dX12_isAlike_7 : decode cX12_isAlike 7 = .ok (.aload_n 0, 1) := by decide +kernel
theorem dX12_isAlike_8 : decode cX12_isAlike 8 = .ok (.getfield 110, 3) := by decide +kernel
theorem dX12_isAlike_11 : decode cX12_isAlike 11 = .ok (.iload_n 1, 1) := by decide +kernel
theorem dX12_isAlike_12 : decode cX12_isAlike 12 = .ok (.laload, 1) := by decide +kernel
theorem dX12_isAlike_13 : decode cX12_isAlike 13 = .ok (.invokevirtual 377, 3) := by decide +kernel
theorem dX12_isAlike_16 : decode cX12_isAlike 16 = .ok (.aload_n 0, 1) := by decide +kernel
theorem dX12_isAlike_17 : decode cX12_isAlike 17 = .ok (.aload_n 0, 1) := by decide +kernel
theorem dX12_isAlike_18 : decode cX12_isAlike 18 = .ok (.getfield 21, 3) := by decide +kernel
theorem dX12_isAlike_21 : decode cX12_isAlike 21 = .ok (.iconst 0, 1) := by decide +kernel
theorem dX12_isAlike_22 : decode cX12_isAlike 22 = .ok (.aaload, 1) := by decide +kernel
theorem dX12_isAlike_23 : decode cX12_isAlike 23 = .ok (.invokevirtual 437, 3) := by decide +kernel
theorem dX12_isAlike_26 : decode cX12_isAlike 26 = .ok (.aload_n 0, 1) := by decide +kernel
theorem dX12_isAlike_27 : decode cX12_isAlike 27 = .ok (.aload_n 0, 1) := by decide +kernel
theorem dX12_isAlike_28 : decode cX12_isAlike 28 = .ok (.getfield 113, 3) := by decide +kernel
theorem dX12_isAlike_31 : decode cX12_isAlike 31 = .ok (.iload_n 1, 1) := by decide +kernel
theorem dX12_isAlike_32 : decode cX12_isAlike 32 = .ok (.laload, 1) := by decide +kernel
theorem dX12_isAlike_33 : decode cX12_isAlike 33 = .ok (.aload_n 0, 1) := by decide +kernel
theorem dX12_isAlike_34 : decode cX12_isAlike 34 = .ok (.getfield 116, 3) := by decide +kernel
theorem dX12_isAlike_37 : decode cX12_isAlike 37 = .ok (.iload_n 1, 1) := by decide +kernel
theorem dX12_isAlike_38 : decode cX12_isAlike 38 = .ok (.laload, 1) := by decide +kernel
theorem dX12_isAlike_39 : decode cX12_isAlike 39 = .ok (.invokevirtual 377, 3) := by decide +kernel
theorem dX12_isAlike_42 : decode cX12_isAlike 42 = .ok (.aload_n 0, 1) := by decide +kernel
theorem dX12_isAlike_43 : decode cX12_isAlike 43 = .ok (.aload_n 0, 1) := by decide +kernel
theorem dX12_isAlike_44 : decode cX12_isAlike 44 = .ok (.getfield 21, 3) := by decide +kernel
theorem dX12_isAlike_47 : decode cX12_isAlike 47 = .ok (.iconst 1, 1) := by decide +kernel
theorem dX12_isAlike_48 : decode cX12_isAlike 48 = .ok (.aaload, 1) := by decide +kernel
theorem dX12_isAlike_49 : decode cX12_isAlike 49 = .ok (.invokevirtual 440, 3) := by decide +kernel
theorem dX12_isAlike_52 : decode cX12_isAlike 52 = .ok (.ireturn, 1) := by decide +kernel
set_option maxRecDepth 20000 in
theorem ggX12_rowOf_X12_done : GoodIn wsX12_rowOf wsX12_done := goodIn_r _ [9, 10, 11, 12, 13, 14, 15, 16, 17, 18, 19, 20, 21, 22, 23, 24, 25, 26, 27, 28, 29, 30, 31, 32, 33, 34, 35, 36, 37, 38, 39, 40, 41, 42, 43, 44, 45, 46, 47, 48, 49, 50, 51, 52, 53, 54, 55, 56, 57, 58, 59, 60, 61, 62, 63, 64, 65, 66, 67] (by decide +kernel) (by decide +kernel)
set_option maxRecDepth 20000 in
theorem gX12_rowOf_X12_done : GoodIn wsX12_rowOf (wsV RX12 337 RX12 yX12_done wsX12_done) := goodIn_app (goodIn_of _ (by decide +kernel)) ggX12_rowOf_X12_done
theorem dX12_rowOf_0 : decode cX12_rowOf 0 = .ok (.iconst 0, 1) := by decide +kernel
theorem dX12_rowOf_1 : decode cX12_rowOf 1 = .ok (.istore_n 3, 1) := by decide +kernel
theorem dX12_rowOf_2 : decode cX12_rowOf 2 = .ok (.iload_n 1, 1) := by decide +kernel
theorem dX12_rowOf_3 : decode cX12_rowOf 3 = .ok (.istore 4, 2) := by decide +kernel
theorem dX12_rowOf_5 : decode cX12_rowOf 5 = .ok (.aload_n 0, 1) := by decide +kernel
theorem dX12_rowOf_6 : decode cX12_rowOf 6 = .ok (.getfield 119, 3) := by decide +kernel
theorem dX12_rowOf_9 : decode cX12_rowOf 9 = .ok (.iload 4, 2) := by decide +kernel
theorem dX12_rowOf_11 : decode cX12_rowOf 11 = .ok (.iaload, 1) := by decide +kernel
theorem dX12_rowOf_12 : decode cX12_rowOf 12 = .ok (.iconst (-1), 1) := by decide +kernel
theorem dX12_rowOf_13 : decode cX12_rowOf 13 = .ok (.if_icmp .eq 18, 3) := by decide +kernel
theorem dX12_rowOf_16 : decode cX12_rowOf 16 = .ok (.iinc 3 1, 3) := by decide +kernel
theorem dX12_rowOf_19 : decode cX12_rowOf 19 = .ok (.aload_n 0, 1) := by decide +kernel
theorem dX12_rowOf_20 : decode cX12_rowOf 20 = .ok (.getfield 119, 3) := by decide +kernel
theorem dX12_rowOf_23 : decode cX12_rowOf 23 = .ok (.iload 4, 2) := by decide +kernel
theorem dX12_rowOf_25 : decode cX12_rowOf 25 = .ok (.iaload, 1) := by decide +kernel
theorem dX12_rowOf_26 : decode cX12_rowOf 26 = .ok (.istore 4, 2) := by decide +kernel
theorem dX12_rowOf_28 : decode cX12_rowOf 28 = .ok (.goto (-23), 3) := by decide +kernel
theorem dX12_rowOf_31 : decode cX12_rowOf 31 = .ok (.aload_n 0, 1) := by decide +kernel
theorem dX12_rowOf_32 : decode cX12_rowOf 32 = .ok (.iload_n 3, 1) := by decide +kernel
theorem dX12_rowOf_33 : decode cX12_rowOf 33 = .ok (.putfield 415, 3) := by decide +kernel
theorem dX12_rowOf_36 : decode cX12_rowOf 36 = .ok (.iload_n 1, 1) := by decide +kernel
theorem dX12_rowOf_37 : decode cX12_rowOf 37 = .ok (.istore 4, 2) := by decide +kernel
theorem dX12_rowOf_39 : decode cX12_rowOf 39 = .ok (.aload_n 0, 1) := by decide +kernel
theorem dX12_rowOf_40 : decode cX12_rowOf 40 = .ok (.getfield 119, 3) := by decide +kernel
theorem dX12_rowOf_43 : decode cX12_rowOf 43 = .ok (.iload 4, 2) := by decide +kernel
theorem dX12_rowOf_45 : decode cX12_rowOf 45 = .ok (.iaload, 1) := by decide +kernel
theorem dX12_rowOf_46 : decode cX12_rowOf 46 = .ok (.iconst (-1), 1) := by decide +kernel
theorem dX12_rowOf_47 : decode cX12_rowOf 47 = .ok (.if_icmp .eq 31, 3) := by decide +kernel
theorem dX12_rowOf_50 : decode cX12_rowOf 50 = .ok (.iinc 3 (-1), 3) := by decide +kernel
theorem dX12_rowOf_53 : decode cX12_rowOf 53 = .ok (.aload_n 0, 1) := by decide +kernel
theorem dX12_rowOf_54 : decode cX12_rowOf 54 = .ok (.getfield 101, 3) := by decide +kernel
theorem dX12_rowOf_57 : decode cX12_rowOf 57 = .ok (.iload_n 3, 1) := by decide +kernel
theorem dX12_rowOf_58 : decode cX12_rowOf 58 = .ok (.aload_n 0, 1) := by decide +kernel
theorem dX12_rowOf_59 : decode cX12_rowOf 59 = .ok (.getfield 122, 3) := by decide +kernel
theorem dX12_rowOf_62 : decode cX12_rowOf 62 = .ok (.iload 4, 2) := by decide +kernel
theorem dX12_rowOf_64 : decode cX12_rowOf 64 = .ok (.iaload, 1) := by decide +kernel
theorem dX12_rowOf_65 : decode cX12_rowOf 65 = .ok (.iastore, 1) := by decide +kernel
theorem dX12_rowOf_66 : decode cX12_rowOf 66 = .ok (.aload_n 0, 1) := by decide +kernel
theorem dX12_rowOf_67 : decode cX12_rowOf 67 = .ok (.getfield 119, 3) := by decide +kernel
theorem dX12_rowOf_70 : decode cX12_rowOf 70 = .ok (.iload 4, 2) := by decide +kernel
theorem dX12_rowOf_72 : decode cX12_rowOf 72 = .ok (.iaload, 1) := by decide +kernel
theorem dX12_rowOf_73 : decode cX12_rowOf 73 = .ok (.istore 4, 2) := by decide +kernel
theorem dX12_rowOf_75 : decode cX12_rowOf 75 = .ok (.goto (-36), 3) := by decide +kernel
theorem dX12_rowOf_78 : decode cX12_rowOf 78 = .ok (.iload_n 2, 1) := by decide +kernel
theorem dX12_rowOf_79 : decode cX12_rowOf 79 = .ok (.iconst (-1), 1) := by decide +kernel
theorem dX12_rowOf_80 : decode cX12_rowOf 80 = .ok (.if_icmp .ne 12, 3) := by decide +kernel
theorem dX12_rowOf_83 : decode cX12_rowOf 83 = .ok (.aload_n 0, 1) := by decide +kernel
theorem dX12_rowOf_84 : decode cX12_rowOf 84 = .ok (.aload_n 0, 1) := by decide +kernel
theorem dX12_rowOf_85 : decode cX12_rowOf 85 = .ok (.getfield 415, 3) := by decide +kernel
theorem dX12_rowOf_88 : decode cX12_rowOf 88 = .ok (.invokevirtual 337, 3) := by decide +kernel
theorem dX12_rowOf_91 : decode cX12_rowOf 91 = .ok (.ireturn, 1) := by decide +kernel
theorem dX12_rowOf_92 : decode cX12_rowOf 92 = .ok (.aload_n 0, 1) := by decide +kernel
theorem dX12_rowOf_93 : decode cX12_rowOf 93 = .ok (.getfield 101, 3) := by decide +kernel
theorem dX12_rowOf_96 : decode cX12_rowOf 96 = .ok (.aload_n 0, 1) := by decide +kernel
theorem dX12_rowOf_97 : decode cX12_rowOf 97 = .ok (.getfield 415, 3) := by decide +kernel
theorem dX12_rowOf_100 : decode cX12_rowOf 100 = .ok (.iload_n 2, 1) := by decide +kernel
theorem dX12_rowOf_101 : decode cX12_rowOf 101 = .ok (.iastore, 1) := by decide +kernel
theorem dX12_rowOf_102 : decode cX12_rowOf 102 = .ok (.aload_n 0, 1) := by decide +kernel
theorem dX12_rowOf_103 : decode cX12_rowOf 103 = .ok (.dup, 1) := by decide +kernel
theorem dX12_rowOf_104 : decode cX12_rowOf 104 = .ok (.getfield 415, 3) := by decide +kernel
theorem dX12_rowOf_107 : decode cX12_rowOf 107 = .ok (.iconst 1, 1) := by decide +kernel
theorem dX12_rowOf_108 : decode cX12_rowOf 108 = .ok (.iadd, 1) := by decide +kernel
theorem dX12_rowOf_109 : decode cX12_rowOf 109 = .ok (.putfield 415, 3) := by decide +kernel
theorem dX12_rowOf_112 : decode cX12_rowOf 112 = .ok (.aload_n 0, 1) := by decide +kernel
theorem dX12_rowOf_113 : decode cX12_rowOf 113 = .ok (.aload_n 0, 1) := by decide +kernel
theorem dX12_rowOf_114 : decode cX12_rowOf 114 = .ok (.getfield 415, 3) := by decide +kernel
theorem dX12_rowOf_117 : decode cX12_rowOf 117 = .ok (.invokevirtual 337, 3) := by decide +kernel
theorem dX12_rowOf_120 : decode cX12_rowOf 120 = .ok (.ireturn, 1) := by decide +kernel
set_option maxRecDepth 20000 in
theorem ggX12_apart_X12_refused : GoodIn wsX12_apart wsX12_refused := goodIn_r _ [15, 16, 17, 104, 105, 106, 107, 108, 109, 110, 111, 112, 113, 114, 115, 116, 117, 118, 119, 120, 121, 122, 123, 124, 125, 126, 127, 128, 129, 130, 131, 132, 133, 134, 135, 136, 137, 138, 139, 140, 141, 142, 143, 144, 145, 146, 147, 148, 149, 150, 151, 152, 153, 154, 155, 156, 157, 158, 159] (by decide +kernel) (by decide +kernel)
set_option maxRecDepth 20000 in
theorem gX12_apart_X12_refused : GoodIn wsX12_apart (wsV RX12 316 RX12 yX12_refused wsX12_refused) := goodIn_app (goodIn_of _ (by decide +kernel)) ggX12_apart_X12_refused
set_option maxRecDepth 20000 in
theorem ggX12_apart_X12_begins : GoodIn wsX12_apart wsX12_begins := goodIn_r _ [21, 22, 23, 24, 25, 26, 104, 105, 106, 107, 108, 109, 110, 111, 112, 113, 114, 115, 116, 117, 118, 119, 120, 121, 122, 123, 124, 125, 126, 127, 128, 129, 130, 131, 132, 133, 134, 135, 136, 137, 138, 139, 140, 141, 142, 143, 144, 145, 146, 147, 148, 149, 150, 151, 152, 153, 154, 155, 156, 157, 158, 159] (by decide +kernel) (by decide +kernel)
set_option maxRecDepth 20000 in
theorem gX12_apart_X12_begins : GoodIn wsX12_apart (wsV RX12 324 RX12 yX12_begins wsX12_begins) := goodIn_app (goodIn_of _ (by decide +kernel)) ggX12_apart_X12_begins
set_option maxRecDepth 20000 in
theorem ggX12_apart_X12_packed : GoodIn wsX12_apart wsX12_packed := goodIn_r _ [30, 22, 23, 24, 25, 104, 105, 106, 107, 108, 109, 110, 111, 112, 113, 114, 115, 116, 117, 118, 119, 120, 121, 122, 123, 124, 125, 126, 127, 128, 129, 130, 131, 132, 133, 134, 135, 136, 137, 138, 139, 140, 141, 142, 143, 144, 145, 146, 147, 148, 149, 150, 151, 152, 153, 154, 155, 156, 157, 158, 159] (by decide +kernel) (by decide +kernel)
set_option maxRecDepth 20000 in
theorem gX12_apart_X12_packed : GoodIn wsX12_apart (wsV RX12 327 RX12 yX12_packed wsX12_packed) := goodIn_app (goodIn_of _ (by decide +kernel)) ggX12_apart_X12_packed
set_option maxRecDepth 20000 in
theorem ggX12_apart_X12_packedVars : GoodIn wsX12_apart wsX12_packedVars := goodIn_r _ [34, 26, 104, 105, 106, 107, 108, 109, 110, 111, 112, 113, 114, 115, 116, 117, 118, 119, 120, 121, 122, 123, 124, 125, 126, 127, 128, 129, 130, 131, 132, 133, 134, 135, 136, 137, 138, 139, 140, 141, 142, 143, 144, 145, 146, 147, 148, 149, 150, 151, 152, 153, 154, 155, 156, 157, 158, 159] (by decide +kernel) (by decide +kernel)
set_option maxRecDepth 20000 in
theorem gX12_apart_X12_packedVars : GoodIn wsX12_apart (wsV RX12 331 RX12 yX12_packedVars wsX12_packedVars) := goodIn_app (goodIn_of _ (by decide +kernel)) ggX12_apart_X12_packedVars
set_option maxRecDepth 20000 in
theorem ggX12_apart_X12_isAlike : GoodIn wsX12_apart wsX12_isAlike := goodIn_r _ [38, 4, 5, 3, 6, 7, 39, 40, 41, 14, 42, 22, 43, 23, 44, 24, 25, 26, 45, 46, 47, 48, 49, 50, 51, 52, 53, 54, 55, 56, 57, 58, 59, 60, 61, 62, 63, 64, 65, 66, 104, 105, 106, 107, 108, 109, 110, 111, 112, 113, 114, 115, 116, 117, 118, 119, 120, 121, 122, 123, 124, 125, 126, 127, 128, 129, 130, 131, 132, 133, 134, 135, 136, 137, 138, 139, 140, 141, 142, 143, 144, 145, 146, 147, 148, 149, 150, 151, 152, 153, 154, 155, 156, 157, 158, 159, 160, 161, 162, 163, 164, 165, 166, 167, 168, 169, 170, 171, 172, 173, 174, 175, 176, 177, 178, 179, 180, 181] (by decide +kernel) (by decide +kernel)
set_option maxRecDepth 20000 in
theorem gX12_apart_X12_isAlike : GoodIn wsX12_apart (wsV RX12 447 RX12 yX12_isAlike wsX12_isAlike) := goodIn_app (goodIn_of _ (by decide +kernel)) ggX12_apart_X12_isAlike
set_option maxRecDepth 20000 in
theorem ggX12_apart_X12_rowOf : GoodIn wsX12_apart wsX12_rowOf := goodIn_r _ [70, 8, 71, 72, 10, 73, 74, 75, 14, 76, 16, 17, 104, 105, 106, 107, 108, 109, 110, 111, 112, 113, 114, 115, 116, 117, 118, 119, 120, 121, 122, 123, 124, 125, 126, 127, 128, 129, 130, 131, 132, 133, 134, 135, 136, 137, 138, 139, 140, 141, 142, 143, 144, 145, 146, 147, 148, 149, 150, 151, 152, 153, 154, 155, 156, 157, 158, 159] (by decide +kernel) (by decide +kernel)
set_option maxRecDepth 20000 in
theorem gX12_apart_X12_rowOf : GoodIn wsX12_apart (wsV RX12 450 RX12 yX12_rowOf wsX12_rowOf) := goodIn_app (goodIn_of _ (by decide +kernel)) ggX12_apart_X12_rowOf
set_option maxRecDepth 20000 in
theorem ggX12_apart_X12_unpack : GoodIn wsX12_apart wsX12_unpack := goodIn_r _ [42, 22, 43, 23, 44, 24, 25, 26, 45, 104, 105, 106, 107, 108, 109, 110, 111, 112, 113, 114, 115, 116, 117, 118, 119, 120, 121, 122, 123, 124, 125, 126, 127, 128, 129, 130, 131, 132, 133, 134, 135, 136, 137, 138, 139, 140, 141, 142, 143, 144, 145, 146, 147, 148, 149, 150, 151, 152, 153, 154, 155, 156, 157, 158, 159] (by decide +kernel) (by decide +kernel)
set_option maxRecDepth 20000 in
theorem gX12_apart_X12_unpack : GoodIn wsX12_apart (wsV RX12 377 RX12 yX12_unpack wsX12_unpack) := goodIn_app (goodIn_of _ (by decide +kernel)) ggX12_apart_X12_unpack
set_option maxRecDepth 20000 in
theorem ggX12_apart_X12_possible : GoodIn wsX12_apart wsX12_possible := goodIn_r _ [80, 81, 22, 82, 23, 83, 56, 57, 58, 14, 59, 24, 26, 104, 105, 106, 107, 108, 109, 110, 111, 112, 113, 114, 115, 116, 117, 118, 119, 120, 121, 122, 123, 124, 125, 126, 127, 128, 129, 130, 131, 132, 133, 134, 135, 136, 137, 138, 139, 140, 141, 142, 143, 144, 145, 146, 147, 148, 149, 150, 151, 152, 153, 154, 155, 156, 157, 158, 159, 160, 161, 162, 163, 164, 165, 166, 167, 168, 169, 170, 171, 172, 173, 174, 175, 176, 177, 178, 179, 180, 181] (by decide +kernel) (by decide +kernel)
set_option maxRecDepth 20000 in
theorem gX12_apart_X12_possible : GoodIn wsX12_apart (wsV RX12 381 RX12 yX12_possible wsX12_possible) := goodIn_app (goodIn_of _ (by decide +kernel)) ggX12_apart_X12_possible
set_option maxRecDepth 20000 in
theorem ggX12_apart_X12_sameAct : GoodIn wsX12_apart wsX12_sameAct := goodIn_r _ [87, 77, 78, 79, 14, 80, 81, 22, 82, 23, 83, 56, 57, 58, 59, 24, 26, 160, 161, 162, 163, 164, 165, 166, 167, 168, 169, 170, 171, 172, 173, 174, 175, 176, 177, 178, 179, 180, 181, 104, 105, 106, 107, 108, 109, 110, 111, 112, 113, 114, 115, 116, 117, 118, 119, 120, 121, 122, 123, 124, 125, 126, 127, 128, 129, 130, 131, 132, 133, 134, 135, 136, 137, 138, 139, 140, 141, 142, 143, 144, 145, 146, 147, 148, 149, 150, 151, 152, 153, 154, 155, 156, 157, 158, 159] (by decide +kernel) (by decide +kernel)
set_option maxRecDepth 20000 in
theorem gX12_apart_X12_sameAct : GoodIn wsX12_apart (wsV RX12 453 RX12 yX12_sameAct wsX12_sameAct) := goodIn_app (goodIn_of _ (by decide +kernel)) ggX12_apart_X12_sameAct
set_option maxRecDepth 20000 in
theorem ggX12_apart_X12_acts : GoodIn wsX12_apart wsX12_acts := goodIn_r _ [91, 24, 23, 25, 22, 92, 93, 94, 14, 95, 96, 97, 98, 99, 26, 100, 101, 102, 103, 104, 105, 106, 107, 108, 109, 110, 111, 112, 113, 114, 115, 116, 117, 118, 119, 120, 121, 122, 123, 124, 125, 126, 127, 128, 129, 130, 131, 132, 133, 134, 135, 136, 137, 138, 139, 140, 141, 142, 143, 144, 145, 146, 147, 148, 149, 150, 151, 152, 153, 154, 155, 156, 157, 158, 159, 160, 161, 162, 163, 164, 165, 166, 167, 168, 169, 170, 171, 172, 173, 174, 175, 176, 177, 178, 179, 180, 181] (by decide +kernel) (by decide +kernel)
set_option maxRecDepth 20000 in
theorem gX12_apart_X12_acts : GoodIn wsX12_apart (wsV RX12 384 RX12 yX12_acts wsX12_acts) := goodIn_app (goodIn_of _ (by decide +kernel)) ggX12_apart_X12_acts
set_option maxRecDepth 20000 in
theorem ggX12_apart_X12_done : GoodIn wsX12_apart wsX12_done := goodIn_r _ [76, 16, 17, 104, 105, 106, 107, 108, 109, 110, 111, 112, 113, 114, 115, 116, 117, 118, 119, 120, 121, 122, 123, 124, 125, 126, 127, 128, 129, 130, 131, 132, 133, 134, 135, 136, 137, 138, 139, 140, 141, 142, 143, 144, 145, 146, 147, 148, 149, 150, 151, 152, 153, 154, 155, 156, 157, 158, 159] (by decide +kernel) (by decide +kernel)
set_option maxRecDepth 20000 in
theorem gX12_apart_X12_done : GoodIn wsX12_apart (wsV RX12 337 RX12 yX12_done wsX12_done) := goodIn_app (goodIn_of _ (by decide +kernel)) ggX12_apart_X12_done
theorem dX12_apart_0 : decode cX12_apart 0 = .ok (.aload_n 0, 1) := by decide +kernel
theorem dX12_apart_1 : decode cX12_apart 1 = .ok (.iconst 0, 1) := by decide +kernel
theorem dX12_apart_2 : decode cX12_apart 2 = .ok (.putfield 1, 3) := by decide +kernel
theorem dX12_apart_5 : decode cX12_apart 5 = .ok (.aload_n 0, 1) := by decide +kernel
theorem dX12_apart_6 : decode cX12_apart 6 = .ok (.getfield 30, 3) := by decide +kernel
theorem dX12_apart_9 : decode cX12_apart 9 = .ok (.iconst 0, 1) := by decide +kernel
theorem dX12_apart_10 : decode cX12_apart 10 = .ok (.baload, 1) := by decide +kernel
theorem dX12_apart_11 : decode cX12_apart 11 = .ok (.ifCond .eq 12, 3) := by decide +kernel
theorem dX12_apart_14 : decode cX12_apart 14 = .ok (.aload_n 0, 1) := by decide +kernel
theorem dX12_apart_15 : decode cX12_apart 15 = .ok (.getfield 30, 3) := by decide +kernel
theorem dX12_apart_18 : decode cX12_apart 18 = .ok (.iconst 1, 1) := by decide +kernel
theorem dX12_apart_19 : decode cX12_apart 19 = .ok (.baload, 1) := by decide +kernel
theorem dX12_apart_20 : decode cX12_apart 20 = .ok (.ifCond .ne 9, 3) := by decide +kernel
theorem dX12_apart_23 : decode cX12_apart 23 = .ok (.aload_n 0, 1) := by decide +kernel
theorem dX12_apart_24 : decode cX12_apart 24 = .ok (.iconst 1, 1) := by decide +kernel
theorem dX12_apart_25 : decode cX12_apart 25 = .ok (.invokevirtual 316, 3) := by decide +kernel
theorem dX12_apart_28 : decode cX12_apart 28 = .ok (.ireturn, 1) := by decide +kernel
theorem dX12_apart_29 : decode cX12_apart 29 = .ok (.aload_n 0, 1) := by decide +kernel
theorem dX12_apart_30 : decode cX12_apart 30 = .ok (.getfield 21, 3) := by decide +kernel
theorem dX12_apart_33 : decode cX12_apart 33 = .ok (.iconst 0, 1) := by decide +kernel
theorem dX12_apart_34 : decode cX12_apart 34 = .ok (.aaload, 1) := by decide +kernel
theorem dX12_apart_35 : decode cX12_apart 35 = .ok (.astore_n 1, 1) := by decide +kernel
theorem dX12_apart_36 : decode cX12_apart 36 = .ok (.aload_n 0, 1) := by decide +kernel
theorem dX12_apart_37 : decode cX12_apart 37 = .ok (.getfield 21, 3) := by decide +kernel
theorem dX12_apart_40 : decode cX12_apart 40 = .ok (.iconst 1, 1) := by decide +kernel
theorem dX12_apart_41 : decode cX12_apart 41 = .ok (.aaload, 1) := by decide +kernel
theorem dX12_apart_42 : decode cX12_apart 42 = .ok (.astore_n 2, 1) := by decide +kernel
theorem dX12_apart_43 : decode cX12_apart 43 = .ok (.aload_n 0, 1) := by decide +kernel
theorem dX12_apart_44 : decode cX12_apart 44 = .ok (.invokevirtual 324, 3) := by decide +kernel
theorem dX12_apart_47 : decode cX12_apart 47 = .ok (.aload_n 0, 1) := by decide +kernel
theorem dX12_apart_48 : decode cX12_apart 48 = .ok (.getfield 107, 3) := by decide +kernel
theorem dX12_apart_51 : decode cX12_apart 51 = .ok (.iconst 0, 1) := by decide +kernel
theorem dX12_apart_52 : decode cX12_apart 52 = .ok (.aload_n 0, 1) := by decide +kernel
theorem dX12_apart_53 : decode cX12_apart 53 = .ok (.invokevirtual 327, 3) := by decide +kernel
theorem dX12_apart_56 : decode cX12_apart 56 = .ok (.lastore, 1) := by decide +kernel
theorem dX12_apart_57 : decode cX12_apart 57 = .ok (.aload_n 0, 1) := by decide +kernel
theorem dX12_apart_58 : decode cX12_apart 58 = .ok (.getfield 110, 3) := by decide +kernel
theorem dX12_apart_61 : decode cX12_apart 61 = .ok (.iconst 0, 1) := by decide +kernel
theorem dX12_apart_62 : decode cX12_apart 62 = .ok (.aload_n 0, 1) := by decide +kernel
theorem dX12_apart_63 : decode cX12_apart 63 = .ok (.invokevirtual 331, 3) := by decide +kernel
theorem dX12_apart_66 : decode cX12_apart 66 = .ok (.lastore, 1) := by decide +kernel
theorem dX12_apart_67 : decode cX12_apart 67 = .ok (.aload_n 0, 1) := by decide +kernel
theorem dX12_apart_68 : decode cX12_apart 68 = .ok (.getfield 113, 3) := by decide +kernel
theorem dX12_apart_71 : decode cX12_apart 71 = .ok (.iconst 0, 1) := by decide +kernel
theorem dX12_apart_72 : decode cX12_apart 72 = .ok (.aload_n 0, 1) := by decide +kernel
theorem dX12_apart_73 : decode cX12_apart 73 = .ok (.invokevirtual 327, 3) := by decide +kernel
theorem dX12_apart_76 : decode cX12_apart 76 = .ok (.lastore, 1) := by decide +kernel
theorem dX12_apart_77 : decode cX12_apart 77 = .ok (.aload_n 0, 1) := by decide +kernel
theorem dX12_apart_78 : decode cX12_apart 78 = .ok (.getfield 116, 3) := by decide +kernel
theorem dX12_apart_81 : decode cX12_apart 81 = .ok (.iconst 0, 1) := by decide +kernel
theorem dX12_apart_82 : decode cX12_apart 82 = .ok (.aload_n 0, 1) := by decide +kernel
theorem dX12_apart_83 : decode cX12_apart 83 = .ok (.invokevirtual 331, 3) := by decide +kernel
theorem dX12_apart_86 : decode cX12_apart 86 = .ok (.lastore, 1) := by decide +kernel
theorem dX12_apart_87 : decode cX12_apart 87 = .ok (.aload_n 0, 1) := by decide +kernel
theorem dX12_apart_88 : decode cX12_apart 88 = .ok (.getfield 119, 3) := by decide +kernel
theorem dX12_apart_91 : decode cX12_apart 91 = .ok (.iconst 0, 1) := by decide +kernel
theorem dX12_apart_92 : decode cX12_apart 92 = .ok (.iconst (-1), 1) := by decide +kernel
theorem dX12_apart_93 : decode cX12_apart 93 = .ok (.iastore, 1) := by decide +kernel
theorem dX12_apart_94 : decode cX12_apart 94 = .ok (.aload_n 0, 1) := by decide +kernel
theorem dX12_apart_95 : decode cX12_apart 95 = .ok (.iconst 1, 1) := by decide +kernel
theorem dX12_apart_96 : decode cX12_apart 96 = .ok (.putfield 444, 3) := by decide +kernel
theorem dX12_apart_99 : decode cX12_apart 99 = .ok (.aload_n 0, 1) := by decide +kernel
theorem dX12_apart_100 : decode cX12_apart 100 = .ok (.iconst 0, 1) := by decide +kernel
theorem dX12_apart_101 : decode cX12_apart 101 = .ok (.invokevirtual 447, 3) := by decide +kernel
theorem dX12_apart_104 : decode cX12_apart 104 = .ok (.ifCond .ne 10, 3) := by decide +kernel
theorem dX12_apart_107 : decode cX12_apart 107 = .ok (.aload_n 0, 1) := by decide +kernel
theorem dX12_apart_108 : decode cX12_apart 108 = .ok (.iconst 0, 1) := by decide +kernel
theorem dX12_apart_109 : decode cX12_apart 109 = .ok (.iconst (-1), 1) := by decide +kernel
theorem dX12_apart_110 : decode cX12_apart 110 = .ok (.invokevirtual 450, 3) := by decide +kernel
theorem dX12_apart_113 : decode cX12_apart 113 = .ok (.ireturn, 1) := by decide +kernel
theorem dX12_apart_114 : decode cX12_apart 114 = .ok (.iconst 0, 1) := by decide +kernel
theorem dX12_apart_115 : decode cX12_apart 115 = .ok (.istore_n 3, 1) := by decide +kernel
theorem dX12_apart_116 : decode cX12_apart 116 = .ok (.iload_n 3, 1) := by decide +kernel
theorem dX12_apart_117 : decode cX12_apart 117 = .ok (.aload_n 0, 1) := by decide +kernel
theorem dX12_apart_118 : decode cX12_apart 118 = .ok (.getfield 444, 3) := by decide +kernel
theorem dX12_apart_121 : decode cX12_apart 121 = .ok (.if_icmp .ge 411, 3) := by decide +kernel
theorem dX12_apart_124 : decode cX12_apart 124 = .ok (.aload_n 0, 1) := by decide +kernel
theorem dX12_apart_125 : decode cX12_apart 125 = .ok (.aload_n 0, 1) := by decide +kernel
theorem dX12_apart_126 : decode cX12_apart 126 = .ok (.getfield 107, 3) := by decide +kernel
theorem dX12_apart_129 : decode cX12_apart 129 = .ok (.iload_n 3, 1) := by decide +kernel
theorem dX12_apart_130 : decode cX12_apart 130 = .ok (.laload, 1) := by decide +kernel
theorem dX12_apart_131 : decode cX12_apart 131 = .ok (.aload_n 0, 1) := by decide +kernel
theorem dX12_apart_132 : decode cX12_apart 132 = .ok (.getfield 110, 3) := by decide +kernel
theorem dX12_apart_135 : decode cX12_apart 135 = .ok (.iload_n 3, 1) := by decide +kernel
theorem dX12_apart_136 : decode cX12_apart 136 = .ok (.laload, 1) := by decide +kernel
theorem dX12_apart_137 : decode cX12_apart 137 = .ok (.invokevirtual 377, 3) := by decide +kernel
theorem dX12_apart_140 : decode cX12_apart 140 = .ok (.aload_n 0, 1) := by decide +kernel
theorem dX12_apart_141 : decode cX12_apart 141 = .ok (.aload_n 1, 1) := by decide +kernel
theorem dX12_apart_142 : decode cX12_apart 142 = .ok (.invokevirtual 381, 3) := by decide +kernel
theorem dX12_apart_145 : decode cX12_apart 145 = .ok (.istore 4, 2) := by decide +kernel
theorem dX12_apart_147 : decode cX12_apart 147 = .ok (.aload_n 0, 1) := by decide +kernel
theorem dX12_apart_148 : decode cX12_apart 148 = .ok (.aload_n 0, 1) := by decide +kernel
theorem dX12_apart_149 : decode cX12_apart 149 = .ok (.getfield 113, 3) := by decide +kernel
theorem dX12_apart_152 : decode cX12_apart 152 = .ok (.iload_n 3, 1) := by decide +kernel
theorem dX12_apart_153 : decode cX12_apart 153 = .ok (.laload, 1) := by decide +kernel
theorem dX12_apart_154 : decode cX12_apart 154 = .ok (.aload_n 0, 1) := by decide +kernel
theorem dX12_apart_155 : decode cX12_apart 155 = .ok (.getfield 116, 3) := by decide +kernel
theorem dX12_apart_158 : decode cX12_apart 158 = .ok (.iload_n 3, 1) := by decide +kernel
theorem dX12_apart_159 : decode cX12_apart 159 = .ok (.laload, 1) := by decide +kernel
theorem dX12_apart_160 : decode cX12_apart 160 = .ok (.invokevirtual 377, 3) := by decide +kernel
theorem dX12_apart_163 : decode cX12_apart 163 = .ok (.aload_n 0, 1) := by decide +kernel
theorem dX12_apart_164 : decode cX12_apart 164 = .ok (.aload_n 2, 1) := by decide +kernel
theorem dX12_apart_165 : decode cX12_apart 165 = .ok (.invokevirtual 381, 3) := by decide +kernel
theorem dX12_apart_168 : decode cX12_apart 168 = .ok (.istore 5, 2) := by decide +kernel
theorem dX12_apart_170 : decode cX12_apart 170 = .ok (.iconst 0, 1) := by decide +kernel
theorem dX12_apart_171 : decode cX12_apart 171 = .ok (.istore 6, 2) := by decide +kernel
theorem dX12_apart_173 : decode cX12_apart 173 = .ok (.iconst 0, 1) := by decide +kernel
theorem dX12_apart_174 : decode cX12_apart 174 = .ok (.istore 7, 2) := by decide +kernel
theorem dX12_apart_176 : decode cX12_apart 176 = .ok (.iload 7, 2) := by decide +kernel
theorem dX12_apart_178 : decode cX12_apart 178 = .ok (.bipush 27, 2) := by decide +kernel
theorem dX12_apart_180 : decode cX12_apart 180 = .ok (.if_icmp .ge 299, 3) := by decide +kernel
theorem dX12_apart_183 : decode cX12_apart 183 = .ok (.iload 4, 2) := by decide +kernel
theorem dX12_apart_185 : decode cX12_apart 185 = .ok (.iload 7, 2) := by decide +kernel
theorem dX12_apart_187 : decode cX12_apart 187 = .ok (.ishr, 1) := by decide +kernel
theorem dX12_apart_188 : decode cX12_apart 188 = .ok (.iconst 1, 1) := by decide +kernel
theorem dX12_apart_189 : decode cX12_apart 189 = .ok (.iand, 1) := by decide +kernel
theorem dX12_apart_190 : decode cX12_apart 190 = .ok (.ifCond .ne 6, 3) := by decide +kernel
theorem dX12_apart_193 : decode cX12_apart 193 = .ok (.goto 280, 3) := by decide +kernel
theorem dX12_apart_196 : decode cX12_apart 196 = .ok (.aload_n 0, 1) := by decide +kernel
theorem dX12_apart_197 : decode cX12_apart 197 = .ok (.aload_n 0, 1) := by decide +kernel
theorem dX12_apart_198 : decode cX12_apart 198 = .ok (.getfield 113, 3) := by decide +kernel
theorem dX12_apart_201 : decode cX12_apart 201 = .ok (.iload_n 3, 1) := by decide +kernel
theorem dX12_apart_202 : decode cX12_apart 202 = .ok (.laload, 1) := by decide +kernel
theorem dX12_apart_203 : decode cX12_apart 203 = .ok (.aload_n 0, 1) := by decide +kernel
theorem dX12_apart_204 : decode cX12_apart 204 = .ok (.getfield 116, 3) := by decide +kernel
theorem dX12_apart_207 : decode cX12_apart 207 = .ok (.iload_n 3, 1) := by decide +kernel
theorem dX12_apart_208 : decode cX12_apart 208 = .ok (.laload, 1) := by decide +kernel
theorem dX12_apart_209 : decode cX12_apart 209 = .ok (.invokevirtual 377, 3) := by decide +kernel
theorem dX12_apart_212 : decode cX12_apart 212 = .ok (.aload_n 0, 1) := by decide +kernel
theorem dX12_apart_213 : decode cX12_apart 213 = .ok (.aload_n 1, 1) := by decide +kernel
theorem dX12_apart_214 : decode cX12_apart 214 = .ok (.aload_n 2, 1) := by decide +kernel
theorem dX12_apart_215 : decode cX12_apart 215 = .ok (.iload 7, 2) := by decide +kernel
theorem dX12_apart_217 : decode cX12_apart 217 = .ok (.invokevirtual 453, 3) := by decide +kernel
theorem dX12_apart_220 : decode cX12_apart 220 = .ok (.istore 8, 2) := by decide +kernel
theorem dX12_apart_222 : decode cX12_apart 222 = .ok (.iload 8, 2) := by decide +kernel
theorem dX12_apart_224 : decode cX12_apart 224 = .ok (.iconst (-1), 1) := by decide +kernel
theorem dX12_apart_225 : decode cX12_apart 225 = .ok (.if_icmp .ne 11, 3) := by decide +kernel
theorem dX12_apart_228 : decode cX12_apart 228 = .ok (.aload_n 0, 1) := by decide +kernel
theorem dX12_apart_229 : decode cX12_apart 229 = .ok (.iload_n 3, 1) := by decide +kernel
theorem dX12_apart_230 : decode cX12_apart 230 = .ok (.iload 7, 2) := by decide +kernel
theorem dX12_apart_232 : decode cX12_apart 232 = .ok (.invokevirtual 450, 3) := by decide +kernel
theorem dX12_apart_235 : decode cX12_apart 235 = .ok (.ireturn, 1) := by decide +kernel
theorem dX12_apart_236 : decode cX12_apart 236 = .ok (.iload 6, 2) := by decide +kernel
theorem dX12_apart_238 : decode cX12_apart 238 = .ok (.iconst 1, 1) := by decide +kernel
theorem dX12_apart_239 : decode cX12_apart 239 = .ok (.iload 8, 2) := by decide +kernel
theorem dX12_apart_241 : decode cX12_apart 241 = .ok (.ishl, 1) := by decide +kernel
theorem dX12_apart_242 : decode cX12_apart 242 = .ok (.ior, 1) := by decide +kernel
theorem dX12_apart_243 : decode cX12_apart 243 = .ok (.istore 6, 2) := by decide +kernel
theorem dX12_apart_245 : decode cX12_apart 245 = .ok (.aload_n 0, 1) := by decide +kernel
theorem dX12_apart_246 : decode cX12_apart 246 = .ok (.aload_n 2, 1) := by decide +kernel
theorem dX12_apart_247 : decode cX12_apart 247 = .ok (.iload 8, 2) := by decide +kernel
theorem dX12_apart_249 : decode cX12_apart 249 = .ok (.invokevirtual 384, 3) := by decide +kernel
theorem dX12_apart_252 : decode cX12_apart 252 = .ok (.aload_n 0, 1) := by decide +kernel
theorem dX12_apart_253 : decode cX12_apart 253 = .ok (.invokevirtual 327, 3) := by decide +kernel
theorem dX12_apart_256 : decode cX12_apart 256 = .ok (.lstore 9, 2) := by decide +kernel
theorem dX12_apart_258 : decode cX12_apart 258 = .ok (.aload_n 0, 1) := by decide +kernel
theorem dX12_apart_259 : decode cX12_apart 259 = .ok (.invokevirtual 331, 3) := by decide +kernel
theorem dX12_apart_262 : decode cX12_apart 262 = .ok (.lstore 11, 2) := by decide +kernel
theorem dX12_apart_264 : decode cX12_apart 264 = .ok (.aload_n 0, 1) := by decide +kernel
theorem dX12_apart_265 : decode cX12_apart 265 = .ok (.aload_n 0, 1) := by decide +kernel
theorem dX12_apart_266 : decode cX12_apart 266 = .ok (.getfield 107, 3) := by decide +kernel
theorem dX12_apart_269 : decode cX12_apart 269 = .ok (.iload_n 3, 1) := by decide +kernel
theorem dX12_apart_270 : decode cX12_apart 270 = .ok (.laload, 1) := by decide +kernel
theorem dX12_apart_271 : decode cX12_apart 271 = .ok (.aload_n 0, 1) := by decide +kernel
theorem dX12_apart_272 : decode cX12_apart 272 = .ok (.getfield 110, 3) := by decide +kernel
theorem dX12_apart_275 : decode cX12_apart 275 = .ok (.iload_n 3, 1) := by decide +kernel
theorem dX12_apart_276 : decode cX12_apart 276 = .ok (.laload, 1) := by decide +kernel
theorem dX12_apart_277 : decode cX12_apart 277 = .ok (.invokevirtual 377, 3) := by decide +kernel
theorem dX12_apart_280 : decode cX12_apart 280 = .ok (.aload_n 0, 1) := by decide +kernel
theorem dX12_apart_281 : decode cX12_apart 281 = .ok (.aload_n 1, 1) := by decide +kernel
theorem dX12_apart_282 : decode cX12_apart 282 = .ok (.iload 7, 2) := by decide +kernel
theorem dX12_apart_284 : decode cX12_apart 284 = .ok (.invokevirtual 384, 3) := by decide +kernel
theorem dX12_apart_287 : decode cX12_apart 287 = .ok (.iconst 0, 1) := by decide +kernel
theorem dX12_apart_288 : decode cX12_apart 288 = .ok (.istore 13, 2) := by decide +kernel
theorem dX12_apart_290 : decode cX12_apart 290 = .ok (.iload 13, 2) := by decide +kernel
theorem dX12_apart_292 : decode cX12_apart 292 = .ok (.aload_n 0, 1) := by decide +kernel
theorem dX12_apart_293 : decode cX12_apart 293 = .ok (.getfield 444, 3) := by decide +kernel
theorem dX12_apart_296 : decode cX12_apart 296 = .ok (.if_icmp .ge 65, 3) := by decide +kernel
theorem dX12_apart_299 : decode cX12_apart 299 = .ok (.aload_n 0, 1) := by decide +kernel
theorem dX12_apart_300 : decode cX12_apart 300 = .ok (.getfield 107, 3) := by decide +kernel
theorem dX12_apart_303 : decode cX12_apart 303 = .ok (.iload 13, 2) := by decide +kernel
theorem dX12_apart_305 : decode cX12_apart 305 = .ok (.laload, 1) := by decide +kernel
theorem dX12_apart_306 : decode cX12_apart 306 = .ok (.aload_n 0, 1) := by decide +kernel
theorem dX12_apart_307 : decode cX12_apart 307 = .ok (.invokevirtual 327, 3) := by decide +kernel
theorem dX12_apart_310 : decode cX12_apart 310 = .ok (.lcmp, 1) := by decide +kernel
theorem dX12_apart_311 : decode cX12_apart 311 = .ok (.ifCond .ne 44, 3) := by decide +kernel
theorem dX12_apart_314 : decode cX12_apart 314 = .ok (.aload_n 0, 1) := by decide +kernel
theorem dX12_apart_315 : decode cX12_apart 315 = .ok (.getfield 110, 3) := by decide +kernel
theorem dX12_apart_318 : decode cX12_apart 318 = .ok (.iload 13, 2) := by decide +kernel
theorem dX12_apart_320 : decode cX12_apart 320 = .ok (.laload, 1) := by decide +kernel
theorem dX12_apart_321 : decode cX12_apart 321 = .ok (.aload_n 0, 1) := by decide +kernel
theorem dX12_apart_322 : decode cX12_apart 322 = .ok (.invokevirtual 331, 3) := by decide +kernel
theorem dX12_apart_325 : decode cX12_apart 325 = .ok (.lcmp, 1) := by decide +kernel
theorem dX12_apart_326 : decode cX12_apart 326 = .ok (.ifCond .ne 29, 3) := by decide +kernel
theorem dX12_apart_329 : decode cX12_apart 329 = .ok (.aload_n 0, 1) := by decide +kernel
theorem dX12_apart_330 : decode cX12_apart 330 = .ok (.getfield 113, 3) := by decide +kernel
theorem dX12_apart_333 : decode cX12_apart 333 = .ok (.iload 13, 2) := by decide +kernel
theorem dX12_apart_335 : decode cX12_apart 335 = .ok (.laload, 1) := by decide +kernel
theorem dX12_apart_336 : decode cX12_apart 336 = .ok (.lload 9, 2) := by decide +kernel
theorem dX12_apart_338 : decode cX12_apart 338 = .ok (.lcmp, 1) := by decide +kernel
theorem dX12_apart_339 : decode cX12_apart 339 = .ok (.ifCond .ne 16, 3) := by decide +kernel
theorem dX12_apart_342 : decode cX12_apart 342 = .ok (.aload_n 0, 1) := by decide +kernel
theorem dX12_apart_343 : decode cX12_apart 343 = .ok (.getfield 116, 3) := by decide +kernel
theorem dX12_apart_346 : decode cX12_apart 346 = .ok (.iload 13, 2) := by decide +kernel
theorem dX12_apart_348 : decode cX12_apart 348 = .ok (.laload, 1) := by decide +kernel
theorem dX12_apart_349 : decode cX12_apart 349 = .ok (.lload 11, 2) := by decide +kernel
theorem dX12_apart_351 : decode cX12_apart 351 = .ok (.lcmp, 1) := by decide +kernel
theorem dX12_apart_352 : decode cX12_apart 352 = .ok (.ifCond .eq 9, 3) := by decide +kernel
theorem dX12_apart_355 : decode cX12_apart 355 = .ok (.iinc 13 1, 3) := by decide +kernel
theorem dX12_apart_358 : decode cX12_apart 358 = .ok (.goto (-68), 3) := by decide +kernel
theorem dX12_apart_361 : decode cX12_apart 361 = .ok (.iload 13, 2) := by decide +kernel
theorem dX12_apart_363 : decode cX12_apart 363 = .ok (.aload_n 0, 1) := by decide +kernel
theorem dX12_apart_364 : decode cX12_apart 364 = .ok (.getfield 444, 3) := by decide +kernel
theorem dX12_apart_367 : decode cX12_apart 367 = .ok (.if_icmp .ge 6, 3) := by decide +kernel
theorem dX12_apart_370 : decode cX12_apart 370 = .ok (.goto 103, 3) := by decide +kernel
theorem dX12_apart_373 : decode cX12_apart 373 = .ok (.aload_n 0, 1) := by decide +kernel
theorem dX12_apart_374 : decode cX12_apart 374 = .ok (.getfield 444, 3) := by decide +kernel
theorem dX12_apart_377 : decode cX12_apart 377 = .ok (.sipush 400, 3) := by decide +kernel
theorem dX12_apart_380 : decode cX12_apart 380 = .ok (.if_icmp .ne 9, 3) := by decide +kernel
theorem dX12_apart_383 : decode cX12_apart 383 = .ok (.aload_n 0, 1) := by decide +kernel
theorem dX12_apart_384 : decode cX12_apart 384 = .ok (.iconst 5, 1) := by decide +kernel
theorem dX12_apart_385 : decode cX12_apart 385 = .ok (.invokevirtual 316, 3) := by decide +kernel
theorem dX12_apart_388 : decode cX12_apart 388 = .ok (.ireturn, 1) := by decide +kernel
theorem dX12_apart_389 : decode cX12_apart 389 = .ok (.aload_n 0, 1) := by decide +kernel
theorem dX12_apart_390 : decode cX12_apart 390 = .ok (.getfield 107, 3) := by decide +kernel
theorem dX12_apart_393 : decode cX12_apart 393 = .ok (.iload 13, 2) := by decide +kernel
theorem dX12_apart_395 : decode cX12_apart 395 = .ok (.aload_n 0, 1) := by decide +kernel
theorem dX12_apart_396 : decode cX12_apart 396 = .ok (.invokevirtual 327, 3) := by decide +kernel
theorem dX12_apart_399 : decode cX12_apart 399 = .ok (.lastore, 1) := by decide +kernel
theorem dX12_apart_400 : decode cX12_apart 400 = .ok (.aload_n 0, 1) := by decide +kernel
theorem dX12_apart_401 : decode cX12_apart 401 = .ok (.getfield 110, 3) := by decide +kernel
theorem dX12_apart_404 : decode cX12_apart 404 = .ok (.iload 13, 2) := by decide +kernel
theorem dX12_apart_406 : decode cX12_apart 406 = .ok (.aload_n 0, 1) := by decide +kernel
theorem dX12_apart_407 : decode cX12_apart 407 = .ok (.invokevirtual 331, 3) := by decide +kernel
theorem dX12_apart_410 : decode cX12_apart 410 = .ok (.lastore, 1) := by decide +kernel
theorem dX12_apart_411 : decode cX12_apart 411 = .ok (.aload_n 0, 1) := by decide +kernel
theorem dX12_apart_412 : decode cX12_apart 412 = .ok (.getfield 113, 3) := by decide +kernel
theorem dX12_apart_415 : decode cX12_apart 415 = .ok (.iload 13, 2) := by decide +kernel
theorem dX12_apart_417 : decode cX12_apart 417 = .ok (.lload 9, 2) := by decide +kernel
theorem dX12_apart_419 : decode cX12_apart 419 = .ok (.lastore, 1) := by decide +kernel
theorem dX12_apart_420 : decode cX12_apart 420 = .ok (.aload_n 0, 1) := by decide +kernel
theorem dX12_apart_421 : decode cX12_apart 421 = .ok (.getfield 116, 3) := by decide +kernel
theorem dX12_apart_424 : decode cX12_apart 424 = .ok (.iload 13, 2) := by decide +kernel
theorem dX12_apart_426 : decode cX12_apart 426 = .ok (.lload 11, 2) := by decide +kernel
theorem dX12_apart_428 : decode cX12_apart 428 = .ok (.lastore, 1) := by decide +kernel
theorem dX12_apart_429 : decode cX12_apart 429 = .ok (.aload_n 0, 1) := by decide +kernel
theorem dX12_apart_430 : decode cX12_apart 430 = .ok (.getfield 119, 3) := by decide +kernel
theorem dX12_apart_433 : decode cX12_apart 433 = .ok (.iload 13, 2) := by decide +kernel
theorem dX12_apart_435 : decode cX12_apart 435 = .ok (.iload_n 3, 1) := by decide +kernel
theorem dX12_apart_436 : decode cX12_apart 436 = .ok (.iastore, 1) := by decide +kernel
theorem dX12_apart_437 : decode cX12_apart 437 = .ok (.aload_n 0, 1) := by decide +kernel
theorem dX12_apart_438 : decode cX12_apart 438 = .ok (.getfield 122, 3) := by decide +kernel
theorem dX12_apart_441 : decode cX12_apart 441 = .ok (.iload 13, 2) := by decide +kernel
theorem dX12_apart_443 : decode cX12_apart 443 = .ok (.iload 7, 2) := by decide +kernel
theorem dX12_apart_445 : decode cX12_apart 445 = .ok (.iastore, 1) := by decide +kernel
theorem dX12_apart_446 : decode cX12_apart 446 = .ok (.aload_n 0, 1) := by decide +kernel
theorem dX12_apart_447 : decode cX12_apart 447 = .ok (.dup, 1) := by decide +kernel
theorem dX12_apart_448 : decode cX12_apart 448 = .ok (.getfield 444, 3) := by decide +kernel
theorem dX12_apart_451 : decode cX12_apart 451 = .ok (.iconst 1, 1) := by decide +kernel
theorem dX12_apart_452 : decode cX12_apart 452 = .ok (.iadd, 1) := by decide +kernel
theorem dX12_apart_453 : decode cX12_apart 453 = .ok (.putfield 444, 3) := by decide +kernel
theorem dX12_apart_456 : decode cX12_apart 456 = .ok (.aload_n 0, 1) := by decide +kernel
theorem dX12_apart_457 : decode cX12_apart 457 = .ok (.iload 13, 2) := by decide +kernel
theorem dX12_apart_459 : decode cX12_apart 459 = .ok (.invokevirtual 447, 3) := by decide +kernel
theorem dX12_apart_462 : decode cX12_apart 462 = .ok (.ifCond .ne 11, 3) := by decide +kernel
theorem dX12_apart_465 : decode cX12_apart 465 = .ok (.aload_n 0, 1) := by decide +kernel
theorem dX12_apart_466 : decode cX12_apart 466 = .ok (.iload 13, 2) := by decide +kernel
theorem dX12_apart_468 : decode cX12_apart 468 = .ok (.iconst (-1), 1) := by decide +kernel
theorem dX12_apart_469 : decode cX12_apart 469 = .ok (.invokevirtual 450, 3) := by decide +kernel
theorem dX12_apart_472 : decode cX12_apart 472 = .ok (.ireturn, 1) := by decide +kernel
theorem dX12_apart_473 : decode cX12_apart 473 = .ok (.iinc 7 1, 3) := by decide +kernel
theorem dX12_apart_476 : decode cX12_apart 476 = .ok (.goto (-300), 3) := by decide +kernel
theorem dX12_apart_479 : decode cX12_apart 479 = .ok (.iload 5, 2) := by decide +kernel
theorem dX12_apart_481 : decode cX12_apart 481 = .ok (.iload 6, 2) := by decide +kernel
theorem dX12_apart_483 : decode cX12_apart 483 = .ok (.iconst (-1), 1) := by decide +kernel
theorem dX12_apart_484 : decode cX12_apart 484 = .ok (.ixor, 1) := by decide +kernel
theorem dX12_apart_485 : decode cX12_apart 485 = .ok (.iand, 1) := by decide +kernel
theorem dX12_apart_486 : decode cX12_apart 486 = .ok (.istore 7, 2) := by decide +kernel
theorem dX12_apart_488 : decode cX12_apart 488 = .ok (.iload 7, 2) := by decide +kernel
theorem dX12_apart_490 : decode cX12_apart 490 = .ok (.ifCond .ne 6, 3) := by decide +kernel
theorem dX12_apart_493 : decode cX12_apart 493 = .ok (.goto 33, 3) := by decide +kernel
theorem dX12_apart_496 : decode cX12_apart 496 = .ok (.iconst 0, 1) := by decide +kernel
theorem dX12_apart_497 : decode cX12_apart 497 = .ok (.istore 8, 2) := by decide +kernel
theorem dX12_apart_499 : decode cX12_apart 499 = .ok (.iload 7, 2) := by decide +kernel
theorem dX12_apart_501 : decode cX12_apart 501 = .ok (.iload 8, 2) := by decide +kernel
theorem dX12_apart_503 : decode cX12_apart 503 = .ok (.ishr, 1) := by decide +kernel
theorem dX12_apart_504 : decode cX12_apart 504 = .ok (.iconst 1, 1) := by decide +kernel
theorem dX12_apart_505 : decode cX12_apart 505 = .ok (.iand, 1) := by decide +kernel
theorem dX12_apart_506 : decode cX12_apart 506 = .ok (.ifCond .ne 9, 3) := by decide +kernel
theorem dX12_apart_509 : decode cX12_apart 509 = .ok (.iinc 8 1, 3) := by decide +kernel
theorem dX12_apart_512 : decode cX12_apart 512 = .ok (.goto (-13), 3) := by decide +kernel
theorem dX12_apart_515 : decode cX12_apart 515 = .ok (.aload_n 0, 1) := by decide +kernel
theorem dX12_apart_516 : decode cX12_apart 516 = .ok (.iload_n 3, 1) := by decide +kernel
theorem dX12_apart_517 : decode cX12_apart 517 = .ok (.bipush 100, 2) := by decide +kernel
theorem dX12_apart_519 : decode cX12_apart 519 = .ok (.iload 8, 2) := by decide +kernel
theorem dX12_apart_521 : decode cX12_apart 521 = .ok (.iadd, 1) := by decide +kernel
theorem dX12_apart_522 : decode cX12_apart 522 = .ok (.invokevirtual 450, 3) := by decide +kernel
theorem dX12_apart_525 : decode cX12_apart 525 = .ok (.ireturn, 1) := by decide +kernel
theorem dX12_apart_526 : decode cX12_apart 526 = .ok (.iinc 3 1, 3) := by decide +kernel
theorem dX12_apart_529 : decode cX12_apart 529 = .ok (.goto (-413), 3) := by decide +kernel
theorem dX12_apart_532 : decode cX12_apart 532 = .ok (.aload_n 0, 1) := by decide +kernel
theorem dX12_apart_533 : decode cX12_apart 533 = .ok (.bipush (-2), 2) := by decide +kernel
theorem dX12_apart_535 : decode cX12_apart 535 = .ok (.invokevirtual 337, 3) := by decide +kernel
theorem dX12_apart_538 : decode cX12_apart 538 = .ok (.ireturn, 1) := by decide +kernel
theorem dX12_count_0 : decode cX12_count 0 = .ok (.aload_n 0, 1) := by decide +kernel
theorem dX12_count_1 : decode cX12_count 1 = .ok (.iconst 0, 1) := by decide +kernel
theorem dX12_count_2 : decode cX12_count 2 = .ok (.putfield 1, 3) := by decide +kernel
theorem dX12_count_5 : decode cX12_count 5 = .ok (.iload_n 1, 1) := by decide +kernel
theorem dX12_count_6 : decode cX12_count 6 = .ok (.tableswitch 59 0 4 #[34, 39, 44, 49, 54], 34) := by decide +kernel
theorem dX12_count_40 : decode cX12_count 40 = .ok (.aload_n 0, 1) := by decide +kernel
theorem dX12_count_41 : decode cX12_count 41 = .ok (.getfield 334, 3) := by decide +kernel
theorem dX12_count_44 : decode cX12_count 44 = .ok (.ireturn, 1) := by decide +kernel
theorem dX12_count_45 : decode cX12_count 45 = .ok (.aload_n 0, 1) := by decide +kernel
theorem dX12_count_46 : decode cX12_count 46 = .ok (.getfield 62, 3) := by decide +kernel
theorem dX12_count_49 : decode cX12_count 49 = .ok (.ireturn, 1) := by decide +kernel
theorem dX12_count_50 : decode cX12_count 50 = .ok (.aload_n 0, 1) := by decide +kernel
theorem dX12_count_51 : decode cX12_count 51 = .ok (.getfield 415, 3) := by decide +kernel
theorem dX12_count_54 : decode cX12_count 54 = .ok (.ireturn, 1) := by decide +kernel
theorem dX12_count_55 : decode cX12_count 55 = .ok (.aload_n 0, 1) := by decide +kernel
theorem dX12_count_56 : decode cX12_count 56 = .ok (.getfield 313, 3) := by decide +kernel
theorem dX12_count_59 : decode cX12_count 59 = .ok (.ireturn, 1) := by decide +kernel
theorem dX12_count_60 : decode cX12_count 60 = .ok (.aload_n 0, 1) := by decide +kernel
theorem dX12_count_61 : decode cX12_count 61 = .ok (.getfield 444, 3) := by decide +kernel
theorem dX12_count_64 : decode cX12_count 64 = .ok (.ireturn, 1) := by decide +kernel
theorem dX12_count_65 : decode cX12_count 65 = .ok (.iconst (-1), 1) := by decide +kernel
theorem dX12_count_66 : decode cX12_count 66 = .ok (.ireturn, 1) := by decide +kernel
theorem dX12_trouble_0 : decode cX12_trouble 0 = .ok (.aload_n 0, 1) := by decide +kernel
theorem dX12_trouble_1 : decode cX12_trouble 1 = .ok (.iconst 0, 1) := by decide +kernel
theorem dX12_trouble_2 : decode cX12_trouble 2 = .ok (.putfield 1, 3) := by decide +kernel
theorem dX12_trouble_5 : decode cX12_trouble 5 = .ok (.aload_n 0, 1) := by decide +kernel
theorem dX12_trouble_6 : decode cX12_trouble 6 = .ok (.getfield 7, 3) := by decide +kernel
theorem dX12_trouble_9 : decode cX12_trouble 9 = .ok (.ireturn, 1) := by decide +kernel
theorem dJ9_max_7cf53_0 : decode cJ9_max_7cf53 0 = .ok (.iload_n 0, 1) := by decide +kernel
theorem dJ9_max_7cf53_1 : decode cJ9_max_7cf53 1 = .ok (.iload_n 1, 1) := by decide +kernel
theorem dJ9_max_7cf53_2 : decode cJ9_max_7cf53 2 = .ok (.if_icmp .lt 7, 3) := by decide +kernel
theorem dJ9_max_7cf53_5 : decode cJ9_max_7cf53 5 = .ok (.iload_n 0, 1) := by decide +kernel
theorem dJ9_max_7cf53_6 : decode cJ9_max_7cf53 6 = .ok (.goto 4, 3) := by decide +kernel
theorem dJ9_max_7cf53_9 : decode cJ9_max_7cf53 9 = .ok (.iload_n 1, 1) := by decide +kernel
theorem dJ9_max_7cf53_10 : decode cJ9_max_7cf53 10 = .ok (.ireturn, 1) := by decide +kernel
theorem dJ9_min_7cf53_0 : decode cJ9_min_7cf53 0 = .ok (.iload_n 0, 1) := by decide +kernel
theorem dJ9_min_7cf53_1 : decode cJ9_min_7cf53 1 = .ok (.iload_n 1, 1) := by decide +kernel
theorem dJ9_min_7cf53_2 : decode cJ9_min_7cf53 2 = .ok (.if_icmp .gt 7, 3) := by decide +kernel
theorem dJ9_min_7cf53_5 : decode cJ9_min_7cf53 5 = .ok (.iload_n 0, 1) := by decide +kernel
theorem dJ9_min_7cf53_6 : decode cJ9_min_7cf53 6 = .ok (.goto 4, 3) := by decide +kernel
theorem dJ9_min_7cf53_9 : decode cJ9_min_7cf53 9 = .ok (.iload_n 1, 1) := by decide +kernel
theorem dJ9_min_7cf53_10 : decode cJ9_min_7cf53 10 = .ok (.ireturn, 1) := by decide +kernel
set_option maxRecDepth 20000 in
theorem ggJ0_length_8abf5_J0_coder_7d493 : GoodIn wsJ0_length_8abf5 wsJ0_coder_7d493 := goodIn_r _ [6, 7, 8] (by decide +kernel) (by decide +kernel)
set_option maxRecDepth 20000 in
theorem gJ0_length_8abf5_J0_coder_7d493 : GoodIn wsJ0_length_8abf5 (wsV RJ0 335 RJ0 yJ0_coder_7d493 wsJ0_coder_7d493) := goodIn_app (goodIn_of _ (by decide +kernel)) ggJ0_length_8abf5_J0_coder_7d493
theorem dJ0_length_8abf5_0 : decode cJ0_length_8abf5 0 = .ok (.aload_n 0, 1) := by decide +kernel
theorem dJ0_length_8abf5_1 : decode cJ0_length_8abf5 1 = .ok (.getfield 9, 3) := by decide +kernel
theorem dJ0_length_8abf5_4 : decode cJ0_length_8abf5 4 = .ok (.arraylength, 1) := by decide +kernel
theorem dJ0_length_8abf5_5 : decode cJ0_length_8abf5 5 = .ok (.aload_n 0, 1) := by decide +kernel
theorem dJ0_length_8abf5_6 : decode cJ0_length_8abf5 6 = .ok (.invokevirtual 335, 3) := by decide +kernel
theorem dJ0_length_8abf5_9 : decode cJ0_length_8abf5 9 = .ok (.ishr, 1) := by decide +kernel
theorem dJ0_length_8abf5_10 : decode cJ0_length_8abf5 10 = .ok (.ireturn, 1) := by decide +kernel
set_option maxRecDepth 20000 in
theorem ggJ0_charAt_5068e_J0_isLatin1_aae02 : GoodIn wsJ0_charAt_5068e wsJ0_isLatin1_aae02 := goodIn_r _ [6, 7, 8] (by decide +kernel) (by decide +kernel)
set_option maxRecDepth 20000 in
theorem gJ0_charAt_5068e_J0_isLatin1_aae02 : GoodIn wsJ0_charAt_5068e (wsV RJ0 492 RJ0 yJ0_isLatin1_aae02 wsJ0_isLatin1_aae02) := goodIn_app (goodIn_of _ (by decide +kernel)) ggJ0_charAt_5068e_J0_isLatin1_aae02
set_option maxRecDepth 20000 in
theorem ggJ0_charAt_5068e_J1_charAt_3b067 : GoodIn wsJ0_charAt_5068e wsJ1_charAt_3b067 := goodIn_r _ [12, 13, 14, 5, 15, 16, 17, 18, 19, 20] (by decide +kernel) (by decide +kernel)
set_option maxRecDepth 20000 in
theorem gJ0_charAt_5068e_J1_charAt_3b067 : GoodIn wsJ0_charAt_5068e (va_wsS RJ0 495 yJ1_charAt_3b067 wsJ1_charAt_3b067) := goodIn_app (goodIn_of _ (by decide +kernel)) ggJ0_charAt_5068e_J1_charAt_3b067
set_option maxRecDepth 20000 in
theorem ggJ0_charAt_5068e_J2_charAt_3b067 : GoodIn wsJ0_charAt_5068e wsJ2_charAt_3b067 := goodIn_r _ [24, 25, 26, 23, 27, 28, 29, 30, 31, 14, 5, 15, 16, 17, 18, 19, 20, 32, 33, 34, 35, 36, 37] (by decide +kernel) (by decide +kernel)
set_option maxRecDepth 20000 in
theorem gJ0_charAt_5068e_J2_charAt_3b067 : GoodIn wsJ0_charAt_5068e (va_wsS RJ0 498 yJ2_charAt_3b067 wsJ2_charAt_3b067) := goodIn_app (goodIn_of _ (by decide +kernel)) ggJ0_charAt_5068e_J2_charAt_3b067
theorem dJ0_charAt_5068e_0 : decode cJ0_charAt_5068e 0 = .ok (.aload_n 0, 1) := by decide +kernel
theorem dJ0_charAt_5068e_1 : decode cJ0_charAt_5068e 1 = .ok (.invokevirtual 492, 3) := by decide +kernel
theorem dJ0_charAt_5068e_4 : decode cJ0_charAt_5068e 4 = .ok (.ifCond .eq 12, 3) := by decide +kernel
theorem dJ0_charAt_5068e_7 : decode cJ0_charAt_5068e 7 = .ok (.aload_n 0, 1) := by decide +kernel
theorem dJ0_charAt_5068e_8 : decode cJ0_charAt_5068e 8 = .ok (.getfield 9, 3) := by decide +kernel
theorem dJ0_charAt_5068e_11 : decode cJ0_charAt_5068e 11 = .ok (.iload_n 1, 1) := by decide +kernel
theorem dJ0_charAt_5068e_12 : decode cJ0_charAt_5068e 12 = .ok (.invokestatic 495, 3) := by decide +kernel
theorem dJ0_charAt_5068e_15 : decode cJ0_charAt_5068e 15 = .ok (.ireturn, 1) := by decide +kernel
theorem dJ0_charAt_5068e_16 : decode cJ0_charAt_5068e 16 = .ok (.aload_n 0, 1) := by decide +kernel
theorem dJ0_charAt_5068e_17 : decode cJ0_charAt_5068e 17 = .ok (.getfield 9, 3) := by decide +kernel
theorem dJ0_charAt_5068e_20 : decode cJ0_charAt_5068e 20 = .ok (.iload_n 1, 1) := by decide +kernel
theorem dJ0_charAt_5068e_21 : decode cJ0_charAt_5068e 21 = .ok (.invokestatic 498, 3) := by decide +kernel
theorem dJ0_charAt_5068e_24 : decode cJ0_charAt_5068e 24 = .ok (.ireturn, 1) := by decide +kernel
theorem dJ0_coder_7d493_0 : decode cJ0_coder_7d493 0 = .ok (.getstatic 38, 3) := by decide +kernel
theorem dJ0_coder_7d493_3 : decode cJ0_coder_7d493 3 = .ok (.ifCond .eq 10, 3) := by decide +kernel
theorem dJ0_coder_7d493_6 : decode cJ0_coder_7d493 6 = .ok (.aload_n 0, 1) := by decide +kernel
theorem dJ0_coder_7d493_7 : decode cJ0_coder_7d493 7 = .ok (.getfield 15, 3) := by decide +kernel
theorem dJ0_coder_7d493_10 : decode cJ0_coder_7d493 10 = .ok (.goto 4, 3) := by decide +kernel
theorem dJ0_coder_7d493_13 : decode cJ0_coder_7d493 13 = .ok (.iconst 1, 1) := by decide +kernel
theorem dJ0_coder_7d493_14 : decode cJ0_coder_7d493 14 = .ok (.ireturn, 1) := by decide +kernel
theorem dJ0_isLatin1_aae02_0 : decode cJ0_isLatin1_aae02 0 = .ok (.getstatic 38, 3) := by decide +kernel
theorem dJ0_isLatin1_aae02_3 : decode cJ0_isLatin1_aae02 3 = .ok (.ifCond .eq 14, 3) := by decide +kernel
theorem dJ0_isLatin1_aae02_6 : decode cJ0_isLatin1_aae02 6 = .ok (.aload_n 0, 1) := by decide +kernel
theorem dJ0_isLatin1_aae02_7 : decode cJ0_isLatin1_aae02 7 = .ok (.getfield 15, 3) := by decide +kernel
theorem dJ0_isLatin1_aae02_10 : decode cJ0_isLatin1_aae02 10 = .ok (.ifCond .ne 7, 3) := by decide +kernel
theorem dJ0_isLatin1_aae02_13 : decode cJ0_isLatin1_aae02 13 = .ok (.iconst 1, 1) := by decide +kernel
theorem dJ0_isLatin1_aae02_14 : decode cJ0_isLatin1_aae02 14 = .ok (.goto 4, 3) := by decide +kernel
theorem dJ0_isLatin1_aae02_17 : decode cJ0_isLatin1_aae02 17 = .ok (.iconst 0, 1) := by decide +kernel
theorem dJ0_isLatin1_aae02_18 : decode cJ0_isLatin1_aae02 18 = .ok (.ireturn, 1) := by decide +kernel
set_option maxRecDepth 20000 in
theorem ggJ0_checkIndex_df160_J3_checkIndex_8e157 : GoodIn wsJ0_checkIndex_df160 wsJ3_checkIndex_8e157 := goodIn_r _ [5] (by decide +kernel) (by decide +kernel)
set_option maxRecDepth 20000 in
theorem gJ0_checkIndex_df160_J3_checkIndex_8e157 : GoodIn wsJ0_checkIndex_df160 (va_wsS RJ0 1059 yJ3_checkIndex_8e157 wsJ3_checkIndex_8e157) := goodIn_app (goodIn_of _ (by decide +kernel)) ggJ0_checkIndex_df160_J3_checkIndex_8e157
theorem dJ0_checkIndex_df160_0 : decode cJ0_checkIndex_df160 0 = .ok (.iload_n 0, 1) := by decide +kernel
theorem dJ0_checkIndex_df160_1 : decode cJ0_checkIndex_df160 1 = .ok (.iload_n 1, 1) := by decide +kernel
theorem dJ0_checkIndex_df160_2 : decode cJ0_checkIndex_df160 2 = .ok (.getstatic 1053, 3) := by decide +kernel
theorem dJ0_checkIndex_df160_5 : decode cJ0_checkIndex_df160 5 = .ok (.invokestatic 1059, 3) := by decide +kernel
theorem dJ0_checkIndex_df160_8 : decode cJ0_checkIndex_df160 8 = .ok (.pop, 1) := by decide +kernel
theorem dJ0_checkIndex_df160_9 : decode cJ0_checkIndex_df160 9 = .ok (.return_, 1) := by decide +kernel
set_option maxRecDepth 20000 in
theorem ggJ1_charAt_3b067_J0_checkIndex_df160 : GoodIn wsJ1_charAt_3b067 wsJ0_checkIndex_df160 := goodIn_r _ [4, 5, 6, 7, 8, 9] (by decide +kernel) (by decide +kernel)
set_option maxRecDepth 20000 in
theorem gJ1_charAt_3b067_J0_checkIndex_df160 : GoodIn wsJ1_charAt_3b067 (va_wsS RJ1 9 yJ0_checkIndex_df160 wsJ0_checkIndex_df160) := goodIn_app (goodIn_of _ (by decide +kernel)) ggJ1_charAt_3b067_J0_checkIndex_df160
theorem dJ1_charAt_3b067_0 : decode cJ1_charAt_3b067 0 = .ok (.iload_n 1, 1) := by decide +kernel
theorem dJ1_charAt_3b067_1 : decode cJ1_charAt_3b067 1 = .ok (.aload_n 0, 1) := by decide +kernel
theorem dJ1_charAt_3b067_2 : decode cJ1_charAt_3b067 2 = .ok (.arraylength, 1) := by decide +kernel
theorem dJ1_charAt_3b067_3 : decode cJ1_charAt_3b067 3 = .ok (.invokestatic 9, 3) := by decide +kernel
theorem dJ1_charAt_3b067_6 : decode cJ1_charAt_3b067 6 = .ok (.aload_n 0, 1) := by decide +kernel
theorem dJ1_charAt_3b067_7 : decode cJ1_charAt_3b067 7 = .ok (.iload_n 1, 1) := by decide +kernel
theorem dJ1_charAt_3b067_8 : decode cJ1_charAt_3b067 8 = .ok (.baload, 1) := by decide +kernel
theorem dJ1_charAt_3b067_9 : decode cJ1_charAt_3b067 9 = .ok (.sipush 255, 3) := by decide +kernel
theorem dJ1_charAt_3b067_12 : decode cJ1_charAt_3b067 12 = .ok (.iand, 1) := by decide +kernel
theorem dJ1_charAt_3b067_13 : decode cJ1_charAt_3b067 13 = .ok (.i2c, 1) := by decide +kernel
theorem dJ1_charAt_3b067_14 : decode cJ1_charAt_3b067 14 = .ok (.ireturn, 1) := by decide +kernel
set_option maxRecDepth 20000 in
theorem ggJ2_getChar_3b067_J2_length_9d52b : GoodIn wsJ2_getChar_3b067 wsJ2_length_9d52b := goodIn_r _ [7] (by decide +kernel) (by decide +kernel)
set_option maxRecDepth 20000 in
theorem gJ2_getChar_3b067_J2_length_9d52b : GoodIn wsJ2_getChar_3b067 (va_wsS RJ2 48 yJ2_length_9d52b wsJ2_length_9d52b) := goodIn_app (goodIn_of _ (by decide +kernel)) ggJ2_getChar_3b067_J2_length_9d52b
theorem dJ2_getChar_3b067_0 : decode cJ2_getChar_3b067 0 = .ok (.getstatic 44, 3) := by decide +kernel
theorem dJ2_getChar_3b067_3 : decode cJ2_getChar_3b067 3 = .ok (.ifCond .ne 25, 3) := by decide +kernel
theorem dJ2_getChar_3b067_6 : decode cJ2_getChar_3b067 6 = .ok (.iload_n 1, 1) := by decide +kernel
theorem dJ2_getChar_3b067_7 : decode cJ2_getChar_3b067 7 = .ok (.ifCond .lt 11, 3) := by decide +kernel
theorem dJ2_getChar_3b067_10 : decode cJ2_getChar_3b067 10 = .ok (.iload_n 1, 1) := by decide +kernel
theorem dJ2_getChar_3b067_11 : decode cJ2_getChar_3b067 11 = .ok (.aload_n 0, 1) := by decide +kernel
theorem dJ2_getChar_3b067_12 : decode cJ2_getChar_3b067 12 = .ok (.invokestatic 48, 3) := by decide +kernel
theorem dJ2_getChar_3b067_15 : decode cJ2_getChar_3b067 15 = .ok (.if_icmp .lt 13, 3) := by decide +kernel
theorem dJ2_getChar_3b067_18 : decode cJ2_getChar_3b067 18 = .ok (.new 52, 3) := by decide +kernel
theorem dJ2_getChar_3b067_21 : decode cJ2_getChar_3b067 21 = .ok (.dup, 1) := by decide +kernel
theorem dJ2_getChar_3b067_22 : decode cJ2_getChar_3b067 22 = .ok (.ldc 54, 2) := by decide +kernel
theorem dJ2_getChar_3b067_24 : decode cJ2_getChar_3b067 24 = .ok (.invokespecial 56, 3) := by decide +kernel
theorem dJ2_getChar_3b067_27 : decode cJ2_getChar_3b067 27 = .ok (.athrow, 1) := by decide +kernel
theorem dJ2_getChar_3b067_28 : decode cJ2_getChar_3b067 28 = .ok (.iload_n 1, 1) := by decide +kernel
theorem dJ2_getChar_3b067_29 : decode cJ2_getChar_3b067 29 = .ok (.iconst 1, 1) := by decide +kernel
theorem dJ2_getChar_3b067_30 : decode cJ2_getChar_3b067 30 = .ok (.ishl, 1) := by decide +kernel
theorem dJ2_getChar_3b067_31 : decode cJ2_getChar_3b067 31 = .ok (.istore_n 1, 1) := by decide +kernel
theorem dJ2_getChar_3b067_32 : decode cJ2_getChar_3b067 32 = .ok (.aload_n 0, 1) := by decide +kernel
theorem dJ2_getChar_3b067_33 : decode cJ2_getChar_3b067 33 = .ok (.iload_n 1, 1) := by decide +kernel
theorem dJ2_getChar_3b067_34 : decode cJ2_getChar_3b067 34 = .ok (.iinc 1 1, 3) := by decide +kernel
theorem dJ2_getChar_3b067_37 : decode cJ2_getChar_3b067 37 = .ok (.baload, 1) := by decide +kernel
theorem dJ2_getChar_3b067_38 : decode cJ2_getChar_3b067 38 = .ok (.sipush 255, 3) := by decide +kernel
theorem dJ2_getChar_3b067_41 : decode cJ2_getChar_3b067 41 = .ok (.iand, 1) := by decide +kernel
theorem dJ2_getChar_3b067_42 : decode cJ2_getChar_3b067 42 = .ok (.getstatic 59, 3) := by decide +kernel
theorem dJ2_getChar_3b067_45 : decode cJ2_getChar_3b067 45 = .ok (.ishl, 1) := by decide +kernel
theorem dJ2_getChar_3b067_46 : decode cJ2_getChar_3b067 46 = .ok (.aload_n 0, 1) := by decide +kernel
theorem dJ2_getChar_3b067_47 : decode cJ2_getChar_3b067 47 = .ok (.iload_n 1, 1) := by decide +kernel
theorem dJ2_getChar_3b067_48 : decode cJ2_getChar_3b067 48 = .ok (.baload, 1) := by decide +kernel
theorem dJ2_getChar_3b067_49 : decode cJ2_getChar_3b067 49 = .ok (.sipush 255, 3) := by decide +kernel
theorem dJ2_getChar_3b067_52 : decode cJ2_getChar_3b067 52 = .ok (.iand, 1) := by decide +kernel
theorem dJ2_getChar_3b067_53 : decode cJ2_getChar_3b067 53 = .ok (.getstatic 63, 3) := by decide +kernel
theorem dJ2_getChar_3b067_56 : decode cJ2_getChar_3b067 56 = .ok (.ishl, 1) := by decide +kernel
theorem dJ2_getChar_3b067_57 : decode cJ2_getChar_3b067 57 = .ok (.ior, 1) := by decide +kernel
theorem dJ2_getChar_3b067_58 : decode cJ2_getChar_3b067 58 = .ok (.i2c, 1) := by decide +kernel
theorem dJ2_getChar_3b067_59 : decode cJ2_getChar_3b067 59 = .ok (.ireturn, 1) := by decide +kernel
theorem dJ2_length_9d52b_0 : decode cJ2_length_9d52b 0 = .ok (.aload_n 0, 1) := by decide +kernel
theorem dJ2_length_9d52b_1 : decode cJ2_length_9d52b 1 = .ok (.arraylength, 1) := by decide +kernel
theorem dJ2_length_9d52b_2 : decode cJ2_length_9d52b 2 = .ok (.iconst 1, 1) := by decide +kernel
theorem dJ2_length_9d52b_3 : decode cJ2_length_9d52b 3 = .ok (.ishr, 1) := by decide +kernel
theorem dJ2_length_9d52b_4 : decode cJ2_length_9d52b 4 = .ok (.ireturn, 1) := by decide +kernel
set_option maxRecDepth 20000 in
theorem ggJ2_charAt_3b067_J2_checkIndex_2214a : GoodIn wsJ2_charAt_3b067 wsJ2_checkIndex_2214a := goodIn_r _ [4, 5, 6, 3, 7, 8, 9, 10, 11, 12, 13, 14, 15, 16] (by decide +kernel) (by decide +kernel)
set_option maxRecDepth 20000 in
theorem gJ2_charAt_3b067_J2_checkIndex_2214a : GoodIn wsJ2_charAt_3b067 (va_wsS RJ2 67 yJ2_checkIndex_2214a wsJ2_checkIndex_2214a) := goodIn_app (goodIn_of _ (by decide +kernel)) ggJ2_charAt_3b067_J2_checkIndex_2214a
set_option maxRecDepth 20000 in
theorem ggJ2_charAt_3b067_J2_getChar_3b067 : GoodIn wsJ2_charAt_3b067 wsJ2_getChar_3b067 := goodIn_r _ [19, 20, 21, 22, 5, 6, 3, 7] (by decide +kernel) (by decide +kernel)
set_option maxRecDepth 20000 in
theorem gJ2_charAt_3b067_J2_getChar_3b067 : GoodIn wsJ2_charAt_3b067 (va_wsS RJ2 71 yJ2_getChar_3b067 wsJ2_getChar_3b067) := goodIn_app (goodIn_of _ (by decide +kernel)) ggJ2_charAt_3b067_J2_getChar_3b067
theorem dJ2_charAt_3b067_0 : decode cJ2_charAt_3b067 0 = .ok (.iload_n 1, 1) := by decide +kernel
theorem dJ2_charAt_3b067_1 : decode cJ2_charAt_3b067 1 = .ok (.aload_n 0, 1) := by decide +kernel
theorem dJ2_charAt_3b067_2 : decode cJ2_charAt_3b067 2 = .ok (.invokestatic 67, 3) := by decide +kernel
theorem dJ2_charAt_3b067_5 : decode cJ2_charAt_3b067 5 = .ok (.aload_n 0, 1) := by decide +kernel
theorem dJ2_charAt_3b067_6 : decode cJ2_charAt_3b067 6 = .ok (.iload_n 1, 1) := by decide +kernel
theorem dJ2_charAt_3b067_7 : decode cJ2_charAt_3b067 7 = .ok (.invokestatic 71, 3) := by decide +kernel
theorem dJ2_charAt_3b067_10 : decode cJ2_charAt_3b067 10 = .ok (.ireturn, 1) := by decide +kernel
set_option maxRecDepth 20000 in
theorem ggJ2_checkIndex_2214a_J2_length_9d52b : GoodIn wsJ2_checkIndex_2214a wsJ2_length_9d52b := goodIn_r _ [4] (by decide +kernel) (by decide +kernel)
set_option maxRecDepth 20000 in
theorem gJ2_checkIndex_2214a_J2_length_9d52b : GoodIn wsJ2_checkIndex_2214a (va_wsS RJ2 48 yJ2_length_9d52b wsJ2_length_9d52b) := goodIn_app (goodIn_of _ (by decide +kernel)) ggJ2_checkIndex_2214a_J2_length_9d52b
set_option maxRecDepth 20000 in
theorem ggJ2_checkIndex_2214a_J0_checkIndex_df160 : GoodIn wsJ2_checkIndex_2214a wsJ0_checkIndex_df160 := goodIn_r _ [8, 9, 10, 11, 12, 13] (by decide +kernel) (by decide +kernel)
set_option maxRecDepth 20000 in
theorem gJ2_checkIndex_2214a_J0_checkIndex_df160 : GoodIn wsJ2_checkIndex_2214a (va_wsS RJ2 414 yJ0_checkIndex_df160 wsJ0_checkIndex_df160) := goodIn_app (goodIn_of _ (by decide +kernel)) ggJ2_checkIndex_2214a_J0_checkIndex_df160
theorem dJ2_checkIndex_2214a_0 : decode cJ2_checkIndex_2214a 0 = .ok (.iload_n 0, 1) := by decide +kernel
theorem dJ2_checkIndex_2214a_1 : decode cJ2_checkIndex_2214a 1 = .ok (.aload_n 1, 1) := by decide +kernel
theorem dJ2_checkIndex_2214a_2 : decode cJ2_checkIndex_2214a 2 = .ok (.invokestatic 48, 3) := by decide +kernel
theorem dJ2_checkIndex_2214a_5 : decode cJ2_checkIndex_2214a 5 = .ok (.invokestatic 414, 3) := by decide +kernel
theorem dJ2_checkIndex_2214a_8 : decode cJ2_checkIndex_2214a 8 = .ok (.return_, 1) := by decide +kernel
theorem dJ7_fill_53178_0 : decode cJ7_fill_53178 0 = .ok (.iconst 0, 1) := by decide +kernel
theorem dJ7_fill_53178_1 : decode cJ7_fill_53178 1 = .ok (.istore_n 2, 1) := by decide +kernel
theorem dJ7_fill_53178_2 : decode cJ7_fill_53178 2 = .ok (.aload_n 0, 1) := by decide +kernel
theorem dJ7_fill_53178_3 : decode cJ7_fill_53178 3 = .ok (.arraylength, 1) := by decide +kernel
theorem dJ7_fill_53178_4 : decode cJ7_fill_53178 4 = .ok (.istore_n 3, 1) := by decide +kernel
theorem dJ7_fill_53178_5 : decode cJ7_fill_53178 5 = .ok (.iload_n 2, 1) := by decide +kernel
theorem dJ7_fill_53178_6 : decode cJ7_fill_53178 6 = .ok (.iload_n 3, 1) := by decide +kernel
theorem dJ7_fill_53178_7 : decode cJ7_fill_53178 7 = .ok (.if_icmp .ge 13, 3) := by decide +kernel
theorem dJ7_fill_53178_10 : decode cJ7_fill_53178 10 = .ok (.aload_n 0, 1) := by decide +kernel
theorem dJ7_fill_53178_11 : decode cJ7_fill_53178 11 = .ok (.iload_n 2, 1) := by decide +kernel
theorem dJ7_fill_53178_12 : decode cJ7_fill_53178 12 = .ok (.iload_n 1, 1) := by decide +kernel
theorem dJ7_fill_53178_13 : decode cJ7_fill_53178 13 = .ok (.iastore, 1) := by decide +kernel
theorem dJ7_fill_53178_14 : decode cJ7_fill_53178 14 = .ok (.iinc 2 1, 3) := by decide +kernel
theorem dJ7_fill_53178_17 : decode cJ7_fill_53178 17 = .ok (.goto (-12), 3) := by decide +kernel
theorem dJ7_fill_53178_20 : decode cJ7_fill_53178 20 = .ok (.return_, 1) := by decide +kernel
theorem dJ3_checkIndex_8e157_0 : decode cJ3_checkIndex_8e157 0 = .ok (.iload_n 0, 1) := by decide +kernel
theorem dJ3_checkIndex_8e157_1 : decode cJ3_checkIndex_8e157 1 = .ok (.ifCond .lt 8, 3) := by decide +kernel
theorem dJ3_checkIndex_8e157_4 : decode cJ3_checkIndex_8e157 4 = .ok (.iload_n 0, 1) := by decide +kernel
theorem dJ3_checkIndex_8e157_5 : decode cJ3_checkIndex_8e157 5 = .ok (.iload_n 1, 1) := by decide +kernel
theorem dJ3_checkIndex_8e157_6 : decode cJ3_checkIndex_8e157 6 = .ok (.if_icmp .lt 10, 3) := by decide +kernel
theorem dJ3_checkIndex_8e157_9 : decode cJ3_checkIndex_8e157 9 = .ok (.aload_n 2, 1) := by decide +kernel
theorem dJ3_checkIndex_8e157_10 : decode cJ3_checkIndex_8e157 10 = .ok (.iload_n 0, 1) := by decide +kernel
theorem dJ3_checkIndex_8e157_11 : decode cJ3_checkIndex_8e157 11 = .ok (.iload_n 1, 1) := by decide +kernel
theorem dJ3_checkIndex_8e157_12 : decode cJ3_checkIndex_8e157 12 = .ok (.invokestatic 95, 3) := by decide +kernel
theorem dJ3_checkIndex_8e157_15 : decode cJ3_checkIndex_8e157 15 = .ok (.athrow, 1) := by decide +kernel
theorem dJ3_checkIndex_8e157_16 : decode cJ3_checkIndex_8e157 16 = .ok (.iload_n 0, 1) := by decide +kernel
theorem dJ3_checkIndex_8e157_17 : decode cJ3_checkIndex_8e157 17 = .ok (.ireturn, 1) := by decide +kernel
set_option maxRecDepth 20000 in
theorem ggL_row_X9_row : GoodIn wsL_row wsX9_row := goodIn_ca (goodIn_r _ [6, 7, 8, 9, 10, 11, 12, 13, 14, 15, 16, 17, 18, 19, 20, 21, 22, 23] (by decide +kernel) (by decide +kernel)) (goodIn_sub (fun _ h => List.mem_cons_of_mem _ (List.mem_append_right _ h)) (by decide +kernel))
set_option maxRecDepth 20000 in
theorem gL_row_X9_row : GoodIn wsL_row (wsV RL 7 RX9 yX9_row wsX9_row) := goodIn_app (goodIn_of _ (by decide +kernel)) ggL_row_X9_row
theorem dL_row_0 : decode cL_row 0 = .ok (.aload_n 2, 1) := by decide +kernel
theorem dL_row_1 : decode cL_row 1 = .ok (.iconst 0, 1) := by decide +kernel
theorem dL_row_2 : decode cL_row 2 = .ok (.aload_n 0, 1) := by decide +kernel
theorem dL_row_3 : decode cL_row 3 = .ok (.iload_n 1, 1) := by decide +kernel
theorem dL_row_4 : decode cL_row 4 = .ok (.invokevirtual 7, 3) := by decide +kernel
theorem dL_row_7 : decode cL_row 7 = .ok (.i2l, 1) := by decide +kernel
theorem dL_row_8 : decode cL_row 8 = .ok (.lastore, 1) := by decide +kernel
theorem dL_row_9 : decode cL_row 9 = .ok (.goto 6, 3) := by decide +kernel
theorem dL_row_12 : decode cL_row 12 = .ok (.astore_n 3, 1) := by decide +kernel
theorem dL_row_13 : decode cL_row 13 = .ok (.iconst 1, 1) := by decide +kernel
theorem dL_row_14 : decode cL_row 14 = .ok (.ireturn, 1) := by decide +kernel
theorem dL_row_15 : decode cL_row 15 = .ok (.iconst 0, 1) := by decide +kernel
theorem dL_row_16 : decode cL_row 16 = .ok (.ireturn, 1) := by decide +kernel
set_option maxRecDepth 20000 in
theorem ggL_law_X9_init : GoodIn wsL_law wsX9_init := goodIn_r _ [9, 10, 11, 12, 13, 14, 15, 16, 17, 18, 19, 20, 21, 22, 23, 24, 6, 25, 26, 27, 28, 29, 30, 31, 32, 33, 34, 35, 36, 37, 38, 39, 40, 41, 42, 43, 44, 45, 46, 47, 48, 49, 50, 51, 52, 53, 54, 55, 56, 57, 58, 59, 60, 61, 62, 63, 64, 65, 66, 67, 68, 69, 70, 71, 72, 73, 74, 75, 76, 77, 78, 79, 80, 81, 82, 83, 84, 85, 86, 87, 88, 89, 90, 91, 92, 93, 94, 95, 96, 97, 98, 99, 100, 101, 102, 103, 104, 105, 106, 107, 108, 109, 110, 111, 112, 113, 114, 115, 116, 117, 118, 119, 120, 121, 122, 123, 124, 125, 126, 127, 128, 129, 130, 131, 132, 133, 134, 135, 136, 137, 138, 139, 140, 141, 142, 143, 144, 145, 146, 147, 1141, 1142, 1143, 1144, 1145, 1146, 1147, 1148, 1149, 1150, 1151, 1152, 1153, 1210, 1211, 1212, 1213, 1214, 1215, 1216, 1217, 1218, 1219, 1220, 1221, 1222, 1223, 1224, 1225, 1226, 1227, 1228, 1229, 1230, 1231, 1232, 1233, 1234, 1235, 1236, 1237, 1238, 1239, 1240, 1241, 1242, 1243, 1244, 1245, 1246, 1247, 1248, 1249, 1250, 1251, 1252, 1253, 1254, 1255, 1256, 1257, 1258, 1259, 1260, 1261, 1262, 1263, 1264, 1265, 1266, 1267, 1268, 1269, 1270, 1271, 1272, 1273, 1274, 1275, 1276, 1277, 1278, 1279, 1280] (by decide +kernel) (by decide +kernel)
set_option maxRecDepth 20000 in
theorem gL_law_X9_init : GoodIn wsL_law (wsX9_init) := ggL_law_X9_init
set_option maxRecDepth 20000 in
theorem ggL_law_X12_init : GoodIn wsL_law wsX12_init := goodIn_r _ [150, 151, 11, 12, 152, 153, 154, 155, 156, 157, 125, 158, 6, 159, 160, 161, 162, 163, 164, 165, 166, 13, 167, 168, 169, 170, 171, 172, 173, 174, 175, 176, 177, 178, 179, 180, 181, 182, 183, 184, 185, 186, 187, 188, 189, 190, 191, 192, 193, 194, 195, 196, 197, 198, 199, 200, 201, 202, 203, 204, 205, 206, 207, 208, 209, 210, 211, 212, 213, 214, 215, 216, 217, 1154, 1155, 1156, 1157, 1158, 1159, 1160, 1161, 1162, 1163, 1164, 1165, 1166, 1167, 1168, 1169, 1170, 1171, 1172, 1173, 1174, 1175, 1176, 1177, 1178, 1179, 1180, 1181, 1182, 1183, 1184, 1185, 1186, 1187, 1188, 1189, 1190, 1191, 1192, 1193, 1194, 1195, 1196, 1197, 1198, 1199, 1200, 1201, 1202, 1203, 1204, 1205, 1206, 1207, 1208, 1209, 1281, 1282, 1283, 1284, 1285, 1286, 1287, 1288, 1289, 1290, 1291, 1292, 1293, 1294, 1295, 1296, 1297, 1298, 1299, 1300, 1301, 1302, 1303, 1304, 1305, 1306, 1307, 1308, 1309, 1310] (by decide +kernel) (by decide +kernel)
set_option maxRecDepth 20000 in
theorem gL_law_X12_init : GoodIn wsL_law (wsX12_init) := ggL_law_X12_init
set_option maxRecDepth 20000 in
theorem ggL_law_X9_feed : GoodIn wsL_law wsX9_feed := goodIn_r _ [221, 15, 222, 223, 224, 2, 225, 14, 1141, 1142, 1143, 1144, 1145, 1146, 1147, 1148, 1149, 1150, 1151, 1152, 1153] (by decide +kernel) (by decide +kernel)
set_option maxRecDepth 20000 in
theorem gL_law_X9_feed : GoodIn wsL_law (wsV RL 19 RX9 yX9_feed wsX9_feed) := goodIn_app (goodIn_of _ (by decide +kernel)) ggL_law_X9_feed
set_option maxRecDepth 20000 in
theorem ggL_law_X12_feed : GoodIn wsL_law wsX12_feed := goodIn_r _ [229, 230, 231, 166, 1154, 1155, 1156, 1157, 1158, 1159, 1160, 1161, 1162, 1163, 1164, 1165, 1166, 1167, 1168, 1169, 1170, 1171, 1172, 1173, 1174, 1175, 1176, 1177, 1178, 1179, 1180, 1181, 1182, 1183, 1184, 1185, 1186, 1187, 1188, 1189, 1190, 1191, 1192, 1193, 1194, 1195, 1196, 1197, 1198, 1199, 1200, 1201, 1202, 1203, 1204, 1205, 1206, 1207, 1208, 1209] (by decide +kernel) (by decide +kernel)
set_option maxRecDepth 20000 in
theorem gL_law_X12_feed : GoodIn wsL_law (wsV RL 23 RX12 yX12_feed wsX12_feed) := goodIn_app (goodIn_of _ (by decide +kernel)) ggL_law_X12_feed
set_option maxRecDepth 20000 in
theorem ggL_law_X9_app : GoodIn wsL_law wsX9_app := goodIn_r _ [235, 15, 24, 14, 20, 19, 25, 29, 236, 237, 238, 2, 239, 38, 240, 23, 241, 242, 101, 88, 89, 90, 93, 97, 87, 243, 18, 244, 245, 42, 43, 44, 45, 46, 47, 48, 246, 86, 247, 248, 105, 249, 250, 251, 252, 106, 107, 253, 254, 255, 109, 108, 256, 257, 258, 259, 260, 261, 262, 110, 263, 264, 265, 266, 267, 268, 269, 111, 270, 271, 272, 273, 274, 275, 276, 277, 278, 279, 99, 100, 98, 280, 281, 282, 50, 283, 284, 285, 286, 287, 288, 289, 290, 291, 292, 293, 294, 295, 296, 297, 92, 298, 299, 300, 301, 302, 303, 304, 305, 306, 307, 308, 309, 310, 311, 312, 313, 314, 315, 316, 317, 318, 319, 320, 321, 322, 323, 324, 325, 326, 327, 328, 329, 330, 331, 332, 333, 334, 335, 336, 337, 338, 339, 340, 341, 342, 343, 344, 345, 346, 347, 348, 349, 350, 351, 352, 353, 354, 355, 356, 357, 91, 358, 359, 360, 49, 361, 362, 363, 364, 365, 366, 367, 368, 369, 370, 371, 372, 373, 374, 375, 52, 376, 377, 378, 379, 380, 381, 382, 383, 384, 385, 386, 387, 388, 389, 390, 391, 53, 55, 66, 56, 57, 392, 65, 393, 394, 395, 396, 397, 398, 399, 400, 401, 402, 403, 404, 405, 406, 407, 408, 54, 409, 410, 411, 412, 96, 413, 414, 415, 51, 416, 417, 418, 58, 62, 419, 420, 421, 422, 423, 424, 425, 426, 427, 428, 429, 430, 94, 431, 432, 433, 434, 435, 61, 436, 437, 70, 71, 72, 73, 438, 439, 440, 441, 442, 443, 444, 445, 446, 447, 448, 95, 449, 450, 451, 452, 453, 454, 455, 77, 78, 79, 80, 456, 457, 458, 459, 460, 461, 462, 463, 464, 465, 466, 467, 468, 469, 470, 471, 472, 473, 474, 475, 476, 477, 28, 478, 479, 115, 122, 480, 481, 482, 483, 1141, 1142, 1143, 1144, 1145, 1146, 1147, 1148, 1149, 1150, 1151, 1152, 1153, 1244, 1245, 1246, 1247, 1248, 1249, 1250, 1251, 1252, 1210, 1211, 1212, 1213, 1214, 1215, 1216, 1217, 1218, 1219, 1220, 1221, 1222, 1223, 1224, 1225, 1226, 1227, 1228, 1229, 1230, 1231, 1232, 1233, 1234, 1235, 1236, 1237, 1238, 1239, 1240, 1241, 1242, 1243, 1267, 1268, 1269, 1270, 1271, 1272, 1273, 1263, 1264, 1265, 1266, 1259, 1260, 1261, 1262] (by decide +kernel) (by decide +kernel)
set_option maxRecDepth 20000 in
theorem gL_law_X9_app : GoodIn wsL_law (wsV RL 24 RX9 yX9_app wsX9_app) := goodIn_app (goodIn_of _ (by decide +kernel)) ggL_law_X9_app
set_option maxRecDepth 20000 in
theorem ggL_law_X12_app : GoodIn wsL_law wsX12_app := goodIn_r _ [487, 230, 231, 488, 489, 490, 491, 152, 154, 157, 158, 159, 160, 170, 492, 493, 494, 495, 5, 496, 497, 498, 499, 500, 501, 502, 503, 504, 505, 506, 507, 508, 509, 510, 511, 512, 513, 514, 166, 515, 516, 517, 518, 519, 520, 521, 522, 523, 524, 525, 526, 527, 528, 302, 303, 304, 305, 306, 307, 308, 309, 310, 311, 312, 529, 314, 315, 316, 317, 318, 319, 320, 321, 322, 323, 324, 325, 326, 327, 328, 329, 330, 331, 332, 333, 334, 335, 336, 337, 338, 339, 340, 341, 342, 343, 344, 345, 346, 347, 348, 349, 530, 531, 532, 533, 534, 535, 536, 537, 538, 539, 540, 541, 542, 543, 544, 545, 546, 547, 548, 549, 550, 551, 552, 553, 554, 555, 556, 557, 558, 559, 560, 561, 562, 563, 564, 565, 566, 567, 568, 569, 570, 167, 168, 169, 571, 572, 573, 574, 575, 576, 577, 578, 579, 580, 581, 582, 1154, 1155, 1156, 1157, 1158, 1159, 1160, 1161, 1162, 1163, 1164, 1165, 1166, 1167, 1168, 1169, 1170, 1171, 1172, 1173, 1174, 1175, 1176, 1177, 1178, 1179, 1180, 1181, 1182, 1183, 1184, 1185, 1186, 1187, 1188, 1189, 1190, 1191, 1192, 1193, 1194, 1195, 1196, 1197, 1198, 1199, 1200, 1201, 1202, 1203, 1204, 1205, 1206, 1207, 1208, 1209, 1303, 1304, 1305, 1306, 1307, 1308, 1309, 1310, 1281, 1282, 1283, 1284, 1285, 1286, 1287, 1288, 1289, 1290, 1291, 1292, 1293, 1294, 1295, 1296, 1297, 1298, 1299, 1300, 1301, 1302] (by decide +kernel) (by decide +kernel)
set_option maxRecDepth 20000 in
theorem gL_law_X12_app : GoodIn wsL_law (wsV RL 28 RX12 yX12_app wsX12_app) := goodIn_app (goodIn_of _ (by decide +kernel)) ggL_law_X12_app
set_option maxRecDepth 20000 in
theorem ggL_law_X9_fault : GoodIn wsL_law wsX9_fault := goodIn_r _ [586, 24, 1141, 1142, 1143, 1144, 1145, 1146, 1147, 1148, 1149, 1150, 1151, 1152, 1153, 1229, 1230, 1231, 1232, 1233, 1234, 1235, 1236, 1237, 1238, 1239, 1240, 1241, 1242, 1243] (by decide +kernel) (by decide +kernel)
set_option maxRecDepth 20000 in
theorem gL_law_X9_fault : GoodIn wsL_law (wsV RL 29 RX9 yX9_fault wsX9_fault) := goodIn_app (goodIn_of _ (by decide +kernel)) ggL_law_X9_fault
set_option maxRecDepth 20000 in
theorem ggL_law_X12_fault : GoodIn wsL_law wsX12_fault := goodIn_r _ [590, 230, 490, 1154, 1155, 1156, 1157, 1158, 1159, 1160, 1161, 1162, 1163, 1164, 1165, 1166, 1167, 1168, 1169, 1170, 1171, 1172, 1173, 1174, 1175, 1176, 1177, 1178, 1179, 1180, 1181, 1182, 1183, 1184, 1185, 1186, 1187, 1188, 1189, 1190, 1191, 1192, 1193, 1194, 1195, 1196, 1197, 1198, 1199, 1200, 1201, 1202, 1203, 1204, 1205, 1206, 1207, 1208, 1209] (by decide +kernel) (by decide +kernel)
set_option maxRecDepth 20000 in
theorem gL_law_X12_fault : GoodIn wsL_law (wsV RL 33 RX12 yX12_fault wsX12_fault) := goodIn_app (goodIn_of _ (by decide +kernel)) ggL_law_X12_fault
set_option maxRecDepth 20000 in
theorem ggL_law_X9_where : GoodIn wsL_law wsX9_where := goodIn_r _ [594, 38, 24, 1141, 1142, 1143, 1144, 1145, 1146, 1147, 1148, 1149, 1150, 1151, 1152, 1153, 1229, 1230, 1231, 1232, 1233, 1234, 1235, 1236, 1237, 1238, 1239, 1240, 1241, 1242, 1243] (by decide +kernel) (by decide +kernel)
set_option maxRecDepth 20000 in
theorem gL_law_X9_where : GoodIn wsL_law (wsV RL 34 RX9 yX9_where wsX9_where) := goodIn_app (goodIn_of _ (by decide +kernel)) ggL_law_X9_where
set_option maxRecDepth 20000 in
theorem ggL_law_X12_where : GoodIn wsL_law wsX12_where := goodIn_r _ [598, 230, 152, 1154, 1155, 1156, 1157, 1158, 1159, 1160, 1161, 1162, 1163, 1164, 1165, 1166, 1167, 1168, 1169, 1170, 1171, 1172, 1173, 1174, 1175, 1176, 1177, 1178, 1179, 1180, 1181, 1182, 1183, 1184, 1185, 1186, 1187, 1188, 1189, 1190, 1191, 1192, 1193, 1194, 1195, 1196, 1197, 1198, 1199, 1200, 1201, 1202, 1203, 1204, 1205, 1206, 1207, 1208, 1209] (by decide +kernel) (by decide +kernel)
set_option maxRecDepth 20000 in
theorem gL_law_X12_where : GoodIn wsL_law (wsV RL 37 RX12 yX12_where wsX12_where) := goodIn_app (goodIn_of _ (by decide +kernel)) ggL_law_X12_where
set_option maxRecDepth 20000 in
theorem ggL_law_X9_about : GoodIn wsL_law wsX9_about := goodIn_r _ [602, 19, 603, 604, 605, 2, 606, 1141, 1142, 1143, 1144, 1145, 1146, 1147, 1148, 1149, 1150, 1151, 1152, 1153, 1210, 1211, 1212, 1213, 1214, 1215, 1216, 1217, 1218, 1219, 1220, 1221, 1222, 1223, 1224, 1225, 1226, 1227, 1228] (by decide +kernel) (by decide +kernel)
set_option maxRecDepth 20000 in
theorem gL_law_X9_about : GoodIn wsL_law (wsV RL 38 RX9 yX9_about wsX9_about) := goodIn_app (goodIn_of _ (by decide +kernel)) ggL_law_X9_about
set_option maxRecDepth 20000 in
theorem ggL_law_X12_about : GoodIn wsL_law wsX12_about := goodIn_r _ [610, 230, 154, 611, 612, 613, 5, 614, 158, 1154, 1155, 1156, 1157, 1158, 1159, 1160, 1161, 1162, 1163, 1164, 1165, 1166, 1167, 1168, 1169, 1170, 1171, 1172, 1173, 1174, 1175, 1176, 1177, 1178, 1179, 1180, 1181, 1182, 1183, 1184, 1185, 1186, 1187, 1188, 1189, 1190, 1191, 1192, 1193, 1194, 1195, 1196, 1197, 1198, 1199, 1200, 1201, 1202, 1203, 1204, 1205, 1206, 1207, 1208, 1209, 1281, 1282, 1283, 1284, 1285, 1286, 1287, 1288, 1289, 1290, 1291, 1292, 1293, 1294, 1295, 1296, 1297, 1298, 1299, 1300, 1301, 1302] (by decide +kernel) (by decide +kernel)
set_option maxRecDepth 20000 in
theorem gL_law_X12_about : GoodIn wsL_law (wsV RL 41 RX12 yX12_about wsX12_about) := goodIn_app (goodIn_of _ (by decide +kernel)) ggL_law_X12_about
set_option maxRecDepth 20000 in
theorem ggL_law_X9_button : GoodIn wsL_law wsX9_button := goodIn_r _ [618, 19, 603, 604, 605, 2, 606, 1141, 1142, 1143, 1144, 1145, 1146, 1147, 1148, 1149, 1150, 1151, 1152, 1153, 1210, 1211, 1212, 1213, 1214, 1215, 1216, 1217, 1218, 1219, 1220, 1221, 1222, 1223, 1224, 1225, 1226, 1227, 1228, 1259, 1260, 1261, 1262, 1263, 1264, 1265, 1266] (by decide +kernel) (by decide +kernel)
set_option maxRecDepth 20000 in
theorem gL_law_X9_button : GoodIn wsL_law (wsV RL 42 RX9 yX9_button wsX9_button) := goodIn_app (goodIn_of _ (by decide +kernel)) ggL_law_X9_button
set_option maxRecDepth 20000 in
theorem ggL_law_X12_button : GoodIn wsL_law wsX12_button := goodIn_r _ [622, 230, 154, 611, 612, 613, 5, 614, 158, 1154, 1155, 1156, 1157, 1158, 1159, 1160, 1161, 1162, 1163, 1164, 1165, 1166, 1167, 1168, 1169, 1170, 1171, 1172, 1173, 1174, 1175, 1176, 1177, 1178, 1179, 1180, 1181, 1182, 1183, 1184, 1185, 1186, 1187, 1188, 1189, 1190, 1191, 1192, 1193, 1194, 1195, 1196, 1197, 1198, 1199, 1200, 1201, 1202, 1203, 1204, 1205, 1206, 1207, 1208, 1209, 1281, 1282, 1283, 1284, 1285, 1286, 1287, 1288, 1289, 1290, 1291, 1292, 1293, 1294, 1295, 1296, 1297, 1298, 1299, 1300, 1301, 1302] (by decide +kernel) (by decide +kernel)
set_option maxRecDepth 20000 in
theorem gL_law_X12_button : GoodIn wsL_law (wsV RL 46 RX12 yX12_button wsX12_button) := goodIn_app (goodIn_of _ (by decide +kernel)) ggL_law_X12_button
set_option maxRecDepth 20000 in
theorem ggL_law_X9_act : GoodIn wsL_law wsX9_act := goodIn_r _ [626, 19, 25, 603, 604, 605, 2, 606, 236, 237, 238, 239, 38, 627, 18, 628, 629, 56, 57, 62, 630, 377, 631, 632, 633, 634, 635, 61, 636, 637, 70, 71, 72, 73, 638, 639, 640, 641, 642, 48, 55, 471, 472, 473, 474, 475, 476, 643, 644, 645, 646, 647, 648, 66, 649, 650, 376, 378, 379, 380, 651, 652, 653, 654, 52, 655, 656, 657, 658, 659, 660, 661, 392, 65, 393, 480, 481, 482, 483, 1141, 1142, 1143, 1144, 1145, 1146, 1147, 1148, 1149, 1150, 1151, 1152, 1153, 1210, 1211, 1212, 1213, 1214, 1215, 1216, 1217, 1218, 1219, 1220, 1221, 1222, 1223, 1224, 1225, 1226, 1227, 1228, 1259, 1260, 1261, 1262, 1263, 1264, 1265, 1266] (by decide +kernel) (by decide +kernel)
set_option maxRecDepth 20000 in
theorem gL_law_X9_act : GoodIn wsL_law (wsV RL 47 RX9 yX9_act wsX9_act) := goodIn_app (goodIn_of _ (by decide +kernel)) ggL_law_X9_act
set_option maxRecDepth 20000 in
theorem ggL_law_X12_act : GoodIn wsL_law wsX12_act := goodIn_r _ [665, 230, 159, 160, 154, 611, 612, 613, 5, 614, 158, 493, 494, 495, 496, 491, 152, 666, 667, 668, 669, 670, 671, 672, 569, 673, 570, 674, 167, 168, 169, 675, 676, 677, 678, 679, 680, 681, 682, 683, 684, 685, 686, 687, 688, 689, 690, 691, 692, 693, 694, 695, 696, 251, 697, 698, 699, 700, 701, 571, 572, 573, 574, 575, 576, 577, 578, 579, 580, 581, 582, 1154, 1155, 1156, 1157, 1158, 1159, 1160, 1161, 1162, 1163, 1164, 1165, 1166, 1167, 1168, 1169, 1170, 1171, 1172, 1173, 1174, 1175, 1176, 1177, 1178, 1179, 1180, 1181, 1182, 1183, 1184, 1185, 1186, 1187, 1188, 1189, 1190, 1191, 1192, 1193, 1194, 1195, 1196, 1197, 1198, 1199, 1200, 1201, 1202, 1203, 1204, 1205, 1206, 1207, 1208, 1209, 1281, 1282, 1283, 1284, 1285, 1286, 1287, 1288, 1289, 1290, 1291, 1292, 1293, 1294, 1295, 1296, 1297, 1298, 1299, 1300, 1301, 1302] (by decide +kernel) (by decide +kernel)
set_option maxRecDepth 20000 in
theorem gL_law_X12_act : GoodIn wsL_law (wsV RL 50 RX12 yX12_act wsX12_act) := goodIn_app (goodIn_of _ (by decide +kernel)) ggL_law_X12_act
set_option maxRecDepth 20000 in
theorem ggL_law_X9_state : GoodIn wsL_law wsX9_state := goodIn_r _ [705, 25, 19, 603, 604, 605, 2, 606, 706, 377, 707, 632, 633, 634, 630, 631, 657, 658, 708, 18, 709, 710, 711, 627, 628, 629, 56, 57, 62, 635, 61, 636, 637, 70, 71, 72, 73, 638, 639, 1141, 1142, 1143, 1144, 1145, 1146, 1147, 1148, 1149, 1150, 1151, 1152, 1153, 1210, 1211, 1212, 1213, 1214, 1215, 1216, 1217, 1218, 1219, 1220, 1221, 1222, 1223, 1224, 1225, 1226, 1227, 1228, 1259, 1260, 1261, 1262] (by decide +kernel) (by decide +kernel)
set_option maxRecDepth 20000 in
theorem gL_law_X9_state : GoodIn wsL_law (wsV RL 51 RX9 yX9_state wsX9_state) := goodIn_app (goodIn_of _ (by decide +kernel)) ggL_law_X9_state
set_option maxRecDepth 20000 in
theorem ggL_law_X12_state : GoodIn wsL_law wsX12_state := goodIn_r _ [715, 230, 159, 160, 569, 570, 167, 168, 154, 611, 612, 613, 5, 614, 158, 669, 670, 671, 672, 673, 674, 169, 675, 676, 677, 678, 679, 680, 681, 682, 683, 684, 685, 686, 716, 717, 718, 1154, 1155, 1156, 1157, 1158, 1159, 1160, 1161, 1162, 1163, 1164, 1165, 1166, 1167, 1168, 1169, 1170, 1171, 1172, 1173, 1174, 1175, 1176, 1177, 1178, 1179, 1180, 1181, 1182, 1183, 1184, 1185, 1186, 1187, 1188, 1189, 1190, 1191, 1192, 1193, 1194, 1195, 1196, 1197, 1198, 1199, 1200, 1201, 1202, 1203, 1204, 1205, 1206, 1207, 1208, 1209, 1281, 1282, 1283, 1284, 1285, 1286, 1287, 1288, 1289, 1290, 1291, 1292, 1293, 1294, 1295, 1296, 1297, 1298, 1299, 1300, 1301, 1302] (by decide +kernel) (by decide +kernel)
set_option maxRecDepth 20000 in
theorem gL_law_X12_state : GoodIn wsL_law (wsV RL 54 RX12 yX12_state wsX12_state) := goodIn_app (goodIn_of _ (by decide +kernel)) ggL_law_X12_state
set_option maxRecDepth 20000 in
theorem ggL_law_X9_var : GoodIn wsL_law wsX9_var := goodIn_r _ [722, 19, 25, 603, 604, 605, 2, 606, 638, 377, 639, 1141, 1142, 1143, 1144, 1145, 1146, 1147, 1148, 1149, 1150, 1151, 1152, 1153, 1210, 1211, 1212, 1213, 1214, 1215, 1216, 1217, 1218, 1219, 1220, 1221, 1222, 1223, 1224, 1225, 1226, 1227, 1228] (by decide +kernel) (by decide +kernel)
set_option maxRecDepth 20000 in
theorem gL_law_X9_var : GoodIn wsL_law (wsV RL 55 RX9 yX9_var wsX9_var) := goodIn_app (goodIn_of _ (by decide +kernel)) ggL_law_X9_var
set_option maxRecDepth 20000 in
theorem ggL_law_X12_var : GoodIn wsL_law wsX12_var := goodIn_r _ [726, 230, 154, 159, 160, 169, 611, 612, 613, 5, 614, 158, 669, 670, 671, 672, 569, 673, 570, 674, 167, 168, 675, 1154, 1155, 1156, 1157, 1158, 1159, 1160, 1161, 1162, 1163, 1164, 1165, 1166, 1167, 1168, 1169, 1170, 1171, 1172, 1173, 1174, 1175, 1176, 1177, 1178, 1179, 1180, 1181, 1182, 1183, 1184, 1185, 1186, 1187, 1188, 1189, 1190, 1191, 1192, 1193, 1194, 1195, 1196, 1197, 1198, 1199, 1200, 1201, 1202, 1203, 1204, 1205, 1206, 1207, 1208, 1209, 1281, 1282, 1283, 1284, 1285, 1286, 1287, 1288, 1289, 1290, 1291, 1292, 1293, 1294, 1295, 1296, 1297, 1298, 1299, 1300, 1301, 1302] (by decide +kernel) (by decide +kernel)
set_option maxRecDepth 20000 in
theorem gL_law_X12_var : GoodIn wsL_law (wsV RL 58 RX12 yX12_var wsX12_var) := goodIn_app (goodIn_of _ (by decide +kernel)) ggL_law_X12_var
set_option maxRecDepth 20000 in
theorem ggL_law_X9_can : GoodIn wsL_law wsX9_can := goodIn_r _ [730, 19, 25, 603, 604, 605, 2, 606, 627, 18, 628, 629, 56, 57, 62, 630, 377, 631, 632, 633, 634, 635, 61, 636, 637, 70, 71, 72, 73, 638, 639, 1141, 1142, 1143, 1144, 1145, 1146, 1147, 1148, 1149, 1150, 1151, 1152, 1153, 1210, 1211, 1212, 1213, 1214, 1215, 1216, 1217, 1218, 1219, 1220, 1221, 1222, 1223, 1224, 1225, 1226, 1227, 1228, 1259, 1260, 1261, 1262] (by decide +kernel) (by decide +kernel)
set_option maxRecDepth 20000 in
theorem gL_law_X9_can : GoodIn wsL_law (wsV RL 59 RX9 yX9_can wsX9_can) := goodIn_app (goodIn_of _ (by decide +kernel)) ggL_law_X9_can
set_option maxRecDepth 20000 in
theorem ggL_law_X12_can : GoodIn wsL_law wsX12_can := goodIn_r _ [734, 230, 159, 160, 154, 611, 612, 613, 5, 614, 158, 666, 667, 668, 669, 670, 671, 672, 569, 673, 570, 674, 167, 168, 169, 675, 676, 677, 678, 679, 680, 681, 682, 683, 684, 685, 686, 1154, 1155, 1156, 1157, 1158, 1159, 1160, 1161, 1162, 1163, 1164, 1165, 1166, 1167, 1168, 1169, 1170, 1171, 1172, 1173, 1174, 1175, 1176, 1177, 1178, 1179, 1180, 1181, 1182, 1183, 1184, 1185, 1186, 1187, 1188, 1189, 1190, 1191, 1192, 1193, 1194, 1195, 1196, 1197, 1198, 1199, 1200, 1201, 1202, 1203, 1204, 1205, 1206, 1207, 1208, 1209, 1281, 1282, 1283, 1284, 1285, 1286, 1287, 1288, 1289, 1290, 1291, 1292, 1293, 1294, 1295, 1296, 1297, 1298, 1299, 1300, 1301, 1302] (by decide +kernel) (by decide +kernel)
set_option maxRecDepth 20000 in
theorem gL_law_X12_can : GoodIn wsL_law (wsV RL 62 RX12 yX12_can wsX12_can) := goodIn_app (goodIn_of _ (by decide +kernel)) ggL_law_X12_can
set_option maxRecDepth 20000 in
theorem ggL_law_X9_begin : GoodIn wsL_law wsX9_begin := goodIn_r _ [738, 38, 25, 19, 603, 604, 605, 2, 606, 468, 18, 469, 470, 471, 377, 472, 473, 474, 475, 476, 1141, 1142, 1143, 1144, 1145, 1146, 1147, 1148, 1149, 1150, 1151, 1152, 1153, 1210, 1211, 1212, 1213, 1214, 1215, 1216, 1217, 1218, 1219, 1220, 1221, 1222, 1223, 1224, 1225, 1226, 1227, 1228] (by decide +kernel) (by decide +kernel)
set_option maxRecDepth 20000 in
theorem gL_law_X9_begin : GoodIn wsL_law (wsV RL 63 RX9 yX9_begin wsX9_begin) := goodIn_app (goodIn_of _ (by decide +kernel)) ggL_law_X9_begin
set_option maxRecDepth 20000 in
theorem ggL_law_X12_begin : GoodIn wsL_law wsX12_begin := goodIn_r _ [742, 230, 491, 152, 159, 160, 611, 612, 613, 5, 614, 158, 565, 566, 567, 568, 569, 570, 167, 168, 169, 571, 572, 573, 574, 575, 576, 577, 578, 1154, 1155, 1156, 1157, 1158, 1159, 1160, 1161, 1162, 1163, 1164, 1165, 1166, 1167, 1168, 1169, 1170, 1171, 1172, 1173, 1174, 1175, 1176, 1177, 1178, 1179, 1180, 1181, 1182, 1183, 1184, 1185, 1186, 1187, 1188, 1189, 1190, 1191, 1192, 1193, 1194, 1195, 1196, 1197, 1198, 1199, 1200, 1201, 1202, 1203, 1204, 1205, 1206, 1207, 1208, 1209] (by decide +kernel) (by decide +kernel)
set_option maxRecDepth 20000 in
theorem gL_law_X12_begin : GoodIn wsL_law (wsV RL 67 RX12 yX12_begin wsX12_begin) := goodIn_app (goodIn_of _ (by decide +kernel)) ggL_law_X12_begin
set_option maxRecDepth 20000 in
theorem ggL_law_X9_map : GoodIn wsL_law wsX9_map := goodIn_r _ [746, 29, 19, 603, 604, 605, 2, 606, 236, 237, 238, 239, 38, 747, 28, 748, 749, 119, 127, 115, 750, 477, 478, 479, 122, 751, 118, 752, 753, 131, 137, 754, 755, 756, 757, 468, 18, 469, 470, 471, 377, 472, 473, 474, 475, 476, 758, 759, 760, 761, 762, 132, 133, 763, 764, 765, 766, 134, 135, 136, 767, 768, 769, 770, 120, 627, 628, 629, 56, 57, 62, 630, 631, 632, 633, 634, 635, 61, 636, 637, 70, 71, 72, 73, 638, 639, 640, 641, 642, 48, 55, 643, 644, 645, 646, 647, 648, 66, 649, 650, 376, 378, 379, 380, 651, 652, 653, 654, 52, 655, 656, 657, 658, 659, 660, 661, 392, 65, 393, 771, 772, 773, 774, 775, 776, 777, 480, 481, 482, 483, 1141, 1142, 1143, 1144, 1145, 1146, 1147, 1148, 1149, 1150, 1151, 1152, 1153, 1210, 1211, 1212, 1213, 1214, 1215, 1216, 1217, 1218, 1219, 1220, 1221, 1222, 1223, 1224, 1225, 1226, 1227, 1228, 1244, 1245, 1246, 1247, 1248, 1249, 1250, 1251, 1252, 1274, 1275, 1276, 1277, 1278, 1279, 1280, 1259, 1260, 1261, 1262, 1263, 1264, 1265, 1266] (by decide +kernel) (by decide +kernel)
set_option maxRecDepth 20000 in
theorem gL_law_X9_map : GoodIn wsL_law (wsV RL 68 RX9 yX9_map wsX9_map) := goodIn_app (goodIn_of _ (by decide +kernel)) ggL_law_X9_map
set_option maxRecDepth 20000 in
theorem ggL_law_X12_map : GoodIn wsL_law wsX12_map := goodIn_r _ [781, 230, 154, 492, 170, 171, 172, 176, 180, 611, 612, 613, 5, 614, 158, 493, 494, 495, 496, 491, 152, 565, 566, 567, 568, 569, 570, 167, 168, 169, 782, 783, 784, 785, 173, 174, 175, 571, 572, 573, 574, 575, 576, 577, 578, 669, 670, 671, 672, 673, 674, 675, 676, 677, 678, 679, 680, 681, 682, 683, 684, 685, 686, 687, 688, 689, 690, 691, 692, 693, 694, 695, 696, 251, 697, 698, 699, 700, 701, 786, 787, 788, 789, 790, 791, 792, 793, 181, 177, 794, 179, 178, 795, 796, 797, 798, 799, 800, 801, 802, 579, 580, 581, 582, 1154, 1155, 1156, 1157, 1158, 1159, 1160, 1161, 1162, 1163, 1164, 1165, 1166, 1167, 1168, 1169, 1170, 1171, 1172, 1173, 1174, 1175, 1176, 1177, 1178, 1179, 1180, 1181, 1182, 1183, 1184, 1185, 1186, 1187, 1188, 1189, 1190, 1191, 1192, 1193, 1194, 1195, 1196, 1197, 1198, 1199, 1200, 1201, 1202, 1203, 1204, 1205, 1206, 1207, 1208, 1209, 1281, 1282, 1283, 1284, 1285, 1286, 1287, 1288, 1289, 1290, 1291, 1292, 1293, 1294, 1295, 1296, 1297, 1298, 1299, 1300, 1301, 1302] (by decide +kernel) (by decide +kernel)
set_option maxRecDepth 20000 in
theorem gL_law_X12_map : GoodIn wsL_law (wsV RL 71 RX12 yX12_map wsX12_map) := goodIn_app (goodIn_of _ (by decide +kernel)) ggL_law_X12_map
set_option maxRecDepth 20000 in
theorem ggL_law_X9_met : GoodIn wsL_law wsX9_met := goodIn_r _ [806, 29, 771, 28, 772, 773, 119, 774, 775, 776, 777, 115, 706, 377, 707, 632, 633, 634, 630, 631, 807, 808, 809, 120, 810, 811, 812, 123, 813, 814, 815, 816, 122, 817, 818, 819, 820, 121, 127, 751, 118, 752, 753, 131, 137, 754, 755, 756, 757, 627, 18, 628, 629, 56, 57, 62, 635, 61, 636, 637, 70, 71, 72, 73, 638, 639, 821, 822, 823, 53, 824, 825, 826, 827, 54, 758, 759, 760, 761, 762, 132, 133, 763, 764, 765, 766, 134, 135, 136, 828, 829, 830, 831, 832, 833, 834, 835, 124, 836, 837, 838, 839, 840, 1141, 1142, 1143, 1144, 1145, 1146, 1147, 1148, 1149, 1150, 1151, 1152, 1153, 1244, 1245, 1246, 1247, 1248, 1249, 1250, 1251, 1252, 1274, 1275, 1276, 1277, 1278, 1279, 1280, 1210, 1211, 1212, 1213, 1214, 1215, 1216, 1217, 1218, 1219, 1220, 1221, 1222, 1223, 1224, 1225, 1226, 1227, 1228, 1259, 1260, 1261, 1262] (by decide +kernel) (by decide +kernel)
set_option maxRecDepth 20000 in
theorem gL_law_X9_met : GoodIn wsL_law (wsV RL 72 RX9 yX9_met wsX9_met) := goodIn_app (goodIn_of _ (by decide +kernel)) ggL_law_X9_met
set_option maxRecDepth 20000 in
theorem ggL_law_X12_met : GoodIn wsL_law wsX12_met := goodIn_r _ [844, 230, 171, 172, 569, 570, 167, 175, 176, 177, 845, 846, 847, 5, 848, 170, 492, 669, 670, 671, 672, 673, 674, 168, 169, 675, 716, 717, 718, 1154, 1155, 1156, 1157, 1158, 1159, 1160, 1161, 1162, 1163, 1164, 1165, 1166, 1167, 1168, 1169, 1170, 1171, 1172, 1173, 1174, 1175, 1176, 1177, 1178, 1179, 1180, 1181, 1182, 1183, 1184, 1185, 1186, 1187, 1188, 1189, 1190, 1191, 1192, 1193, 1194, 1195, 1196, 1197, 1198, 1199, 1200, 1201, 1202, 1203, 1204, 1205, 1206, 1207, 1208, 1209] (by decide +kernel) (by decide +kernel)
set_option maxRecDepth 20000 in
theorem gL_law_X12_met : GoodIn wsL_law (wsV RL 75 RX12 yX12_met wsX12_met) := goodIn_app (goodIn_of _ (by decide +kernel)) ggL_law_X12_met
set_option maxRecDepth 20000 in
theorem ggL_law_X9_leads : GoodIn wsL_law wsX9_leads := goodIn_r _ [852, 29, 771, 28, 772, 773, 119, 774, 775, 776, 777, 115, 1141, 1142, 1143, 1144, 1145, 1146, 1147, 1148, 1149, 1150, 1151, 1152, 1153, 1244, 1245, 1246, 1247, 1248, 1249, 1250, 1251, 1252, 1274, 1275, 1276, 1277, 1278, 1279, 1280] (by decide +kernel) (by decide +kernel)
set_option maxRecDepth 20000 in
theorem gL_law_X9_leads : GoodIn wsL_law (wsV RL 76 RX9 yX9_leads wsX9_leads) := goodIn_app (goodIn_of _ (by decide +kernel)) ggL_law_X9_leads
set_option maxRecDepth 20000 in
theorem ggL_law_X12_leads : GoodIn wsL_law wsX12_leads := goodIn_r _ [856, 230, 180, 845, 846, 847, 5, 848, 170, 492, 666, 667, 668, 1154, 1155, 1156, 1157, 1158, 1159, 1160, 1161, 1162, 1163, 1164, 1165, 1166, 1167, 1168, 1169, 1170, 1171, 1172, 1173, 1174, 1175, 1176, 1177, 1178, 1179, 1180, 1181, 1182, 1183, 1184, 1185, 1186, 1187, 1188, 1189, 1190, 1191, 1192, 1193, 1194, 1195, 1196, 1197, 1198, 1199, 1200, 1201, 1202, 1203, 1204, 1205, 1206, 1207, 1208, 1209] (by decide +kernel) (by decide +kernel)
set_option maxRecDepth 20000 in
theorem gL_law_X12_leads : GoodIn wsL_law (wsV RL 79 RX12 yX12_leads wsX12_leads) := goodIn_app (goodIn_of _ (by decide +kernel)) ggL_law_X12_leads
set_option maxRecDepth 20000 in
theorem ggL_law_X9_rowTo : GoodIn wsL_law wsX9_rowTo := goodIn_r _ [860, 29, 34, 35, 775, 28, 776, 777, 115, 236, 237, 238, 2, 239, 38, 771, 772, 773, 119, 774, 861, 118, 862, 863, 136, 135, 134, 480, 481, 482, 483, 1141, 1142, 1143, 1144, 1145, 1146, 1147, 1148, 1149, 1150, 1151, 1152, 1153, 1244, 1245, 1246, 1247, 1248, 1249, 1250, 1251, 1252, 1274, 1275, 1276, 1277, 1278, 1279, 1280] (by decide +kernel) (by decide +kernel)
set_option maxRecDepth 20000 in
theorem gL_law_X9_rowTo : GoodIn wsL_law (wsV RL 80 RX9 yX9_rowTo wsX9_rowTo) := goodIn_app (goodIn_of _ (by decide +kernel)) ggL_law_X9_rowTo
set_option maxRecDepth 20000 in
theorem ggL_law_X12_rowTo : GoodIn wsL_law wsX12_rowTo := goodIn_r _ [867, 230, 170, 175, 868, 183, 174, 173, 493, 494, 495, 5, 496, 491, 152, 845, 846, 847, 848, 492, 579, 580, 581, 582, 1154, 1155, 1156, 1157, 1158, 1159, 1160, 1161, 1162, 1163, 1164, 1165, 1166, 1167, 1168, 1169, 1170, 1171, 1172, 1173, 1174, 1175, 1176, 1177, 1178, 1179, 1180, 1181, 1182, 1183, 1184, 1185, 1186, 1187, 1188, 1189, 1190, 1191, 1192, 1193, 1194, 1195, 1196, 1197, 1198, 1199, 1200, 1201, 1202, 1203, 1204, 1205, 1206, 1207, 1208, 1209] (by decide +kernel) (by decide +kernel)
set_option maxRecDepth 20000 in
theorem gL_law_X12_rowTo : GoodIn wsL_law (wsV RL 83 RX12 yX12_rowTo wsX12_rowTo) := goodIn_app (goodIn_of _ (by decide +kernel)) ggL_law_X12_rowTo
set_option maxRecDepth 20000 in
theorem ggL_law_X9_faultAt : GoodIn wsL_law wsX9_faultAt := goodIn_r _ [872, 29, 775, 28, 776, 777, 115, 236, 237, 238, 2, 239, 38, 873, 874, 875, 119, 706, 377, 707, 632, 633, 634, 480, 481, 482, 483, 1141, 1142, 1143, 1144, 1145, 1146, 1147, 1148, 1149, 1150, 1151, 1152, 1153, 1244, 1245, 1246, 1247, 1248, 1249, 1250, 1251, 1252, 1274, 1275, 1276, 1277, 1278, 1279, 1280] (by decide +kernel) (by decide +kernel)
set_option maxRecDepth 20000 in
theorem gL_law_X9_faultAt : GoodIn wsL_law (wsV RL 84 RX9 yX9_faultAt wsX9_faultAt) := goodIn_app (goodIn_of _ (by decide +kernel)) ggL_law_X9_faultAt
set_option maxRecDepth 20000 in
theorem ggL_law_X12_faultAt : GoodIn wsL_law wsX12_faultAt := goodIn_r _ [879, 230, 170, 492, 171, 493, 494, 495, 5, 496, 491, 152, 579, 580, 581, 582, 1154, 1155, 1156, 1157, 1158, 1159, 1160, 1161, 1162, 1163, 1164, 1165, 1166, 1167, 1168, 1169, 1170, 1171, 1172, 1173, 1174, 1175, 1176, 1177, 1178, 1179, 1180, 1181, 1182, 1183, 1184, 1185, 1186, 1187, 1188, 1189, 1190, 1191, 1192, 1193, 1194, 1195, 1196, 1197, 1198, 1199, 1200, 1201, 1202, 1203, 1204, 1205, 1206, 1207, 1208, 1209] (by decide +kernel) (by decide +kernel)
set_option maxRecDepth 20000 in
theorem gL_law_X12_faultAt : GoodIn wsL_law (wsV RL 87 RX12 yX12_faultAt wsX12_faultAt) := goodIn_app (goodIn_of _ (by decide +kernel)) ggL_law_X12_faultAt
set_option maxRecDepth 20000 in
theorem ggL_law_X9_pressedAt : GoodIn wsL_law wsX9_pressedAt := goodIn_r _ [883, 29, 775, 28, 776, 777, 115, 236, 237, 238, 2, 239, 38, 884, 885, 886, 119, 120, 480, 481, 482, 483, 1141, 1142, 1143, 1144, 1145, 1146, 1147, 1148, 1149, 1150, 1151, 1152, 1153, 1244, 1245, 1246, 1247, 1248, 1249, 1250, 1251, 1252, 1210, 1211, 1212, 1213, 1214, 1215, 1216, 1217, 1218, 1219, 1220, 1221, 1222, 1223, 1224, 1225, 1226, 1227, 1228, 1274, 1275, 1276, 1277, 1278, 1279, 1280] (by decide +kernel) (by decide +kernel)
set_option maxRecDepth 20000 in
theorem gL_law_X9_pressedAt : GoodIn wsL_law (wsV RL 88 RX9 yX9_pressedAt wsX9_pressedAt) := goodIn_app (goodIn_of _ (by decide +kernel)) ggL_law_X9_pressedAt
set_option maxRecDepth 20000 in
theorem ggL_law_X12_pressedAt : GoodIn wsL_law wsX12_pressedAt := goodIn_r _ [890, 230, 170, 154, 492, 176, 493, 494, 495, 5, 496, 491, 152, 579, 580, 581, 582, 1154, 1155, 1156, 1157, 1158, 1159, 1160, 1161, 1162, 1163, 1164, 1165, 1166, 1167, 1168, 1169, 1170, 1171, 1172, 1173, 1174, 1175, 1176, 1177, 1178, 1179, 1180, 1181, 1182, 1183, 1184, 1185, 1186, 1187, 1188, 1189, 1190, 1191, 1192, 1193, 1194, 1195, 1196, 1197, 1198, 1199, 1200, 1201, 1202, 1203, 1204, 1205, 1206, 1207, 1208, 1209, 1281, 1282, 1283, 1284, 1285, 1286, 1287, 1288, 1289, 1290, 1291, 1292, 1293, 1294, 1295, 1296, 1297, 1298, 1299, 1300, 1301, 1302] (by decide +kernel) (by decide +kernel)
set_option maxRecDepth 20000 in
theorem gL_law_X12_pressedAt : GoodIn wsL_law (wsV RL 91 RX12 yX12_pressedAt wsX12_pressedAt) := goodIn_app (goodIn_of _ (by decide +kernel)) ggL_law_X12_pressedAt
set_option maxRecDepth 20000 in
theorem ggL_law_X9_never : GoodIn wsL_law wsX9_never := goodIn_r _ [894, 29, 775, 28, 776, 777, 115, 895, 896, 897, 127, 898, 884, 885, 886, 119, 120, 480, 481, 482, 2, 483, 38, 236, 237, 238, 239, 1141, 1142, 1143, 1144, 1145, 1146, 1147, 1148, 1149, 1150, 1151, 1152, 1153, 1244, 1245, 1246, 1247, 1248, 1249, 1250, 1251, 1252, 1210, 1211, 1212, 1213, 1214, 1215, 1216, 1217, 1218, 1219, 1220, 1221, 1222, 1223, 1224, 1225, 1226, 1227, 1228, 1274, 1275, 1276, 1277, 1278, 1279, 1280] (by decide +kernel) (by decide +kernel)
set_option maxRecDepth 20000 in
theorem gL_law_X9_never : GoodIn wsL_law (wsV RL 92 RX9 yX9_never wsX9_never) := goodIn_app (goodIn_of _ (by decide +kernel)) ggL_law_X9_never
set_option maxRecDepth 20000 in
theorem ggL_law_X12_never : GoodIn wsL_law wsX12_never := goodIn_r _ [902, 230, 170, 492, 176, 154, 493, 494, 495, 5, 496, 491, 152, 579, 580, 581, 582, 1154, 1155, 1156, 1157, 1158, 1159, 1160, 1161, 1162, 1163, 1164, 1165, 1166, 1167, 1168, 1169, 1170, 1171, 1172, 1173, 1174, 1175, 1176, 1177, 1178, 1179, 1180, 1181, 1182, 1183, 1184, 1185, 1186, 1187, 1188, 1189, 1190, 1191, 1192, 1193, 1194, 1195, 1196, 1197, 1198, 1199, 1200, 1201, 1202, 1203, 1204, 1205, 1206, 1207, 1208, 1209, 1281, 1282, 1283, 1284, 1285, 1286, 1287, 1288, 1289, 1290, 1291, 1292, 1293, 1294, 1295, 1296, 1297, 1298, 1299, 1300, 1301, 1302] (by decide +kernel) (by decide +kernel)
set_option maxRecDepth 20000 in
theorem gL_law_X12_never : GoodIn wsL_law (wsV RL 95 RX12 yX12_never wsX12_never) := goodIn_app (goodIn_of _ (by decide +kernel)) ggL_law_X12_never
set_option maxRecDepth 20000 in
theorem ggL_law_X9_holdsAt : GoodIn wsL_law wsX9_holdsAt := goodIn_r _ [906, 29, 775, 28, 776, 777, 115, 236, 237, 238, 2, 239, 38, 907, 908, 909, 119, 638, 377, 639, 480, 481, 482, 483, 1141, 1142, 1143, 1144, 1145, 1146, 1147, 1148, 1149, 1150, 1151, 1152, 1153, 1244, 1245, 1246, 1247, 1248, 1249, 1250, 1251, 1252, 1210, 1211, 1212, 1213, 1214, 1215, 1216, 1217, 1218, 1219, 1220, 1221, 1222, 1223, 1224, 1225, 1226, 1227, 1228, 1274, 1275, 1276, 1277, 1278, 1279, 1280] (by decide +kernel) (by decide +kernel)
set_option maxRecDepth 20000 in
theorem gL_law_X9_holdsAt : GoodIn wsL_law (wsV RL 96 RX9 yX9_holdsAt wsX9_holdsAt) := goodIn_app (goodIn_of _ (by decide +kernel)) ggL_law_X9_holdsAt
set_option maxRecDepth 20000 in
theorem ggL_law_X12_holdsAt : GoodIn wsL_law wsX12_holdsAt := goodIn_r _ [913, 230, 170, 154, 492, 172, 675, 493, 494, 495, 5, 496, 491, 152, 579, 580, 581, 582, 1154, 1155, 1156, 1157, 1158, 1159, 1160, 1161, 1162, 1163, 1164, 1165, 1166, 1167, 1168, 1169, 1170, 1171, 1172, 1173, 1174, 1175, 1176, 1177, 1178, 1179, 1180, 1181, 1182, 1183, 1184, 1185, 1186, 1187, 1188, 1189, 1190, 1191, 1192, 1193, 1194, 1195, 1196, 1197, 1198, 1199, 1200, 1201, 1202, 1203, 1204, 1205, 1206, 1207, 1208, 1209, 1281, 1282, 1283, 1284, 1285, 1286, 1287, 1288, 1289, 1290, 1291, 1292, 1293, 1294, 1295, 1296, 1297, 1298, 1299, 1300, 1301, 1302] (by decide +kernel) (by decide +kernel)
set_option maxRecDepth 20000 in
theorem gL_law_X12_holdsAt : GoodIn wsL_law (wsV RL 99 RX12 yX12_holdsAt wsX12_holdsAt) := goodIn_app (goodIn_of _ (by decide +kernel)) ggL_law_X12_holdsAt
set_option maxRecDepth 20000 in
theorem ggL_law_X9_stuck : GoodIn wsL_law wsX9_stuck := goodIn_r _ [917, 29, 775, 28, 776, 777, 115, 236, 237, 238, 2, 239, 38, 918, 919, 920, 119, 126, 630, 377, 631, 632, 633, 634, 921, 922, 923, 924, 925, 926, 927, 928, 120, 480, 481, 482, 483, 1141, 1142, 1143, 1144, 1145, 1146, 1147, 1148, 1149, 1150, 1151, 1152, 1153, 1244, 1245, 1246, 1247, 1248, 1249, 1250, 1251, 1252, 1210, 1211, 1212, 1213, 1214, 1215, 1216, 1217, 1218, 1219, 1220, 1221, 1222, 1223, 1224, 1225, 1226, 1227, 1228, 1274, 1275, 1276, 1277, 1278, 1279, 1280] (by decide +kernel) (by decide +kernel)
set_option maxRecDepth 20000 in
theorem gL_law_X9_stuck : GoodIn wsL_law (wsV RL 100 RX9 yX9_stuck wsX9_stuck) := goodIn_app (goodIn_of _ (by decide +kernel)) ggL_law_X9_stuck
set_option maxRecDepth 20000 in
theorem ggL_law_X12_stuck : GoodIn wsL_law wsX12_stuck := goodIn_r _ [932, 230, 170, 154, 492, 171, 172, 182, 570, 167, 180, 493, 494, 495, 5, 496, 491, 152, 669, 670, 671, 672, 569, 673, 674, 168, 169, 675, 579, 580, 581, 582, 1154, 1155, 1156, 1157, 1158, 1159, 1160, 1161, 1162, 1163, 1164, 1165, 1166, 1167, 1168, 1169, 1170, 1171, 1172, 1173, 1174, 1175, 1176, 1177, 1178, 1179, 1180, 1181, 1182, 1183, 1184, 1185, 1186, 1187, 1188, 1189, 1190, 1191, 1192, 1193, 1194, 1195, 1196, 1197, 1198, 1199, 1200, 1201, 1202, 1203, 1204, 1205, 1206, 1207, 1208, 1209, 1281, 1282, 1283, 1284, 1285, 1286, 1287, 1288, 1289, 1290, 1291, 1292, 1293, 1294, 1295, 1296, 1297, 1298, 1299, 1300, 1301, 1302] (by decide +kernel) (by decide +kernel)
set_option maxRecDepth 20000 in
theorem gL_law_X12_stuck : GoodIn wsL_law (wsV RL 103 RX12 yX12_stuck wsX12_stuck) := goodIn_app (goodIn_of _ (by decide +kernel)) ggL_law_X12_stuck
set_option maxRecDepth 20000 in
theorem ggL_law_X9_least : GoodIn wsL_law wsX9_least := goodIn_r _ [936, 29, 775, 28, 776, 777, 115, 814, 815, 816, 122, 774, 817, 818, 819, 820, 121, 119, 127, 123, 751, 118, 752, 753, 131, 137, 754, 755, 756, 757, 627, 18, 628, 629, 56, 57, 62, 630, 377, 631, 632, 633, 634, 635, 61, 636, 637, 70, 71, 72, 73, 638, 639, 821, 822, 823, 53, 706, 707, 824, 825, 826, 827, 54, 758, 759, 760, 761, 762, 132, 133, 763, 764, 765, 766, 134, 135, 136, 828, 829, 830, 831, 832, 833, 834, 835, 120, 124, 836, 837, 838, 839, 840, 480, 481, 482, 2, 483, 38, 236, 237, 238, 239, 1141, 1142, 1143, 1144, 1145, 1146, 1147, 1148, 1149, 1150, 1151, 1152, 1153, 1244, 1245, 1246, 1247, 1248, 1249, 1250, 1251, 1252, 1274, 1275, 1276, 1277, 1278, 1279, 1280, 1210, 1211, 1212, 1213, 1214, 1215, 1216, 1217, 1218, 1219, 1220, 1221, 1222, 1223, 1224, 1225, 1226, 1227, 1228, 1259, 1260, 1261, 1262] (by decide +kernel) (by decide +kernel)
set_option maxRecDepth 20000 in
theorem gL_law_X9_least : GoodIn wsL_law (wsV RL 104 RX9 yX9_least wsX9_least) := goodIn_app (goodIn_of _ (by decide +kernel)) ggL_law_X9_least
set_option maxRecDepth 20000 in
theorem ggL_law_X12_least : GoodIn wsL_law wsX12_least := goodIn_r _ [940, 230, 170, 794, 493, 494, 495, 5, 496, 491, 152, 579, 580, 581, 582, 1154, 1155, 1156, 1157, 1158, 1159, 1160, 1161, 1162, 1163, 1164, 1165, 1166, 1167, 1168, 1169, 1170, 1171, 1172, 1173, 1174, 1175, 1176, 1177, 1178, 1179, 1180, 1181, 1182, 1183, 1184, 1185, 1186, 1187, 1188, 1189, 1190, 1191, 1192, 1193, 1194, 1195, 1196, 1197, 1198, 1199, 1200, 1201, 1202, 1203, 1204, 1205, 1206, 1207, 1208, 1209] (by decide +kernel) (by decide +kernel)
set_option maxRecDepth 20000 in
theorem gL_law_X12_least : GoodIn wsL_law (wsV RL 107 RX12 yX12_least wsX12_least) := goodIn_app (goodIn_of _ (by decide +kernel)) ggL_law_X12_least
set_option maxRecDepth 20000 in
theorem ggL_law_X9_views : GoodIn wsL_law wsX9_views := goodIn_r _ [944, 29, 775, 28, 776, 777, 115, 945, 946, 947, 121, 119, 127, 751, 118, 752, 753, 131, 137, 754, 755, 756, 757, 821, 18, 822, 823, 53, 56, 57, 62, 630, 377, 631, 632, 633, 634, 706, 707, 824, 825, 826, 827, 54, 638, 639, 635, 61, 636, 637, 70, 71, 72, 73, 758, 759, 760, 761, 762, 132, 133, 763, 764, 765, 766, 134, 135, 136, 480, 481, 482, 2, 483, 38, 236, 237, 238, 239, 1141, 1142, 1143, 1144, 1145, 1146, 1147, 1148, 1149, 1150, 1151, 1152, 1153, 1244, 1245, 1246, 1247, 1248, 1249, 1250, 1251, 1252, 1274, 1275, 1276, 1277, 1278, 1279, 1280, 1210, 1211, 1212, 1213, 1214, 1215, 1216, 1217, 1218, 1219, 1220, 1221, 1222, 1223, 1224, 1225, 1226, 1227, 1228, 1259, 1260, 1261, 1262] (by decide +kernel) (by decide +kernel)
set_option maxRecDepth 20000 in
theorem gL_law_X9_views : GoodIn wsL_law (wsV RL 108 RX9 yX9_views wsX9_views) := goodIn_app (goodIn_of _ (by decide +kernel)) ggL_law_X9_views
set_option maxRecDepth 20000 in
theorem ggL_law_X12_views : GoodIn wsL_law wsX12_views := goodIn_r _ [951, 230, 170, 492, 181, 493, 494, 495, 5, 496, 491, 152, 530, 531, 532, 579, 580, 581, 582, 1154, 1155, 1156, 1157, 1158, 1159, 1160, 1161, 1162, 1163, 1164, 1165, 1166, 1167, 1168, 1169, 1170, 1171, 1172, 1173, 1174, 1175, 1176, 1177, 1178, 1179, 1180, 1181, 1182, 1183, 1184, 1185, 1186, 1187, 1188, 1189, 1190, 1191, 1192, 1193, 1194, 1195, 1196, 1197, 1198, 1199, 1200, 1201, 1202, 1203, 1204, 1205, 1206, 1207, 1208, 1209] (by decide +kernel) (by decide +kernel)
set_option maxRecDepth 20000 in
theorem gL_law_X12_views : GoodIn wsL_law (wsV RL 111 RX12 yX12_views wsX12_views) := goodIn_app (goodIn_of _ (by decide +kernel)) ggL_law_X12_views
set_option maxRecDepth 20000 in
theorem ggL_law_X9_farthest : GoodIn wsL_law wsX9_farthest := goodIn_r _ [955, 29, 775, 28, 776, 777, 115, 956, 957, 958, 119, 959, 696, 251, 697, 480, 481, 482, 2, 483, 38, 236, 237, 238, 239, 1141, 1142, 1143, 1144, 1145, 1146, 1147, 1148, 1149, 1150, 1151, 1152, 1153, 1244, 1245, 1246, 1247, 1248, 1249, 1250, 1251, 1252, 1274, 1275, 1276, 1277, 1278, 1279, 1280] (by decide +kernel) (by decide +kernel)
set_option maxRecDepth 20000 in
theorem gL_law_X9_farthest : GoodIn wsL_law (wsV RL 112 RX9 yX9_farthest wsX9_farthest) := goodIn_app (goodIn_of _ (by decide +kernel)) ggL_law_X9_farthest
set_option maxRecDepth 20000 in
theorem ggL_law_X12_farthest : GoodIn wsL_law wsX12_farthest := goodIn_r _ [963, 230, 170, 492, 175, 695, 696, 251, 697, 493, 494, 495, 5, 496, 491, 152, 579, 580, 581, 582, 1154, 1155, 1156, 1157, 1158, 1159, 1160, 1161, 1162, 1163, 1164, 1165, 1166, 1167, 1168, 1169, 1170, 1171, 1172, 1173, 1174, 1175, 1176, 1177, 1178, 1179, 1180, 1181, 1182, 1183, 1184, 1185, 1186, 1187, 1188, 1189, 1190, 1191, 1192, 1193, 1194, 1195, 1196, 1197, 1198, 1199, 1200, 1201, 1202, 1203, 1204, 1205, 1206, 1207, 1208, 1209] (by decide +kernel) (by decide +kernel)
set_option maxRecDepth 20000 in
theorem gL_law_X12_farthest : GoodIn wsL_law (wsV RL 115 RX12 yX12_farthest wsX12_farthest) := goodIn_app (goodIn_of _ (by decide +kernel)) ggL_law_X12_farthest
set_option maxRecDepth 20000 in
theorem ggL_law_X9_ways : GoodIn wsL_law wsX9_ways := goodIn_r _ [967, 29, 775, 28, 776, 777, 115, 968, 969, 970, 119, 971, 807, 808, 809, 120, 480, 481, 482, 2, 483, 38, 236, 237, 238, 239, 1141, 1142, 1143, 1144, 1145, 1146, 1147, 1148, 1149, 1150, 1151, 1152, 1153, 1244, 1245, 1246, 1247, 1248, 1249, 1250, 1251, 1252, 1274, 1275, 1276, 1277, 1278, 1279, 1280] (by decide +kernel) (by decide +kernel)
set_option maxRecDepth 20000 in
theorem gL_law_X9_ways : GoodIn wsL_law (wsV RL 116 RX9 yX9_ways wsX9_ways) := goodIn_app (goodIn_of _ (by decide +kernel)) ggL_law_X9_ways
set_option maxRecDepth 20000 in
theorem ggL_law_X12_ways : GoodIn wsL_law wsX12_ways := goodIn_r _ [975, 230, 170, 492, 176, 493, 494, 495, 5, 496, 491, 152, 716, 717, 718, 579, 580, 581, 582, 1154, 1155, 1156, 1157, 1158, 1159, 1160, 1161, 1162, 1163, 1164, 1165, 1166, 1167, 1168, 1169, 1170, 1171, 1172, 1173, 1174, 1175, 1176, 1177, 1178, 1179, 1180, 1181, 1182, 1183, 1184, 1185, 1186, 1187, 1188, 1189, 1190, 1191, 1192, 1193, 1194, 1195, 1196, 1197, 1198, 1199, 1200, 1201, 1202, 1203, 1204, 1205, 1206, 1207, 1208, 1209] (by decide +kernel) (by decide +kernel)
set_option maxRecDepth 20000 in
theorem gL_law_X12_ways : GoodIn wsL_law (wsV RL 119 RX12 yX12_ways wsX12_ways) := goodIn_app (goodIn_of _ (by decide +kernel)) ggL_law_X12_ways
set_option maxRecDepth 20000 in
theorem ggL_law_X9_push : GoodIn wsL_law wsX9_push := goodIn_r _ [979, 35, 34, 236, 237, 238, 2, 239, 38, 480, 481, 482, 483, 1141, 1142, 1143, 1144, 1145, 1146, 1147, 1148, 1149, 1150, 1151, 1152, 1153] (by decide +kernel) (by decide +kernel)
set_option maxRecDepth 20000 in
theorem gL_law_X9_push : GoodIn wsL_law (wsV RL 120 RX9 yX9_push wsX9_push) := goodIn_app (goodIn_of _ (by decide +kernel)) ggL_law_X9_push
set_option maxRecDepth 20000 in
theorem ggL_law_X12_push : GoodIn wsL_law wsX12_push := goodIn_r _ [983, 230, 868, 183, 666, 667, 5, 668, 493, 494, 495, 496, 491, 152, 579, 580, 581, 582, 1154, 1155, 1156, 1157, 1158, 1159, 1160, 1161, 1162, 1163, 1164, 1165, 1166, 1167, 1168, 1169, 1170, 1171, 1172, 1173, 1174, 1175, 1176, 1177, 1178, 1179, 1180, 1181, 1182, 1183, 1184, 1185, 1186, 1187, 1188, 1189, 1190, 1191, 1192, 1193, 1194, 1195, 1196, 1197, 1198, 1199, 1200, 1201, 1202, 1203, 1204, 1205, 1206, 1207, 1208, 1209] (by decide +kernel) (by decide +kernel)
set_option maxRecDepth 20000 in
theorem gL_law_X12_push : GoodIn wsL_law (wsV RL 123 RX12 yX12_push wsX12_push) := goodIn_app (goodIn_of _ (by decide +kernel)) ggL_law_X12_push
set_option maxRecDepth 20000 in
theorem ggL_law_X9_cut : GoodIn wsL_law wsX9_cut := goodIn_r _ [987, 35, 38, 1141, 1142, 1143, 1144, 1145, 1146, 1147, 1148, 1149, 1150, 1151, 1152, 1153] (by decide +kernel) (by decide +kernel)
set_option maxRecDepth 20000 in
theorem gL_law_X9_cut : GoodIn wsL_law (wsV RL 124 RX9 yX9_cut wsX9_cut) := goodIn_app (goodIn_of _ (by decide +kernel)) ggL_law_X9_cut
set_option maxRecDepth 20000 in
theorem ggL_law_X12_cut : GoodIn wsL_law wsX12_cut := goodIn_r _ [991, 230, 868, 491, 152, 1154, 1155, 1156, 1157, 1158, 1159, 1160, 1161, 1162, 1163, 1164, 1165, 1166, 1167, 1168, 1169, 1170, 1171, 1172, 1173, 1174, 1175, 1176, 1177, 1178, 1179, 1180, 1181, 1182, 1183, 1184, 1185, 1186, 1187, 1188, 1189, 1190, 1191, 1192, 1193, 1194, 1195, 1196, 1197, 1198, 1199, 1200, 1201, 1202, 1203, 1204, 1205, 1206, 1207, 1208, 1209] (by decide +kernel) (by decide +kernel)
set_option maxRecDepth 20000 in
theorem gL_law_X12_cut : GoodIn wsL_law (wsV RL 127 RX12 yX12_cut wsX12_cut) := goodIn_app (goodIn_of _ (by decide +kernel)) ggL_law_X12_cut
set_option maxRecDepth 20000 in
theorem ggL_law_X9_tryRow : GoodIn wsL_law wsX9_tryRow := goodIn_r _ [995, 19, 37, 36, 603, 604, 605, 2, 606, 236, 237, 238, 239, 38, 996, 997, 998, 999, 35, 34, 468, 18, 469, 470, 471, 377, 472, 473, 474, 475, 476, 1000, 1001, 1002, 706, 707, 632, 633, 634, 711, 627, 628, 629, 56, 57, 62, 630, 631, 635, 61, 636, 637, 70, 71, 72, 73, 638, 639, 1003, 640, 641, 642, 48, 55, 643, 644, 645, 646, 647, 648, 66, 649, 650, 376, 378, 379, 380, 651, 652, 653, 654, 52, 655, 656, 657, 658, 659, 660, 661, 392, 65, 393, 480, 481, 482, 483, 1141, 1142, 1143, 1144, 1145, 1146, 1147, 1148, 1149, 1150, 1151, 1152, 1153, 1210, 1211, 1212, 1213, 1214, 1215, 1216, 1217, 1218, 1219, 1220, 1221, 1222, 1223, 1224, 1225, 1226, 1227, 1228, 1259, 1260, 1261, 1262, 1263, 1264, 1265, 1266] (by decide +kernel) (by decide +kernel)
set_option maxRecDepth 20000 in
theorem gL_law_X9_tryRow : GoodIn wsL_law (wsV RL 128 RX9 yX9_tryRow wsX9_tryRow) := goodIn_app (goodIn_of _ (by decide +kernel)) ggL_law_X9_tryRow
set_option maxRecDepth 20000 in
theorem ggL_law_X12_tryRow : GoodIn wsL_law wsX12_tryRow := goodIn_r _ [1007, 230, 154, 1008, 184, 611, 612, 613, 5, 614, 158, 493, 494, 495, 496, 491, 152, 1009, 1010, 1011, 1012, 868, 569, 183, 565, 566, 567, 568, 570, 167, 168, 169, 666, 667, 668, 676, 677, 678, 679, 680, 681, 682, 683, 684, 685, 686, 687, 688, 689, 690, 691, 692, 693, 694, 695, 696, 251, 697, 698, 699, 700, 701, 579, 580, 581, 582, 1154, 1155, 1156, 1157, 1158, 1159, 1160, 1161, 1162, 1163, 1164, 1165, 1166, 1167, 1168, 1169, 1170, 1171, 1172, 1173, 1174, 1175, 1176, 1177, 1178, 1179, 1180, 1181, 1182, 1183, 1184, 1185, 1186, 1187, 1188, 1189, 1190, 1191, 1192, 1193, 1194, 1195, 1196, 1197, 1198, 1199, 1200, 1201, 1202, 1203, 1204, 1205, 1206, 1207, 1208, 1209, 1281, 1282, 1283, 1284, 1285, 1286, 1287, 1288, 1289, 1290, 1291, 1292, 1293, 1294, 1295, 1296, 1297, 1298, 1299, 1300, 1301, 1302] (by decide +kernel) (by decide +kernel)
set_option maxRecDepth 20000 in
theorem gL_law_X12_tryRow : GoodIn wsL_law (wsV RL 131 RX12 yX12_tryRow wsX12_tryRow) := goodIn_app (goodIn_of _ (by decide +kernel)) ggL_law_X12_tryRow
set_option maxRecDepth 20000 in
theorem ggL_law_X9_tried : GoodIn wsL_law wsX9_tried := goodIn_r _ [1016, 37, 1141, 1142, 1143, 1144, 1145, 1146, 1147, 1148, 1149, 1150, 1151, 1152, 1153] (by decide +kernel) (by decide +kernel)
set_option maxRecDepth 20000 in
theorem gL_law_X9_tried : GoodIn wsL_law (wsV RL 132 RX9 yX9_tried wsX9_tried) := goodIn_app (goodIn_of _ (by decide +kernel)) ggL_law_X9_tried
set_option maxRecDepth 20000 in
theorem ggL_law_X12_tried : GoodIn wsL_law wsX12_tried := goodIn_r _ [1020, 230, 184, 1154, 1155, 1156, 1157, 1158, 1159, 1160, 1161, 1162, 1163, 1164, 1165, 1166, 1167, 1168, 1169, 1170, 1171, 1172, 1173, 1174, 1175, 1176, 1177, 1178, 1179, 1180, 1181, 1182, 1183, 1184, 1185, 1186, 1187, 1188, 1189, 1190, 1191, 1192, 1193, 1194, 1195, 1196, 1197, 1198, 1199, 1200, 1201, 1202, 1203, 1204, 1205, 1206, 1207, 1208, 1209] (by decide +kernel) (by decide +kernel)
set_option maxRecDepth 20000 in
theorem gL_law_X12_tried : GoodIn wsL_law (wsV RL 135 RX12 yX12_tried wsX12_tried) := goodIn_app (goodIn_of _ (by decide +kernel)) ggL_law_X12_tried
set_option maxRecDepth 20000 in
theorem ggL_law_X9_shorter : GoodIn wsL_law wsX9_shorter := goodIn_r _ [1024, 19, 36, 35, 603, 604, 605, 2, 606, 236, 237, 238, 239, 38, 996, 997, 998, 999, 34, 468, 18, 469, 470, 471, 377, 472, 473, 474, 475, 476, 1000, 1001, 1002, 706, 707, 632, 633, 634, 711, 627, 628, 629, 56, 57, 62, 630, 631, 635, 61, 636, 637, 70, 71, 72, 73, 638, 639, 1003, 640, 641, 642, 48, 55, 643, 644, 645, 646, 647, 648, 66, 649, 650, 376, 378, 379, 380, 651, 652, 653, 654, 52, 655, 656, 657, 658, 659, 660, 661, 392, 65, 393, 1025, 1026, 1027, 1028, 1029, 1030, 1031, 1032, 480, 481, 482, 483, 1141, 1142, 1143, 1144, 1145, 1146, 1147, 1148, 1149, 1150, 1151, 1152, 1153, 1210, 1211, 1212, 1213, 1214, 1215, 1216, 1217, 1218, 1219, 1220, 1221, 1222, 1223, 1224, 1225, 1226, 1227, 1228, 1259, 1260, 1261, 1262, 1263, 1264, 1265, 1266] (by decide +kernel) (by decide +kernel)
set_option maxRecDepth 20000 in
theorem gL_law_X9_shorter : GoodIn wsL_law (wsV RL 136 RX9 yX9_shorter wsX9_shorter) := goodIn_app (goodIn_of _ (by decide +kernel)) ggL_law_X9_shorter
set_option maxRecDepth 20000 in
theorem ggL_law_X12_shorter : GoodIn wsL_law wsX12_shorter := goodIn_r _ [1036, 230, 154, 1008, 868, 183, 611, 612, 613, 5, 614, 158, 493, 494, 495, 496, 491, 152, 1009, 1010, 1011, 1012, 569, 565, 566, 567, 568, 570, 167, 168, 169, 666, 667, 668, 676, 677, 678, 679, 680, 681, 682, 683, 684, 685, 686, 687, 688, 689, 690, 691, 692, 693, 694, 695, 696, 251, 697, 698, 699, 700, 701, 579, 580, 581, 582, 1154, 1155, 1156, 1157, 1158, 1159, 1160, 1161, 1162, 1163, 1164, 1165, 1166, 1167, 1168, 1169, 1170, 1171, 1172, 1173, 1174, 1175, 1176, 1177, 1178, 1179, 1180, 1181, 1182, 1183, 1184, 1185, 1186, 1187, 1188, 1189, 1190, 1191, 1192, 1193, 1194, 1195, 1196, 1197, 1198, 1199, 1200, 1201, 1202, 1203, 1204, 1205, 1206, 1207, 1208, 1209, 1281, 1282, 1283, 1284, 1285, 1286, 1287, 1288, 1289, 1290, 1291, 1292, 1293, 1294, 1295, 1296, 1297, 1298, 1299, 1300, 1301, 1302] (by decide +kernel) (by decide +kernel)
set_option maxRecDepth 20000 in
theorem gL_law_X12_shorter : GoodIn wsL_law (wsV RL 139 RX12 yX12_shorter wsX12_shorter) := goodIn_app (goodIn_of _ (by decide +kernel)) ggL_law_X12_shorter
set_option maxRecDepth 20000 in
theorem ggL_law_L_row : GoodIn wsL_law wsL_row := goodIn_ca (goodIn_r _ [1040, 1041, 1042, 1043, 1044, 2, 1045, 1046, 1047, 35, 34, 1141, 1142, 1143, 1144, 1145, 1146, 1147, 1148, 1149, 1150, 1151, 1152, 1153] (by decide +kernel) (by decide +kernel)) (goodIn_sub (fun _ h => List.mem_append_right _ h) (by decide +kernel))
set_option maxRecDepth 20000 in
theorem gL_law_L_row : GoodIn wsL_law (va_wsS RL 140 yL_row wsL_row) := goodIn_app (goodIn_of _ (by decide +kernel)) ggL_law_L_row
set_option maxRecDepth 20000 in
theorem ggL_law_X12_row : GoodIn wsL_law wsX12_row := goodIn_r _ [1051, 868, 230, 183, 1154, 1155, 1156, 1157, 1158, 1159, 1160, 1161, 1162, 1163, 1164, 1165, 1166, 1167, 1168, 1169, 1170, 1171, 1172, 1173, 1174, 1175, 1176, 1177, 1178, 1179, 1180, 1181, 1182, 1183, 1184, 1185, 1186, 1187, 1188, 1189, 1190, 1191, 1192, 1193, 1194, 1195, 1196, 1197, 1198, 1199, 1200, 1201, 1202, 1203, 1204, 1205, 1206, 1207, 1208, 1209] (by decide +kernel) (by decide +kernel)
set_option maxRecDepth 20000 in
theorem gL_law_X12_row : GoodIn wsL_law (wsV RL 145 RX12 yX12_row wsX12_row) := goodIn_app (goodIn_of _ (by decide +kernel)) ggL_law_X12_row
set_option maxRecDepth 20000 in
theorem ggL_law_X12_thrown : GoodIn wsL_law wsX12_thrown := goodIn_r _ [1055, 230, 1154, 1155, 1156, 1157, 1158, 1159, 1160, 1161, 1162, 1163, 1164, 1165, 1166, 1167, 1168, 1169, 1170, 1171, 1172, 1173, 1174, 1175, 1176, 1177, 1178, 1179, 1180, 1181, 1182, 1183, 1184, 1185, 1186, 1187, 1188, 1189, 1190, 1191, 1192, 1193, 1194, 1195, 1196, 1197, 1198, 1199, 1200, 1201, 1202, 1203, 1204, 1205, 1206, 1207, 1208, 1209] (by decide +kernel) (by decide +kernel)
set_option maxRecDepth 20000 in
theorem gL_law_X12_thrown : GoodIn wsL_law (wsV RL 146 RX12 yX12_thrown wsX12_thrown) := goodIn_app (goodIn_of _ (by decide +kernel)) ggL_law_X12_thrown
set_option maxRecDepth 20000 in
theorem ggL_law_X9_apart : GoodIn wsL_law wsX9_apart := goodIn_r _ [1059, 33, 19, 34, 35, 603, 604, 605, 2, 606, 236, 237, 238, 239, 38, 1060, 32, 1061, 1062, 146, 147, 143, 144, 145, 142, 751, 118, 752, 753, 131, 137, 754, 755, 756, 757, 468, 18, 469, 470, 471, 377, 472, 473, 474, 475, 476, 758, 759, 760, 761, 762, 132, 133, 763, 764, 765, 766, 134, 135, 136, 1063, 1064, 1065, 1066, 1067, 1068, 1069, 1070, 630, 631, 632, 633, 634, 706, 707, 1071, 1072, 1073, 1074, 825, 826, 827, 54, 638, 639, 1075, 1076, 1077, 635, 61, 636, 637, 70, 71, 72, 73, 413, 414, 415, 51, 56, 57, 283, 284, 285, 1078, 1079, 1080, 1081, 1082, 1083, 1084, 1085, 627, 628, 629, 62, 1086, 1087, 1088, 640, 641, 642, 48, 55, 643, 644, 645, 646, 647, 648, 66, 649, 650, 376, 378, 379, 380, 651, 652, 653, 654, 52, 655, 656, 657, 658, 659, 660, 661, 392, 65, 393, 1089, 1090, 1091, 1092, 480, 481, 482, 483, 1093, 1094, 1095, 861, 862, 863, 1141, 1142, 1143, 1144, 1145, 1146, 1147, 1148, 1149, 1150, 1151, 1152, 1153, 1253, 1254, 1255, 1256, 1257, 1258, 1210, 1211, 1212, 1213, 1214, 1215, 1216, 1217, 1218, 1219, 1220, 1221, 1222, 1223, 1224, 1225, 1226, 1227, 1228, 1274, 1275, 1276, 1277, 1278, 1279, 1280, 1259, 1260, 1261, 1262, 1263, 1264, 1265, 1266] (by decide +kernel) (by decide +kernel)
set_option maxRecDepth 20000 in
theorem gL_law_X9_apart : GoodIn wsL_law (wsV RL 149 RX9 yX9_apart wsX9_apart) := goodIn_app (goodIn_of _ (by decide +kernel)) ggL_law_X9_apart
set_option maxRecDepth 20000 in
theorem ggL_law_X12_apart : GoodIn wsL_law wsX12_apart := goodIn_r _ [1099, 230, 158, 154, 185, 186, 187, 188, 189, 1100, 190, 493, 494, 495, 5, 496, 491, 152, 565, 566, 567, 568, 569, 570, 167, 168, 169, 571, 572, 573, 574, 575, 576, 577, 578, 1101, 1102, 1103, 1104, 669, 670, 671, 672, 673, 674, 675, 1105, 1106, 1107, 1108, 1109, 1110, 1111, 1112, 191, 192, 683, 684, 685, 686, 1113, 1114, 1115, 1116, 530, 531, 532, 1117, 1118, 1119, 1120, 868, 183, 579, 580, 581, 582, 676, 677, 678, 679, 680, 681, 682, 1121, 1122, 1123, 1124, 687, 688, 689, 690, 691, 692, 693, 694, 695, 696, 251, 697, 698, 699, 700, 701, 1154, 1155, 1156, 1157, 1158, 1159, 1160, 1161, 1162, 1163, 1164, 1165, 1166, 1167, 1168, 1169, 1170, 1171, 1172, 1173, 1174, 1175, 1176, 1177, 1178, 1179, 1180, 1181, 1182, 1183, 1184, 1185, 1186, 1187, 1188, 1189, 1190, 1191, 1192, 1193, 1194, 1195, 1196, 1197, 1198, 1199, 1200, 1201, 1202, 1203, 1204, 1205, 1206, 1207, 1208, 1209, 1281, 1282, 1283, 1284, 1285, 1286, 1287, 1288, 1289, 1290, 1291, 1292, 1293, 1294, 1295, 1296, 1297, 1298, 1299, 1300, 1301, 1302] (by decide +kernel) (by decide +kernel)
set_option maxRecDepth 20000 in
theorem gL_law_X12_apart : GoodIn wsL_law (wsV RL 152 RX12 yX12_apart wsX12_apart) := goodIn_app (goodIn_of _ (by decide +kernel)) ggL_law_X12_apart
set_option maxRecDepth 20000 in
theorem ggL_law_X9_count : GoodIn wsL_law wsX9_count := goodIn_r _ [1128, 29, 35, 15, 33, 771, 28, 772, 773, 119, 774, 775, 776, 777, 115, 1141, 1142, 1143, 1144, 1145, 1146, 1147, 1148, 1149, 1150, 1151, 1152, 1153, 1244, 1245, 1246, 1247, 1248, 1249, 1250, 1251, 1252, 1253, 1254, 1255, 1256, 1257, 1258, 1274, 1275, 1276, 1277, 1278, 1279, 1280] (by decide +kernel) (by decide +kernel)
set_option maxRecDepth 20000 in
theorem gL_law_X9_count : GoodIn wsL_law (wsV RL 153 RX9 yX9_count wsX9_count) := goodIn_app (goodIn_of _ (by decide +kernel)) ggL_law_X9_count
set_option maxRecDepth 20000 in
theorem ggL_law_X12_count : GoodIn wsL_law wsX12_count := goodIn_r _ [1132, 230, 492, 170, 868, 231, 1100, 1154, 1155, 1156, 1157, 1158, 1159, 1160, 1161, 1162, 1163, 1164, 1165, 1166, 1167, 1168, 1169, 1170, 1171, 1172, 1173, 1174, 1175, 1176, 1177, 1178, 1179, 1180, 1181, 1182, 1183, 1184, 1185, 1186, 1187, 1188, 1189, 1190, 1191, 1192, 1193, 1194, 1195, 1196, 1197, 1198, 1199, 1200, 1201, 1202, 1203, 1204, 1205, 1206, 1207, 1208, 1209] (by decide +kernel) (by decide +kernel)
set_option maxRecDepth 20000 in
theorem gL_law_X12_count : GoodIn wsL_law (wsV RL 156 RX12 yX12_count wsX12_count) := goodIn_app (goodIn_of _ (by decide +kernel)) ggL_law_X12_count
set_option maxRecDepth 20000 in
theorem ggL_law_X9_trouble : GoodIn wsL_law wsX9_trouble := goodIn_r _ [1136, 38, 1141, 1142, 1143, 1144, 1145, 1146, 1147, 1148, 1149, 1150, 1151, 1152, 1153] (by decide +kernel) (by decide +kernel)
set_option maxRecDepth 20000 in
theorem gL_law_X9_trouble : GoodIn wsL_law (wsV RL 157 RX9 yX9_trouble wsX9_trouble) := goodIn_app (goodIn_of _ (by decide +kernel)) ggL_law_X9_trouble
set_option maxRecDepth 20000 in
theorem ggL_law_X12_trouble : GoodIn wsL_law wsX12_trouble := goodIn_r _ [1140, 230, 491, 1154, 1155, 1156, 1157, 1158, 1159, 1160, 1161, 1162, 1163, 1164, 1165, 1166, 1167, 1168, 1169, 1170, 1171, 1172, 1173, 1174, 1175, 1176, 1177, 1178, 1179, 1180, 1181, 1182, 1183, 1184, 1185, 1186, 1187, 1188, 1189, 1190, 1191, 1192, 1193, 1194, 1195, 1196, 1197, 1198, 1199, 1200, 1201, 1202, 1203, 1204, 1205, 1206, 1207, 1208, 1209] (by decide +kernel) (by decide +kernel)
set_option maxRecDepth 20000 in
theorem gL_law_X12_trouble : GoodIn wsL_law (wsV RL 160 RX12 yX12_trouble wsX12_trouble) := goodIn_app (goodIn_of _ (by decide +kernel)) ggL_law_X12_trouble
theorem dL_law_0 : decode cL_law 0 = .ok (.new 8, 3) := by decide +kernel
theorem dL_law_3 : decode cL_law 3 = .ok (.dup, 1) := by decide +kernel
theorem dL_law_4 : decode cL_law 4 = .ok (.invokespecial 15, 3) := by decide +kernel
theorem dL_law_7 : decode cL_law 7 = .ok (.astore_n 1, 1) := by decide +kernel
theorem dL_law_8 : decode cL_law 8 = .ok (.new 16, 3) := by decide +kernel
theorem dL_law_11 : decode cL_law 11 = .ok (.dup, 1) := by decide +kernel
theorem dL_law_12 : decode cL_law 12 = .ok (.invokespecial 18, 3) := by decide +kernel
theorem dL_law_15 : decode cL_law 15 = .ok (.astore_n 2, 1) := by decide +kernel
theorem dL_law_16 : decode cL_law 16 = .ok (.iconst 1, 1) := by decide +kernel
theorem dL_law_17 : decode cL_law 17 = .ok (.newarray .long, 2) := by decide +kernel
theorem dL_law_19 : decode cL_law 19 = .ok (.astore_n 3, 1) := by decide +kernel
theorem dL_law_20 : decode cL_law 20 = .ok (.iconst 0, 1) := by decide +kernel
theorem dL_law_21 : decode cL_law 21 = .ok (.istore 4, 2) := by decide +kernel
theorem dL_law_23 : decode cL_law 23 = .ok (.iload 4, 2) := by decide +kernel
theorem dL_law_25 : decode cL_law 25 = .ok (.aload_n 0, 1) := by decide +kernel
theorem dL_law_26 : decode cL_law 26 = .ok (.arraylength, 1) := by decide +kernel
theorem dL_law_27 : decode cL_law 27 = .ok (.bipush 6, 2) := by decide +kernel
theorem dL_law_29 : decode cL_law 29 = .ok (.isub, 1) := by decide +kernel
theorem dL_law_30 : decode cL_law 30 = .ok (.if_icmp .gt 1080, 3) := by decide +kernel
theorem dL_law_33 : decode cL_law 33 = .ok (.aload_n 0, 1) := by decide +kernel
theorem dL_law_34 : decode cL_law 34 = .ok (.iload 4, 2) := by decide +kernel
theorem dL_law_36 : decode cL_law 36 = .ok (.iaload, 1) := by decide +kernel
theorem dL_law_37 : decode cL_law 37 = .ok (.bipush 63, 2) := by decide +kernel
theorem dL_law_39 : decode cL_law 39 = .ok (.iand, 1) := by decide +kernel
theorem dL_law_40 : decode cL_law 40 = .ok (.tableswitch 1064 0 32 #[148, 221, 258, 271, 284, 321, 370, 407, 444, 481, 518, 543, 568, 605, 642, 667, 692, 717, 730, 767, 792, 805, 818, 831, 844, 869, 894, 919, 932, 957, 1013, 1026, 1051], 148) := by decide +kernel
theorem dL_law_188 : decode cL_law 188 = .ok (.aload_n 1, 1) := by decide +kernel
theorem dL_law_189 : decode cL_law 189 = .ok (.aload_n 0, 1) := by decide +kernel
theorem dL_law_190 : decode cL_law 190 = .ok (.iload 4, 2) := by decide +kernel
theorem dL_law_192 : decode cL_law 192 = .ok (.iconst 1, 1) := by decide +kernel
theorem dL_law_193 : decode cL_law 193 = .ok (.iadd, 1) := by decide +kernel
theorem dL_law_194 : decode cL_law 194 = .ok (.iaload, 1) := by decide +kernel
theorem dL_law_195 : decode cL_law 195 = .ok (.aload_n 0, 1) := by decide +kernel
theorem dL_law_196 : decode cL_law 196 = .ok (.iload 4, 2) := by decide +kernel
theorem dL_law_198 : decode cL_law 198 = .ok (.iconst 2, 1) := by decide +kernel
theorem dL_law_199 : decode cL_law 199 = .ok (.iadd, 1) := by decide +kernel
theorem dL_law_200 : decode cL_law 200 = .ok (.iaload, 1) := by decide +kernel
theorem dL_law_201 : decode cL_law 201 = .ok (.aload_n 0, 1) := by decide +kernel
theorem dL_law_202 : decode cL_law 202 = .ok (.iload 4, 2) := by decide +kernel
theorem dL_law_204 : decode cL_law 204 = .ok (.iconst 3, 1) := by decide +kernel
theorem dL_law_205 : decode cL_law 205 = .ok (.iadd, 1) := by decide +kernel
theorem dL_law_206 : decode cL_law 206 = .ok (.iaload, 1) := by decide +kernel
theorem dL_law_207 : decode cL_law 207 = .ok (.aload_n 0, 1) := by decide +kernel
theorem dL_law_208 : decode cL_law 208 = .ok (.iload 4, 2) := by decide +kernel
theorem dL_law_210 : decode cL_law 210 = .ok (.iconst 4, 1) := by decide +kernel
theorem dL_law_211 : decode cL_law 211 = .ok (.iadd, 1) := by decide +kernel
theorem dL_law_212 : decode cL_law 212 = .ok (.iaload, 1) := by decide +kernel
theorem dL_law_213 : decode cL_law 213 = .ok (.aload_n 0, 1) := by decide +kernel
theorem dL_law_214 : decode cL_law 214 = .ok (.iload 4, 2) := by decide +kernel
theorem dL_law_216 : decode cL_law 216 = .ok (.iconst 5, 1) := by decide +kernel
theorem dL_law_217 : decode cL_law 217 = .ok (.iadd, 1) := by decide +kernel
theorem dL_law_218 : decode cL_law 218 = .ok (.iaload, 1) := by decide +kernel
theorem dL_law_219 : decode cL_law 219 = .ok (.invokevirtual 19, 3) := by decide +kernel
theorem dL_law_222 : decode cL_law 222 = .ok (.aload_n 2, 1) := by decide +kernel
theorem dL_law_223 : decode cL_law 223 = .ok (.aload_n 0, 1) := by decide +kernel
theorem dL_law_224 : decode cL_law 224 = .ok (.iload 4, 2) := by decide +kernel
theorem dL_law_226 : decode cL_law 226 = .ok (.iconst 1, 1) := by decide +kernel
theorem dL_law_227 : decode cL_law 227 = .ok (.iadd, 1) := by decide +kernel
theorem dL_law_228 : decode cL_law 228 = .ok (.iaload, 1) := by decide +kernel
theorem dL_law_229 : decode cL_law 229 = .ok (.aload_n 0, 1) := by decide +kernel
theorem dL_law_230 : decode cL_law 230 = .ok (.iload 4, 2) := by decide +kernel
theorem dL_law_232 : decode cL_law 232 = .ok (.iconst 2, 1) := by decide +kernel
theorem dL_law_233 : decode cL_law 233 = .ok (.iadd, 1) := by decide +kernel
theorem dL_law_234 : decode cL_law 234 = .ok (.iaload, 1) := by decide +kernel
theorem dL_law_235 : decode cL_law 235 = .ok (.aload_n 0, 1) := by decide +kernel
theorem dL_law_236 : decode cL_law 236 = .ok (.iload 4, 2) := by decide +kernel
theorem dL_law_238 : decode cL_law 238 = .ok (.iconst 3, 1) := by decide +kernel
theorem dL_law_239 : decode cL_law 239 = .ok (.iadd, 1) := by decide +kernel
theorem dL_law_240 : decode cL_law 240 = .ok (.iaload, 1) := by decide +kernel
theorem dL_law_241 : decode cL_law 241 = .ok (.aload_n 0, 1) := by decide +kernel
theorem dL_law_242 : decode cL_law 242 = .ok (.iload 4, 2) := by decide +kernel
theorem dL_law_244 : decode cL_law 244 = .ok (.iconst 4, 1) := by decide +kernel
theorem dL_law_245 : decode cL_law 245 = .ok (.iadd, 1) := by decide +kernel
theorem dL_law_246 : decode cL_law 246 = .ok (.iaload, 1) := by decide +kernel
theorem dL_law_247 : decode cL_law 247 = .ok (.aload_n 0, 1) := by decide +kernel
theorem dL_law_248 : decode cL_law 248 = .ok (.iload 4, 2) := by decide +kernel
theorem dL_law_250 : decode cL_law 250 = .ok (.iconst 5, 1) := by decide +kernel
theorem dL_law_251 : decode cL_law 251 = .ok (.iadd, 1) := by decide +kernel
theorem dL_law_252 : decode cL_law 252 = .ok (.iaload, 1) := by decide +kernel
theorem dL_law_253 : decode cL_law 253 = .ok (.invokevirtual 23, 3) := by decide +kernel
theorem dL_law_256 : decode cL_law 256 = .ok (.if_icmp .eq 848, 3) := by decide +kernel
theorem dL_law_259 : decode cL_law 259 = .ok (.iconst 0, 1) := by decide +kernel
theorem dL_law_260 : decode cL_law 260 = .ok (.ireturn, 1) := by decide +kernel
theorem dL_law_261 : decode cL_law 261 = .ok (.aload_n 1, 1) := by decide +kernel
theorem dL_law_262 : decode cL_law 262 = .ok (.aload_n 0, 1) := by decide +kernel
theorem dL_law_263 : decode cL_law 263 = .ok (.iload 4, 2) := by decide +kernel
theorem dL_law_265 : decode cL_law 265 = .ok (.iconst 1, 1) := by decide +kernel
theorem dL_law_266 : decode cL_law 266 = .ok (.iadd, 1) := by decide +kernel
theorem dL_law_267 : decode cL_law 267 = .ok (.iaload, 1) := by decide +kernel
theorem dL_law_268 : decode cL_law 268 = .ok (.aload_n 0, 1) := by decide +kernel
theorem dL_law_269 : decode cL_law 269 = .ok (.iload 4, 2) := by decide +kernel
theorem dL_law_271 : decode cL_law 271 = .ok (.iconst 2, 1) := by decide +kernel
theorem dL_law_272 : decode cL_law 272 = .ok (.iadd, 1) := by decide +kernel
theorem dL_law_273 : decode cL_law 273 = .ok (.iaload, 1) := by decide +kernel
theorem dL_law_274 : decode cL_law 274 = .ok (.invokevirtual 24, 3) := by decide +kernel
theorem dL_law_277 : decode cL_law 277 = .ok (.aload_n 2, 1) := by decide +kernel
theorem dL_law_278 : decode cL_law 278 = .ok (.aload_n 0, 1) := by decide +kernel
theorem dL_law_279 : decode cL_law 279 = .ok (.iload 4, 2) := by decide +kernel
theorem dL_law_281 : decode cL_law 281 = .ok (.iconst 1, 1) := by decide +kernel
theorem dL_law_282 : decode cL_law 282 = .ok (.iadd, 1) := by decide +kernel
theorem dL_law_283 : decode cL_law 283 = .ok (.iaload, 1) := by decide +kernel
theorem dL_law_284 : decode cL_law 284 = .ok (.aload_n 0, 1) := by decide +kernel
theorem dL_law_285 : decode cL_law 285 = .ok (.iload 4, 2) := by decide +kernel
theorem dL_law_287 : decode cL_law 287 = .ok (.iconst 2, 1) := by decide +kernel
theorem dL_law_288 : decode cL_law 288 = .ok (.iadd, 1) := by decide +kernel
theorem dL_law_289 : decode cL_law 289 = .ok (.iaload, 1) := by decide +kernel
theorem dL_law_290 : decode cL_law 290 = .ok (.invokevirtual 28, 3) := by decide +kernel
theorem dL_law_293 : decode cL_law 293 = .ok (.if_icmp .eq 811, 3) := by decide +kernel
theorem dL_law_296 : decode cL_law 296 = .ok (.iconst 0, 1) := by decide +kernel
theorem dL_law_297 : decode cL_law 297 = .ok (.ireturn, 1) := by decide +kernel
theorem dL_law_298 : decode cL_law 298 = .ok (.aload_n 1, 1) := by decide +kernel
theorem dL_law_299 : decode cL_law 299 = .ok (.invokevirtual 29, 3) := by decide +kernel
theorem dL_law_302 : decode cL_law 302 = .ok (.aload_n 2, 1) := by decide +kernel
theorem dL_law_303 : decode cL_law 303 = .ok (.invokevirtual 33, 3) := by decide +kernel
theorem dL_law_306 : decode cL_law 306 = .ok (.if_icmp .eq 798, 3) := by decide +kernel
theorem dL_law_309 : decode cL_law 309 = .ok (.iconst 0, 1) := by decide +kernel
theorem dL_law_310 : decode cL_law 310 = .ok (.ireturn, 1) := by decide +kernel
theorem dL_law_311 : decode cL_law 311 = .ok (.aload_n 1, 1) := by decide +kernel
theorem dL_law_312 : decode cL_law 312 = .ok (.invokevirtual 34, 3) := by decide +kernel
theorem dL_law_315 : decode cL_law 315 = .ok (.aload_n 2, 1) := by decide +kernel
theorem dL_law_316 : decode cL_law 316 = .ok (.invokevirtual 37, 3) := by decide +kernel
theorem dL_law_319 : decode cL_law 319 = .ok (.if_icmp .eq 785, 3) := by decide +kernel
theorem dL_law_322 : decode cL_law 322 = .ok (.iconst 0, 1) := by decide +kernel
theorem dL_law_323 : decode cL_law 323 = .ok (.ireturn, 1) := by decide +kernel
theorem dL_law_324 : decode cL_law 324 = .ok (.aload_n 1, 1) := by decide +kernel
theorem dL_law_325 : decode cL_law 325 = .ok (.aload_n 0, 1) := by decide +kernel
theorem dL_law_326 : decode cL_law 326 = .ok (.iload 4, 2) := by decide +kernel
theorem dL_law_328 : decode cL_law 328 = .ok (.iconst 1, 1) := by decide +kernel
theorem dL_law_329 : decode cL_law 329 = .ok (.iadd, 1) := by decide +kernel
theorem dL_law_330 : decode cL_law 330 = .ok (.iaload, 1) := by decide +kernel
theorem dL_law_331 : decode cL_law 331 = .ok (.aload_n 0, 1) := by decide +kernel
theorem dL_law_332 : decode cL_law 332 = .ok (.iload 4, 2) := by decide +kernel
theorem dL_law_334 : decode cL_law 334 = .ok (.iconst 2, 1) := by decide +kernel
theorem dL_law_335 : decode cL_law 335 = .ok (.iadd, 1) := by decide +kernel
theorem dL_law_336 : decode cL_law 336 = .ok (.iaload, 1) := by decide +kernel
theorem dL_law_337 : decode cL_law 337 = .ok (.invokevirtual 38, 3) := by decide +kernel
theorem dL_law_340 : decode cL_law 340 = .ok (.aload_n 2, 1) := by decide +kernel
theorem dL_law_341 : decode cL_law 341 = .ok (.aload_n 0, 1) := by decide +kernel
theorem dL_law_342 : decode cL_law 342 = .ok (.iload 4, 2) := by decide +kernel
theorem dL_law_344 : decode cL_law 344 = .ok (.iconst 1, 1) := by decide +kernel
theorem dL_law_345 : decode cL_law 345 = .ok (.iadd, 1) := by decide +kernel
theorem dL_law_346 : decode cL_law 346 = .ok (.iaload, 1) := by decide +kernel
theorem dL_law_347 : decode cL_law 347 = .ok (.aload_n 0, 1) := by decide +kernel
theorem dL_law_348 : decode cL_law 348 = .ok (.iload 4, 2) := by decide +kernel
theorem dL_law_350 : decode cL_law 350 = .ok (.iconst 2, 1) := by decide +kernel
theorem dL_law_351 : decode cL_law 351 = .ok (.iadd, 1) := by decide +kernel
theorem dL_law_352 : decode cL_law 352 = .ok (.iaload, 1) := by decide +kernel
theorem dL_law_353 : decode cL_law 353 = .ok (.invokevirtual 41, 3) := by decide +kernel
theorem dL_law_356 : decode cL_law 356 = .ok (.if_icmp .eq 748, 3) := by decide +kernel
theorem dL_law_359 : decode cL_law 359 = .ok (.iconst 0, 1) := by decide +kernel
theorem dL_law_360 : decode cL_law 360 = .ok (.ireturn, 1) := by decide +kernel
theorem dL_law_361 : decode cL_law 361 = .ok (.aload_n 1, 1) := by decide +kernel
theorem dL_law_362 : decode cL_law 362 = .ok (.aload_n 0, 1) := by decide +kernel
theorem dL_law_363 : decode cL_law 363 = .ok (.iload 4, 2) := by decide +kernel
theorem dL_law_365 : decode cL_law 365 = .ok (.iconst 1, 1) := by decide +kernel
theorem dL_law_366 : decode cL_law 366 = .ok (.iadd, 1) := by decide +kernel
theorem dL_law_367 : decode cL_law 367 = .ok (.iaload, 1) := by decide +kernel
theorem dL_law_368 : decode cL_law 368 = .ok (.aload_n 0, 1) := by decide +kernel
theorem dL_law_369 : decode cL_law 369 = .ok (.iload 4, 2) := by decide +kernel
theorem dL_law_371 : decode cL_law 371 = .ok (.iconst 2, 1) := by decide +kernel
theorem dL_law_372 : decode cL_law 372 = .ok (.iadd, 1) := by decide +kernel
theorem dL_law_373 : decode cL_law 373 = .ok (.iaload, 1) := by decide +kernel
theorem dL_law_374 : decode cL_law 374 = .ok (.aload_n 0, 1) := by decide +kernel
theorem dL_law_375 : decode cL_law 375 = .ok (.iload 4, 2) := by decide +kernel
theorem dL_law_377 : decode cL_law 377 = .ok (.iconst 3, 1) := by decide +kernel
theorem dL_law_378 : decode cL_law 378 = .ok (.iadd, 1) := by decide +kernel
theorem dL_law_379 : decode cL_law 379 = .ok (.iaload, 1) := by decide +kernel
theorem dL_law_380 : decode cL_law 380 = .ok (.invokevirtual 42, 3) := by decide +kernel
theorem dL_law_383 : decode cL_law 383 = .ok (.aload_n 2, 1) := by decide +kernel
theorem dL_law_384 : decode cL_law 384 = .ok (.aload_n 0, 1) := by decide +kernel
theorem dL_law_385 : decode cL_law 385 = .ok (.iload 4, 2) := by decide +kernel
theorem dL_law_387 : decode cL_law 387 = .ok (.iconst 1, 1) := by decide +kernel
theorem dL_law_388 : decode cL_law 388 = .ok (.iadd, 1) := by decide +kernel
theorem dL_law_389 : decode cL_law 389 = .ok (.iaload, 1) := by decide +kernel
theorem dL_law_390 : decode cL_law 390 = .ok (.aload_n 0, 1) := by decide +kernel
theorem dL_law_391 : decode cL_law 391 = .ok (.iload 4, 2) := by decide +kernel
theorem dL_law_393 : decode cL_law 393 = .ok (.iconst 2, 1) := by decide +kernel
theorem dL_law_394 : decode cL_law 394 = .ok (.iadd, 1) := by decide +kernel
theorem dL_law_395 : decode cL_law 395 = .ok (.iaload, 1) := by decide +kernel
theorem dL_law_396 : decode cL_law 396 = .ok (.aload_n 0, 1) := by decide +kernel
theorem dL_law_397 : decode cL_law 397 = .ok (.iload 4, 2) := by decide +kernel
theorem dL_law_399 : decode cL_law 399 = .ok (.iconst 3, 1) := by decide +kernel
theorem dL_law_400 : decode cL_law 400 = .ok (.iadd, 1) := by decide +kernel
theorem dL_law_401 : decode cL_law 401 = .ok (.iaload, 1) := by decide +kernel
theorem dL_law_402 : decode cL_law 402 = .ok (.invokevirtual 46, 3) := by decide +kernel
theorem dL_law_405 : decode cL_law 405 = .ok (.if_icmp .eq 699, 3) := by decide +kernel
theorem dL_law_408 : decode cL_law 408 = .ok (.iconst 0, 1) := by decide +kernel
theorem dL_law_409 : decode cL_law 409 = .ok (.ireturn, 1) := by decide +kernel
theorem dL_law_410 : decode cL_law 410 = .ok (.aload_n 1, 1) := by decide +kernel
theorem dL_law_411 : decode cL_law 411 = .ok (.aload_n 0, 1) := by decide +kernel
theorem dL_law_412 : decode cL_law 412 = .ok (.iload 4, 2) := by decide +kernel
theorem dL_law_414 : decode cL_law 414 = .ok (.iconst 1, 1) := by decide +kernel
theorem dL_law_415 : decode cL_law 415 = .ok (.iadd, 1) := by decide +kernel
theorem dL_law_416 : decode cL_law 416 = .ok (.iaload, 1) := by decide +kernel
theorem dL_law_417 : decode cL_law 417 = .ok (.aload_n 0, 1) := by decide +kernel
theorem dL_law_418 : decode cL_law 418 = .ok (.iload 4, 2) := by decide +kernel
theorem dL_law_420 : decode cL_law 420 = .ok (.iconst 2, 1) := by decide +kernel
theorem dL_law_421 : decode cL_law 421 = .ok (.iadd, 1) := by decide +kernel
theorem dL_law_422 : decode cL_law 422 = .ok (.iaload, 1) := by decide +kernel
theorem dL_law_423 : decode cL_law 423 = .ok (.invokevirtual 47, 3) := by decide +kernel
theorem dL_law_426 : decode cL_law 426 = .ok (.aload_n 2, 1) := by decide +kernel
theorem dL_law_427 : decode cL_law 427 = .ok (.aload_n 0, 1) := by decide +kernel
theorem dL_law_428 : decode cL_law 428 = .ok (.iload 4, 2) := by decide +kernel
theorem dL_law_430 : decode cL_law 430 = .ok (.iconst 1, 1) := by decide +kernel
theorem dL_law_431 : decode cL_law 431 = .ok (.iadd, 1) := by decide +kernel
theorem dL_law_432 : decode cL_law 432 = .ok (.iaload, 1) := by decide +kernel
theorem dL_law_433 : decode cL_law 433 = .ok (.aload_n 0, 1) := by decide +kernel
theorem dL_law_434 : decode cL_law 434 = .ok (.iload 4, 2) := by decide +kernel
theorem dL_law_436 : decode cL_law 436 = .ok (.iconst 2, 1) := by decide +kernel
theorem dL_law_437 : decode cL_law 437 = .ok (.iadd, 1) := by decide +kernel
theorem dL_law_438 : decode cL_law 438 = .ok (.iaload, 1) := by decide +kernel
theorem dL_law_439 : decode cL_law 439 = .ok (.invokevirtual 50, 3) := by decide +kernel
theorem dL_law_442 : decode cL_law 442 = .ok (.if_icmp .eq 662, 3) := by decide +kernel
theorem dL_law_445 : decode cL_law 445 = .ok (.iconst 0, 1) := by decide +kernel
theorem dL_law_446 : decode cL_law 446 = .ok (.ireturn, 1) := by decide +kernel
theorem dL_law_447 : decode cL_law 447 = .ok (.aload_n 1, 1) := by decide +kernel
theorem dL_law_448 : decode cL_law 448 = .ok (.aload_n 0, 1) := by decide +kernel
theorem dL_law_449 : decode cL_law 449 = .ok (.iload 4, 2) := by decide +kernel
theorem dL_law_451 : decode cL_law 451 = .ok (.iconst 1, 1) := by decide +kernel
theorem dL_law_452 : decode cL_law 452 = .ok (.iadd, 1) := by decide +kernel
theorem dL_law_453 : decode cL_law 453 = .ok (.iaload, 1) := by decide +kernel
theorem dL_law_454 : decode cL_law 454 = .ok (.aload_n 0, 1) := by decide +kernel
theorem dL_law_455 : decode cL_law 455 = .ok (.iload 4, 2) := by decide +kernel
theorem dL_law_457 : decode cL_law 457 = .ok (.iconst 2, 1) := by decide +kernel
theorem dL_law_458 : decode cL_law 458 = .ok (.iadd, 1) := by decide +kernel
theorem dL_law_459 : decode cL_law 459 = .ok (.iaload, 1) := by decide +kernel
theorem dL_law_460 : decode cL_law 460 = .ok (.invokevirtual 51, 3) := by decide +kernel
theorem dL_law_463 : decode cL_law 463 = .ok (.aload_n 2, 1) := by decide +kernel
theorem dL_law_464 : decode cL_law 464 = .ok (.aload_n 0, 1) := by decide +kernel
theorem dL_law_465 : decode cL_law 465 = .ok (.iload 4, 2) := by decide +kernel
theorem dL_law_467 : decode cL_law 467 = .ok (.iconst 1, 1) := by decide +kernel
theorem dL_law_468 : decode cL_law 468 = .ok (.iadd, 1) := by decide +kernel
theorem dL_law_469 : decode cL_law 469 = .ok (.iaload, 1) := by decide +kernel
theorem dL_law_470 : decode cL_law 470 = .ok (.aload_n 0, 1) := by decide +kernel
theorem dL_law_471 : decode cL_law 471 = .ok (.iload 4, 2) := by decide +kernel
theorem dL_law_473 : decode cL_law 473 = .ok (.iconst 2, 1) := by decide +kernel
theorem dL_law_474 : decode cL_law 474 = .ok (.iadd, 1) := by decide +kernel
theorem dL_law_475 : decode cL_law 475 = .ok (.iaload, 1) := by decide +kernel
theorem dL_law_476 : decode cL_law 476 = .ok (.invokevirtual 54, 3) := by decide +kernel
theorem dL_law_479 : decode cL_law 479 = .ok (.if_icmp .eq 625, 3) := by decide +kernel
theorem dL_law_482 : decode cL_law 482 = .ok (.iconst 0, 1) := by decide +kernel
theorem dL_law_483 : decode cL_law 483 = .ok (.ireturn, 1) := by decide +kernel
theorem dL_law_484 : decode cL_law 484 = .ok (.aload_n 1, 1) := by decide +kernel
theorem dL_law_485 : decode cL_law 485 = .ok (.aload_n 0, 1) := by decide +kernel
theorem dL_law_486 : decode cL_law 486 = .ok (.iload 4, 2) := by decide +kernel
theorem dL_law_488 : decode cL_law 488 = .ok (.iconst 1, 1) := by decide +kernel
theorem dL_law_489 : decode cL_law 489 = .ok (.iadd, 1) := by decide +kernel
theorem dL_law_490 : decode cL_law 490 = .ok (.iaload, 1) := by decide +kernel
theorem dL_law_491 : decode cL_law 491 = .ok (.aload_n 0, 1) := by decide +kernel
theorem dL_law_492 : decode cL_law 492 = .ok (.iload 4, 2) := by decide +kernel
theorem dL_law_494 : decode cL_law 494 = .ok (.iconst 2, 1) := by decide +kernel
theorem dL_law_495 : decode cL_law 495 = .ok (.iadd, 1) := by decide +kernel
theorem dL_law_496 : decode cL_law 496 = .ok (.iaload, 1) := by decide +kernel
theorem dL_law_497 : decode cL_law 497 = .ok (.invokevirtual 55, 3) := by decide +kernel
theorem dL_law_500 : decode cL_law 500 = .ok (.aload_n 2, 1) := by decide +kernel
theorem dL_law_501 : decode cL_law 501 = .ok (.aload_n 0, 1) := by decide +kernel
theorem dL_law_502 : decode cL_law 502 = .ok (.iload 4, 2) := by decide +kernel
theorem dL_law_504 : decode cL_law 504 = .ok (.iconst 1, 1) := by decide +kernel
theorem dL_law_505 : decode cL_law 505 = .ok (.iadd, 1) := by decide +kernel
theorem dL_law_506 : decode cL_law 506 = .ok (.iaload, 1) := by decide +kernel
theorem dL_law_507 : decode cL_law 507 = .ok (.aload_n 0, 1) := by decide +kernel
theorem dL_law_508 : decode cL_law 508 = .ok (.iload 4, 2) := by decide +kernel
theorem dL_law_510 : decode cL_law 510 = .ok (.iconst 2, 1) := by decide +kernel
theorem dL_law_511 : decode cL_law 511 = .ok (.iadd, 1) := by decide +kernel
theorem dL_law_512 : decode cL_law 512 = .ok (.iaload, 1) := by decide +kernel
theorem dL_law_513 : decode cL_law 513 = .ok (.invokevirtual 58, 3) := by decide +kernel
theorem dL_law_516 : decode cL_law 516 = .ok (.if_icmp .eq 588, 3) := by decide +kernel
theorem dL_law_519 : decode cL_law 519 = .ok (.iconst 0, 1) := by decide +kernel
theorem dL_law_520 : decode cL_law 520 = .ok (.ireturn, 1) := by decide +kernel
theorem dL_law_521 : decode cL_law 521 = .ok (.aload_n 1, 1) := by decide +kernel
theorem dL_law_522 : decode cL_law 522 = .ok (.aload_n 0, 1) := by decide +kernel
theorem dL_law_523 : decode cL_law 523 = .ok (.iload 4, 2) := by decide +kernel
theorem dL_law_525 : decode cL_law 525 = .ok (.iconst 1, 1) := by decide +kernel
theorem dL_law_526 : decode cL_law 526 = .ok (.iadd, 1) := by decide +kernel
theorem dL_law_527 : decode cL_law 527 = .ok (.iaload, 1) := by decide +kernel
theorem dL_law_528 : decode cL_law 528 = .ok (.aload_n 0, 1) := by decide +kernel
theorem dL_law_529 : decode cL_law 529 = .ok (.iload 4, 2) := by decide +kernel
theorem dL_law_531 : decode cL_law 531 = .ok (.iconst 2, 1) := by decide +kernel
theorem dL_law_532 : decode cL_law 532 = .ok (.iadd, 1) := by decide +kernel
theorem dL_law_533 : decode cL_law 533 = .ok (.iaload, 1) := by decide +kernel
theorem dL_law_534 : decode cL_law 534 = .ok (.invokevirtual 59, 3) := by decide +kernel
theorem dL_law_537 : decode cL_law 537 = .ok (.aload_n 2, 1) := by decide +kernel
theorem dL_law_538 : decode cL_law 538 = .ok (.aload_n 0, 1) := by decide +kernel
theorem dL_law_539 : decode cL_law 539 = .ok (.iload 4, 2) := by decide +kernel
theorem dL_law_541 : decode cL_law 541 = .ok (.iconst 1, 1) := by decide +kernel
theorem dL_law_542 : decode cL_law 542 = .ok (.iadd, 1) := by decide +kernel
theorem dL_law_543 : decode cL_law 543 = .ok (.iaload, 1) := by decide +kernel
theorem dL_law_544 : decode cL_law 544 = .ok (.aload_n 0, 1) := by decide +kernel
theorem dL_law_545 : decode cL_law 545 = .ok (.iload 4, 2) := by decide +kernel
theorem dL_law_547 : decode cL_law 547 = .ok (.iconst 2, 1) := by decide +kernel
theorem dL_law_548 : decode cL_law 548 = .ok (.iadd, 1) := by decide +kernel
theorem dL_law_549 : decode cL_law 549 = .ok (.iaload, 1) := by decide +kernel
theorem dL_law_550 : decode cL_law 550 = .ok (.invokevirtual 62, 3) := by decide +kernel
theorem dL_law_553 : decode cL_law 553 = .ok (.if_icmp .eq 551, 3) := by decide +kernel
theorem dL_law_556 : decode cL_law 556 = .ok (.iconst 0, 1) := by decide +kernel
theorem dL_law_557 : decode cL_law 557 = .ok (.ireturn, 1) := by decide +kernel
theorem dL_law_558 : decode cL_law 558 = .ok (.aload_n 1, 1) := by decide +kernel
theorem dL_law_559 : decode cL_law 559 = .ok (.aload_n 0, 1) := by decide +kernel
theorem dL_law_560 : decode cL_law 560 = .ok (.iload 4, 2) := by decide +kernel
theorem dL_law_562 : decode cL_law 562 = .ok (.iconst 1, 1) := by decide +kernel
theorem dL_law_563 : decode cL_law 563 = .ok (.iadd, 1) := by decide +kernel
theorem dL_law_564 : decode cL_law 564 = .ok (.iaload, 1) := by decide +kernel
theorem dL_law_565 : decode cL_law 565 = .ok (.invokevirtual 63, 3) := by decide +kernel
theorem dL_law_568 : decode cL_law 568 = .ok (.aload_n 2, 1) := by decide +kernel
theorem dL_law_569 : decode cL_law 569 = .ok (.aload_n 0, 1) := by decide +kernel
theorem dL_law_570 : decode cL_law 570 = .ok (.iload 4, 2) := by decide +kernel
theorem dL_law_572 : decode cL_law 572 = .ok (.iconst 1, 1) := by decide +kernel
theorem dL_law_573 : decode cL_law 573 = .ok (.iadd, 1) := by decide +kernel
theorem dL_law_574 : decode cL_law 574 = .ok (.iaload, 1) := by decide +kernel
theorem dL_law_575 : decode cL_law 575 = .ok (.invokevirtual 67, 3) := by decide +kernel
theorem dL_law_578 : decode cL_law 578 = .ok (.if_icmp .eq 526, 3) := by decide +kernel
theorem dL_law_581 : decode cL_law 581 = .ok (.iconst 0, 1) := by decide +kernel
theorem dL_law_582 : decode cL_law 582 = .ok (.ireturn, 1) := by decide +kernel
theorem dL_law_583 : decode cL_law 583 = .ok (.aload_n 1, 1) := by decide +kernel
theorem dL_law_584 : decode cL_law 584 = .ok (.aload_n 0, 1) := by decide +kernel
theorem dL_law_585 : decode cL_law 585 = .ok (.iload 4, 2) := by decide +kernel
theorem dL_law_587 : decode cL_law 587 = .ok (.iconst 1, 1) := by decide +kernel
theorem dL_law_588 : decode cL_law 588 = .ok (.iadd, 1) := by decide +kernel
theorem dL_law_589 : decode cL_law 589 = .ok (.iaload, 1) := by decide +kernel
theorem dL_law_590 : decode cL_law 590 = .ok (.invokevirtual 68, 3) := by decide +kernel
theorem dL_law_593 : decode cL_law 593 = .ok (.aload_n 2, 1) := by decide +kernel
theorem dL_law_594 : decode cL_law 594 = .ok (.aload_n 0, 1) := by decide +kernel
theorem dL_law_595 : decode cL_law 595 = .ok (.iload 4, 2) := by decide +kernel
theorem dL_law_597 : decode cL_law 597 = .ok (.iconst 1, 1) := by decide +kernel
theorem dL_law_598 : decode cL_law 598 = .ok (.iadd, 1) := by decide +kernel
theorem dL_law_599 : decode cL_law 599 = .ok (.iaload, 1) := by decide +kernel
theorem dL_law_600 : decode cL_law 600 = .ok (.invokevirtual 71, 3) := by decide +kernel
theorem dL_law_603 : decode cL_law 603 = .ok (.if_icmp .eq 501, 3) := by decide +kernel
theorem dL_law_606 : decode cL_law 606 = .ok (.iconst 0, 1) := by decide +kernel
theorem dL_law_607 : decode cL_law 607 = .ok (.ireturn, 1) := by decide +kernel
theorem dL_law_608 : decode cL_law 608 = .ok (.aload_n 1, 1) := by decide +kernel
theorem dL_law_609 : decode cL_law 609 = .ok (.aload_n 0, 1) := by decide +kernel
theorem dL_law_610 : decode cL_law 610 = .ok (.iload 4, 2) := by decide +kernel
theorem dL_law_612 : decode cL_law 612 = .ok (.iconst 1, 1) := by decide +kernel
theorem dL_law_613 : decode cL_law 613 = .ok (.iadd, 1) := by decide +kernel
theorem dL_law_614 : decode cL_law 614 = .ok (.iaload, 1) := by decide +kernel
theorem dL_law_615 : decode cL_law 615 = .ok (.aload_n 0, 1) := by decide +kernel
theorem dL_law_616 : decode cL_law 616 = .ok (.iload 4, 2) := by decide +kernel
theorem dL_law_618 : decode cL_law 618 = .ok (.iconst 2, 1) := by decide +kernel
theorem dL_law_619 : decode cL_law 619 = .ok (.iadd, 1) := by decide +kernel
theorem dL_law_620 : decode cL_law 620 = .ok (.iaload, 1) := by decide +kernel
theorem dL_law_621 : decode cL_law 621 = .ok (.invokevirtual 72, 3) := by decide +kernel
theorem dL_law_624 : decode cL_law 624 = .ok (.aload_n 2, 1) := by decide +kernel
theorem dL_law_625 : decode cL_law 625 = .ok (.aload_n 0, 1) := by decide +kernel
theorem dL_law_626 : decode cL_law 626 = .ok (.iload 4, 2) := by decide +kernel
theorem dL_law_628 : decode cL_law 628 = .ok (.iconst 1, 1) := by decide +kernel
theorem dL_law_629 : decode cL_law 629 = .ok (.iadd, 1) := by decide +kernel
theorem dL_law_630 : decode cL_law 630 = .ok (.iaload, 1) := by decide +kernel
theorem dL_law_631 : decode cL_law 631 = .ok (.aload_n 0, 1) := by decide +kernel
theorem dL_law_632 : decode cL_law 632 = .ok (.iload 4, 2) := by decide +kernel
theorem dL_law_634 : decode cL_law 634 = .ok (.iconst 2, 1) := by decide +kernel
theorem dL_law_635 : decode cL_law 635 = .ok (.iadd, 1) := by decide +kernel
theorem dL_law_636 : decode cL_law 636 = .ok (.iaload, 1) := by decide +kernel
theorem dL_law_637 : decode cL_law 637 = .ok (.invokevirtual 75, 3) := by decide +kernel
theorem dL_law_640 : decode cL_law 640 = .ok (.if_icmp .eq 464, 3) := by decide +kernel
theorem dL_law_643 : decode cL_law 643 = .ok (.iconst 0, 1) := by decide +kernel
theorem dL_law_644 : decode cL_law 644 = .ok (.ireturn, 1) := by decide +kernel
theorem dL_law_645 : decode cL_law 645 = .ok (.aload_n 1, 1) := by decide +kernel
theorem dL_law_646 : decode cL_law 646 = .ok (.aload_n 0, 1) := by decide +kernel
theorem dL_law_647 : decode cL_law 647 = .ok (.iload 4, 2) := by decide +kernel
theorem dL_law_649 : decode cL_law 649 = .ok (.iconst 1, 1) := by decide +kernel
theorem dL_law_650 : decode cL_law 650 = .ok (.iadd, 1) := by decide +kernel
theorem dL_law_651 : decode cL_law 651 = .ok (.iaload, 1) := by decide +kernel
theorem dL_law_652 : decode cL_law 652 = .ok (.aload_n 0, 1) := by decide +kernel
theorem dL_law_653 : decode cL_law 653 = .ok (.iload 4, 2) := by decide +kernel
theorem dL_law_655 : decode cL_law 655 = .ok (.iconst 2, 1) := by decide +kernel
theorem dL_law_656 : decode cL_law 656 = .ok (.iadd, 1) := by decide +kernel
theorem dL_law_657 : decode cL_law 657 = .ok (.iaload, 1) := by decide +kernel
theorem dL_law_658 : decode cL_law 658 = .ok (.invokevirtual 76, 3) := by decide +kernel
theorem dL_law_661 : decode cL_law 661 = .ok (.aload_n 2, 1) := by decide +kernel
theorem dL_law_662 : decode cL_law 662 = .ok (.aload_n 0, 1) := by decide +kernel
theorem dL_law_663 : decode cL_law 663 = .ok (.iload 4, 2) := by decide +kernel
theorem dL_law_665 : decode cL_law 665 = .ok (.iconst 1, 1) := by decide +kernel
theorem dL_law_666 : decode cL_law 666 = .ok (.iadd, 1) := by decide +kernel
theorem dL_law_667 : decode cL_law 667 = .ok (.iaload, 1) := by decide +kernel
theorem dL_law_668 : decode cL_law 668 = .ok (.aload_n 0, 1) := by decide +kernel
theorem dL_law_669 : decode cL_law 669 = .ok (.iload 4, 2) := by decide +kernel
theorem dL_law_671 : decode cL_law 671 = .ok (.iconst 2, 1) := by decide +kernel
theorem dL_law_672 : decode cL_law 672 = .ok (.iadd, 1) := by decide +kernel
theorem dL_law_673 : decode cL_law 673 = .ok (.iaload, 1) := by decide +kernel
theorem dL_law_674 : decode cL_law 674 = .ok (.invokevirtual 79, 3) := by decide +kernel
theorem dL_law_677 : decode cL_law 677 = .ok (.if_icmp .eq 427, 3) := by decide +kernel
theorem dL_law_680 : decode cL_law 680 = .ok (.iconst 0, 1) := by decide +kernel
theorem dL_law_681 : decode cL_law 681 = .ok (.ireturn, 1) := by decide +kernel
theorem dL_law_682 : decode cL_law 682 = .ok (.aload_n 1, 1) := by decide +kernel
theorem dL_law_683 : decode cL_law 683 = .ok (.aload_n 0, 1) := by decide +kernel
theorem dL_law_684 : decode cL_law 684 = .ok (.iload 4, 2) := by decide +kernel
theorem dL_law_686 : decode cL_law 686 = .ok (.iconst 1, 1) := by decide +kernel
theorem dL_law_687 : decode cL_law 687 = .ok (.iadd, 1) := by decide +kernel
theorem dL_law_688 : decode cL_law 688 = .ok (.iaload, 1) := by decide +kernel
theorem dL_law_689 : decode cL_law 689 = .ok (.invokevirtual 80, 3) := by decide +kernel
theorem dL_law_692 : decode cL_law 692 = .ok (.aload_n 2, 1) := by decide +kernel
theorem dL_law_693 : decode cL_law 693 = .ok (.aload_n 0, 1) := by decide +kernel
theorem dL_law_694 : decode cL_law 694 = .ok (.iload 4, 2) := by decide +kernel
theorem dL_law_696 : decode cL_law 696 = .ok (.iconst 1, 1) := by decide +kernel
theorem dL_law_697 : decode cL_law 697 = .ok (.iadd, 1) := by decide +kernel
theorem dL_law_698 : decode cL_law 698 = .ok (.iaload, 1) := by decide +kernel
theorem dL_law_699 : decode cL_law 699 = .ok (.invokevirtual 83, 3) := by decide +kernel
theorem dL_law_702 : decode cL_law 702 = .ok (.if_icmp .eq 402, 3) := by decide +kernel
theorem dL_law_705 : decode cL_law 705 = .ok (.iconst 0, 1) := by decide +kernel
theorem dL_law_706 : decode cL_law 706 = .ok (.ireturn, 1) := by decide +kernel
theorem dL_law_707 : decode cL_law 707 = .ok (.aload_n 1, 1) := by decide +kernel
theorem dL_law_708 : decode cL_law 708 = .ok (.aload_n 0, 1) := by decide +kernel
theorem dL_law_709 : decode cL_law 709 = .ok (.iload 4, 2) := by decide +kernel
theorem dL_law_711 : decode cL_law 711 = .ok (.iconst 1, 1) := by decide +kernel
theorem dL_law_712 : decode cL_law 712 = .ok (.iadd, 1) := by decide +kernel
theorem dL_law_713 : decode cL_law 713 = .ok (.iaload, 1) := by decide +kernel
theorem dL_law_714 : decode cL_law 714 = .ok (.invokevirtual 84, 3) := by decide +kernel
theorem dL_law_717 : decode cL_law 717 = .ok (.aload_n 2, 1) := by decide +kernel
theorem dL_law_718 : decode cL_law 718 = .ok (.aload_n 0, 1) := by decide +kernel
theorem dL_law_719 : decode cL_law 719 = .ok (.iload 4, 2) := by decide +kernel
theorem dL_law_721 : decode cL_law 721 = .ok (.iconst 1, 1) := by decide +kernel
theorem dL_law_722 : decode cL_law 722 = .ok (.iadd, 1) := by decide +kernel
theorem dL_law_723 : decode cL_law 723 = .ok (.iaload, 1) := by decide +kernel
theorem dL_law_724 : decode cL_law 724 = .ok (.invokevirtual 87, 3) := by decide +kernel
theorem dL_law_727 : decode cL_law 727 = .ok (.if_icmp .eq 377, 3) := by decide +kernel
theorem dL_law_730 : decode cL_law 730 = .ok (.iconst 0, 1) := by decide +kernel
theorem dL_law_731 : decode cL_law 731 = .ok (.ireturn, 1) := by decide +kernel
theorem dL_law_732 : decode cL_law 732 = .ok (.aload_n 1, 1) := by decide +kernel
theorem dL_law_733 : decode cL_law 733 = .ok (.aload_n 0, 1) := by decide +kernel
theorem dL_law_734 : decode cL_law 734 = .ok (.iload 4, 2) := by decide +kernel
theorem dL_law_736 : decode cL_law 736 = .ok (.iconst 1, 1) := by decide +kernel
theorem dL_law_737 : decode cL_law 737 = .ok (.iadd, 1) := by decide +kernel
theorem dL_law_738 : decode cL_law 738 = .ok (.iaload, 1) := by decide +kernel
theorem dL_law_739 : decode cL_law 739 = .ok (.invokevirtual 88, 3) := by decide +kernel
theorem dL_law_742 : decode cL_law 742 = .ok (.aload_n 2, 1) := by decide +kernel
theorem dL_law_743 : decode cL_law 743 = .ok (.aload_n 0, 1) := by decide +kernel
theorem dL_law_744 : decode cL_law 744 = .ok (.iload 4, 2) := by decide +kernel
theorem dL_law_746 : decode cL_law 746 = .ok (.iconst 1, 1) := by decide +kernel
theorem dL_law_747 : decode cL_law 747 = .ok (.iadd, 1) := by decide +kernel
theorem dL_law_748 : decode cL_law 748 = .ok (.iaload, 1) := by decide +kernel
theorem dL_law_749 : decode cL_law 749 = .ok (.invokevirtual 91, 3) := by decide +kernel
theorem dL_law_752 : decode cL_law 752 = .ok (.if_icmp .eq 352, 3) := by decide +kernel
theorem dL_law_755 : decode cL_law 755 = .ok (.iconst 0, 1) := by decide +kernel
theorem dL_law_756 : decode cL_law 756 = .ok (.ireturn, 1) := by decide +kernel
theorem dL_law_757 : decode cL_law 757 = .ok (.aload_n 1, 1) := by decide +kernel
theorem dL_law_758 : decode cL_law 758 = .ok (.invokevirtual 92, 3) := by decide +kernel
theorem dL_law_761 : decode cL_law 761 = .ok (.aload_n 2, 1) := by decide +kernel
theorem dL_law_762 : decode cL_law 762 = .ok (.invokevirtual 95, 3) := by decide +kernel
theorem dL_law_765 : decode cL_law 765 = .ok (.if_icmp .eq 339, 3) := by decide +kernel
theorem dL_law_768 : decode cL_law 768 = .ok (.iconst 0, 1) := by decide +kernel
theorem dL_law_769 : decode cL_law 769 = .ok (.ireturn, 1) := by decide +kernel
theorem dL_law_770 : decode cL_law 770 = .ok (.aload_n 1, 1) := by decide +kernel
theorem dL_law_771 : decode cL_law 771 = .ok (.aload_n 0, 1) := by decide +kernel
theorem dL_law_772 : decode cL_law 772 = .ok (.iload 4, 2) := by decide +kernel
theorem dL_law_774 : decode cL_law 774 = .ok (.iconst 1, 1) := by decide +kernel
theorem dL_law_775 : decode cL_law 775 = .ok (.iadd, 1) := by decide +kernel
theorem dL_law_776 : decode cL_law 776 = .ok (.iaload, 1) := by decide +kernel
theorem dL_law_777 : decode cL_law 777 = .ok (.aload_n 0, 1) := by decide +kernel
theorem dL_law_778 : decode cL_law 778 = .ok (.iload 4, 2) := by decide +kernel
theorem dL_law_780 : decode cL_law 780 = .ok (.iconst 2, 1) := by decide +kernel
theorem dL_law_781 : decode cL_law 781 = .ok (.iadd, 1) := by decide +kernel
theorem dL_law_782 : decode cL_law 782 = .ok (.iaload, 1) := by decide +kernel
theorem dL_law_783 : decode cL_law 783 = .ok (.invokevirtual 96, 3) := by decide +kernel
theorem dL_law_786 : decode cL_law 786 = .ok (.aload_n 2, 1) := by decide +kernel
theorem dL_law_787 : decode cL_law 787 = .ok (.aload_n 0, 1) := by decide +kernel
theorem dL_law_788 : decode cL_law 788 = .ok (.iload 4, 2) := by decide +kernel
theorem dL_law_790 : decode cL_law 790 = .ok (.iconst 1, 1) := by decide +kernel
theorem dL_law_791 : decode cL_law 791 = .ok (.iadd, 1) := by decide +kernel
theorem dL_law_792 : decode cL_law 792 = .ok (.iaload, 1) := by decide +kernel
theorem dL_law_793 : decode cL_law 793 = .ok (.aload_n 0, 1) := by decide +kernel
theorem dL_law_794 : decode cL_law 794 = .ok (.iload 4, 2) := by decide +kernel
theorem dL_law_796 : decode cL_law 796 = .ok (.iconst 2, 1) := by decide +kernel
theorem dL_law_797 : decode cL_law 797 = .ok (.iadd, 1) := by decide +kernel
theorem dL_law_798 : decode cL_law 798 = .ok (.iaload, 1) := by decide +kernel
theorem dL_law_799 : decode cL_law 799 = .ok (.invokevirtual 99, 3) := by decide +kernel
theorem dL_law_802 : decode cL_law 802 = .ok (.if_icmp .eq 302, 3) := by decide +kernel
theorem dL_law_805 : decode cL_law 805 = .ok (.iconst 0, 1) := by decide +kernel
theorem dL_law_806 : decode cL_law 806 = .ok (.ireturn, 1) := by decide +kernel
theorem dL_law_807 : decode cL_law 807 = .ok (.aload_n 1, 1) := by decide +kernel
theorem dL_law_808 : decode cL_law 808 = .ok (.aload_n 0, 1) := by decide +kernel
theorem dL_law_809 : decode cL_law 809 = .ok (.iload 4, 2) := by decide +kernel
theorem dL_law_811 : decode cL_law 811 = .ok (.iconst 1, 1) := by decide +kernel
theorem dL_law_812 : decode cL_law 812 = .ok (.iadd, 1) := by decide +kernel
theorem dL_law_813 : decode cL_law 813 = .ok (.iaload, 1) := by decide +kernel
theorem dL_law_814 : decode cL_law 814 = .ok (.invokevirtual 100, 3) := by decide +kernel
theorem dL_law_817 : decode cL_law 817 = .ok (.aload_n 2, 1) := by decide +kernel
theorem dL_law_818 : decode cL_law 818 = .ok (.aload_n 0, 1) := by decide +kernel
theorem dL_law_819 : decode cL_law 819 = .ok (.iload 4, 2) := by decide +kernel
theorem dL_law_821 : decode cL_law 821 = .ok (.iconst 1, 1) := by decide +kernel
theorem dL_law_822 : decode cL_law 822 = .ok (.iadd, 1) := by decide +kernel
theorem dL_law_823 : decode cL_law 823 = .ok (.iaload, 1) := by decide +kernel
theorem dL_law_824 : decode cL_law 824 = .ok (.invokevirtual 103, 3) := by decide +kernel
theorem dL_law_827 : decode cL_law 827 = .ok (.if_icmp .eq 277, 3) := by decide +kernel
theorem dL_law_830 : decode cL_law 830 = .ok (.iconst 0, 1) := by decide +kernel
theorem dL_law_831 : decode cL_law 831 = .ok (.ireturn, 1) := by decide +kernel
theorem dL_law_832 : decode cL_law 832 = .ok (.aload_n 1, 1) := by decide +kernel
theorem dL_law_833 : decode cL_law 833 = .ok (.invokevirtual 104, 3) := by decide +kernel
theorem dL_law_836 : decode cL_law 836 = .ok (.aload_n 2, 1) := by decide +kernel
theorem dL_law_837 : decode cL_law 837 = .ok (.invokevirtual 107, 3) := by decide +kernel
theorem dL_law_840 : decode cL_law 840 = .ok (.if_icmp .eq 264, 3) := by decide +kernel
theorem dL_law_843 : decode cL_law 843 = .ok (.iconst 0, 1) := by decide +kernel
theorem dL_law_844 : decode cL_law 844 = .ok (.ireturn, 1) := by decide +kernel
theorem dL_law_845 : decode cL_law 845 = .ok (.aload_n 1, 1) := by decide +kernel
theorem dL_law_846 : decode cL_law 846 = .ok (.invokevirtual 108, 3) := by decide +kernel
theorem dL_law_849 : decode cL_law 849 = .ok (.aload_n 2, 1) := by decide +kernel
theorem dL_law_850 : decode cL_law 850 = .ok (.invokevirtual 111, 3) := by decide +kernel
theorem dL_law_853 : decode cL_law 853 = .ok (.if_icmp .eq 251, 3) := by decide +kernel
theorem dL_law_856 : decode cL_law 856 = .ok (.iconst 0, 1) := by decide +kernel
theorem dL_law_857 : decode cL_law 857 = .ok (.ireturn, 1) := by decide +kernel
theorem dL_law_858 : decode cL_law 858 = .ok (.aload_n 1, 1) := by decide +kernel
theorem dL_law_859 : decode cL_law 859 = .ok (.invokevirtual 112, 3) := by decide +kernel
theorem dL_law_862 : decode cL_law 862 = .ok (.aload_n 2, 1) := by decide +kernel
theorem dL_law_863 : decode cL_law 863 = .ok (.invokevirtual 115, 3) := by decide +kernel
theorem dL_law_866 : decode cL_law 866 = .ok (.if_icmp .eq 238, 3) := by decide +kernel
theorem dL_law_869 : decode cL_law 869 = .ok (.iconst 0, 1) := by decide +kernel
theorem dL_law_870 : decode cL_law 870 = .ok (.ireturn, 1) := by decide +kernel
theorem dL_law_871 : decode cL_law 871 = .ok (.aload_n 1, 1) := by decide +kernel
theorem dL_law_872 : decode cL_law 872 = .ok (.invokevirtual 116, 3) := by decide +kernel
theorem dL_law_875 : decode cL_law 875 = .ok (.aload_n 2, 1) := by decide +kernel
theorem dL_law_876 : decode cL_law 876 = .ok (.invokevirtual 119, 3) := by decide +kernel
theorem dL_law_879 : decode cL_law 879 = .ok (.if_icmp .eq 225, 3) := by decide +kernel
theorem dL_law_882 : decode cL_law 882 = .ok (.iconst 0, 1) := by decide +kernel
theorem dL_law_883 : decode cL_law 883 = .ok (.ireturn, 1) := by decide +kernel
theorem dL_law_884 : decode cL_law 884 = .ok (.aload_n 1, 1) := by decide +kernel
theorem dL_law_885 : decode cL_law 885 = .ok (.aload_n 0, 1) := by decide +kernel
theorem dL_law_886 : decode cL_law 886 = .ok (.iload 4, 2) := by decide +kernel
theorem dL_law_888 : decode cL_law 888 = .ok (.iconst 1, 1) := by decide +kernel
theorem dL_law_889 : decode cL_law 889 = .ok (.iadd, 1) := by decide +kernel
theorem dL_law_890 : decode cL_law 890 = .ok (.iaload, 1) := by decide +kernel
theorem dL_law_891 : decode cL_law 891 = .ok (.invokevirtual 120, 3) := by decide +kernel
theorem dL_law_894 : decode cL_law 894 = .ok (.aload_n 2, 1) := by decide +kernel
theorem dL_law_895 : decode cL_law 895 = .ok (.aload_n 0, 1) := by decide +kernel
theorem dL_law_896 : decode cL_law 896 = .ok (.iload 4, 2) := by decide +kernel
theorem dL_law_898 : decode cL_law 898 = .ok (.iconst 1, 1) := by decide +kernel
theorem dL_law_899 : decode cL_law 899 = .ok (.iadd, 1) := by decide +kernel
theorem dL_law_900 : decode cL_law 900 = .ok (.iaload, 1) := by decide +kernel
theorem dL_law_901 : decode cL_law 901 = .ok (.invokevirtual 123, 3) := by decide +kernel
theorem dL_law_904 : decode cL_law 904 = .ok (.if_icmp .eq 200, 3) := by decide +kernel
theorem dL_law_907 : decode cL_law 907 = .ok (.iconst 0, 1) := by decide +kernel
theorem dL_law_908 : decode cL_law 908 = .ok (.ireturn, 1) := by decide +kernel
theorem dL_law_909 : decode cL_law 909 = .ok (.aload_n 1, 1) := by decide +kernel
theorem dL_law_910 : decode cL_law 910 = .ok (.aload_n 0, 1) := by decide +kernel
theorem dL_law_911 : decode cL_law 911 = .ok (.iload 4, 2) := by decide +kernel
theorem dL_law_913 : decode cL_law 913 = .ok (.iconst 1, 1) := by decide +kernel
theorem dL_law_914 : decode cL_law 914 = .ok (.iadd, 1) := by decide +kernel
theorem dL_law_915 : decode cL_law 915 = .ok (.iaload, 1) := by decide +kernel
theorem dL_law_916 : decode cL_law 916 = .ok (.invokevirtual 124, 3) := by decide +kernel
theorem dL_law_919 : decode cL_law 919 = .ok (.aload_n 2, 1) := by decide +kernel
theorem dL_law_920 : decode cL_law 920 = .ok (.aload_n 0, 1) := by decide +kernel
theorem dL_law_921 : decode cL_law 921 = .ok (.iload 4, 2) := by decide +kernel
theorem dL_law_923 : decode cL_law 923 = .ok (.iconst 1, 1) := by decide +kernel
theorem dL_law_924 : decode cL_law 924 = .ok (.iadd, 1) := by decide +kernel
theorem dL_law_925 : decode cL_law 925 = .ok (.iaload, 1) := by decide +kernel
theorem dL_law_926 : decode cL_law 926 = .ok (.invokevirtual 127, 3) := by decide +kernel
theorem dL_law_929 : decode cL_law 929 = .ok (.if_icmp .eq 175, 3) := by decide +kernel
theorem dL_law_932 : decode cL_law 932 = .ok (.iconst 0, 1) := by decide +kernel
theorem dL_law_933 : decode cL_law 933 = .ok (.ireturn, 1) := by decide +kernel
theorem dL_law_934 : decode cL_law 934 = .ok (.aload_n 1, 1) := by decide +kernel
theorem dL_law_935 : decode cL_law 935 = .ok (.aload_n 0, 1) := by decide +kernel
theorem dL_law_936 : decode cL_law 936 = .ok (.iload 4, 2) := by decide +kernel
theorem dL_law_938 : decode cL_law 938 = .ok (.iconst 1, 1) := by decide +kernel
theorem dL_law_939 : decode cL_law 939 = .ok (.iadd, 1) := by decide +kernel
theorem dL_law_940 : decode cL_law 940 = .ok (.iaload, 1) := by decide +kernel
theorem dL_law_941 : decode cL_law 941 = .ok (.invokevirtual 128, 3) := by decide +kernel
theorem dL_law_944 : decode cL_law 944 = .ok (.aload_n 2, 1) := by decide +kernel
theorem dL_law_945 : decode cL_law 945 = .ok (.aload_n 0, 1) := by decide +kernel
theorem dL_law_946 : decode cL_law 946 = .ok (.iload 4, 2) := by decide +kernel
theorem dL_law_948 : decode cL_law 948 = .ok (.iconst 1, 1) := by decide +kernel
theorem dL_law_949 : decode cL_law 949 = .ok (.iadd, 1) := by decide +kernel
theorem dL_law_950 : decode cL_law 950 = .ok (.iaload, 1) := by decide +kernel
theorem dL_law_951 : decode cL_law 951 = .ok (.invokevirtual 131, 3) := by decide +kernel
theorem dL_law_954 : decode cL_law 954 = .ok (.if_icmp .eq 150, 3) := by decide +kernel
theorem dL_law_957 : decode cL_law 957 = .ok (.iconst 0, 1) := by decide +kernel
theorem dL_law_958 : decode cL_law 958 = .ok (.ireturn, 1) := by decide +kernel
theorem dL_law_959 : decode cL_law 959 = .ok (.aload_n 1, 1) := by decide +kernel
theorem dL_law_960 : decode cL_law 960 = .ok (.invokevirtual 132, 3) := by decide +kernel
theorem dL_law_963 : decode cL_law 963 = .ok (.aload_n 2, 1) := by decide +kernel
theorem dL_law_964 : decode cL_law 964 = .ok (.invokevirtual 135, 3) := by decide +kernel
theorem dL_law_967 : decode cL_law 967 = .ok (.if_icmp .eq 137, 3) := by decide +kernel
theorem dL_law_970 : decode cL_law 970 = .ok (.iconst 0, 1) := by decide +kernel
theorem dL_law_971 : decode cL_law 971 = .ok (.ireturn, 1) := by decide +kernel
theorem dL_law_972 : decode cL_law 972 = .ok (.aload_n 1, 1) := by decide +kernel
theorem dL_law_973 : decode cL_law 973 = .ok (.aload_n 0, 1) := by decide +kernel
theorem dL_law_974 : decode cL_law 974 = .ok (.iload 4, 2) := by decide +kernel
theorem dL_law_976 : decode cL_law 976 = .ok (.iconst 1, 1) := by decide +kernel
theorem dL_law_977 : decode cL_law 977 = .ok (.iadd, 1) := by decide +kernel
theorem dL_law_978 : decode cL_law 978 = .ok (.iaload, 1) := by decide +kernel
theorem dL_law_979 : decode cL_law 979 = .ok (.invokevirtual 136, 3) := by decide +kernel
theorem dL_law_982 : decode cL_law 982 = .ok (.aload_n 2, 1) := by decide +kernel
theorem dL_law_983 : decode cL_law 983 = .ok (.aload_n 0, 1) := by decide +kernel
theorem dL_law_984 : decode cL_law 984 = .ok (.iload 4, 2) := by decide +kernel
theorem dL_law_986 : decode cL_law 986 = .ok (.iconst 1, 1) := by decide +kernel
theorem dL_law_987 : decode cL_law 987 = .ok (.iadd, 1) := by decide +kernel
theorem dL_law_988 : decode cL_law 988 = .ok (.iaload, 1) := by decide +kernel
theorem dL_law_989 : decode cL_law 989 = .ok (.invokevirtual 139, 3) := by decide +kernel
theorem dL_law_992 : decode cL_law 992 = .ok (.if_icmp .eq 112, 3) := by decide +kernel
theorem dL_law_995 : decode cL_law 995 = .ok (.iconst 0, 1) := by decide +kernel
theorem dL_law_996 : decode cL_law 996 = .ok (.ireturn, 1) := by decide +kernel
theorem dL_law_997 : decode cL_law 997 = .ok (.aload_n 1, 1) := by decide +kernel
theorem dL_law_998 : decode cL_law 998 = .ok (.aload_n 0, 1) := by decide +kernel
theorem dL_law_999 : decode cL_law 999 = .ok (.iload 4, 2) := by decide +kernel
theorem dL_law_1001 : decode cL_law 1001 = .ok (.iconst 1, 1) := by decide +kernel
theorem dL_law_1002 : decode cL_law 1002 = .ok (.iadd, 1) := by decide +kernel
theorem dL_law_1003 : decode cL_law 1003 = .ok (.iaload, 1) := by decide +kernel
theorem dL_law_1004 : decode cL_law 1004 = .ok (.aload_n 3, 1) := by decide +kernel
theorem dL_law_1005 : decode cL_law 1005 = .ok (.invokestatic 140, 3) := by decide +kernel
theorem dL_law_1008 : decode cL_law 1008 = .ok (.istore 5, 2) := by decide +kernel
theorem dL_law_1010 : decode cL_law 1010 = .ok (.aload_n 2, 1) := by decide +kernel
theorem dL_law_1011 : decode cL_law 1011 = .ok (.aload_n 0, 1) := by decide +kernel
theorem dL_law_1012 : decode cL_law 1012 = .ok (.iload 4, 2) := by decide +kernel
theorem dL_law_1014 : decode cL_law 1014 = .ok (.iconst 1, 1) := by decide +kernel
theorem dL_law_1015 : decode cL_law 1015 = .ok (.iadd, 1) := by decide +kernel
theorem dL_law_1016 : decode cL_law 1016 = .ok (.iaload, 1) := by decide +kernel
theorem dL_law_1017 : decode cL_law 1017 = .ok (.invokevirtual 145, 3) := by decide +kernel
theorem dL_law_1020 : decode cL_law 1020 = .ok (.istore 6, 2) := by decide +kernel
theorem dL_law_1022 : decode cL_law 1022 = .ok (.aload_n 2, 1) := by decide +kernel
theorem dL_law_1023 : decode cL_law 1023 = .ok (.invokevirtual 146, 3) := by decide +kernel
theorem dL_law_1026 : decode cL_law 1026 = .ok (.iload 5, 2) := by decide +kernel
theorem dL_law_1028 : decode cL_law 1028 = .ok (.if_icmp .eq 5, 3) := by decide +kernel
theorem dL_law_1031 : decode cL_law 1031 = .ok (.iconst 0, 1) := by decide +kernel
theorem dL_law_1032 : decode cL_law 1032 = .ok (.ireturn, 1) := by decide +kernel
theorem dL_law_1033 : decode cL_law 1033 = .ok (.iload 5, 2) := by decide +kernel
theorem dL_law_1035 : decode cL_law 1035 = .ok (.ifCond .ne 15, 3) := by decide +kernel
theorem dL_law_1038 : decode cL_law 1038 = .ok (.aload_n 3, 1) := by decide +kernel
theorem dL_law_1039 : decode cL_law 1039 = .ok (.iconst 0, 1) := by decide +kernel
theorem dL_law_1040 : decode cL_law 1040 = .ok (.laload, 1) := by decide +kernel
theorem dL_law_1041 : decode cL_law 1041 = .ok (.iload 6, 2) := by decide +kernel
theorem dL_law_1043 : decode cL_law 1043 = .ok (.i2l, 1) := by decide +kernel
theorem dL_law_1044 : decode cL_law 1044 = .ok (.lcmp, 1) := by decide +kernel
theorem dL_law_1045 : decode cL_law 1045 = .ok (.ifCond .eq 5, 3) := by decide +kernel
theorem dL_law_1048 : decode cL_law 1048 = .ok (.iconst 0, 1) := by decide +kernel
theorem dL_law_1049 : decode cL_law 1049 = .ok (.ireturn, 1) := by decide +kernel
theorem dL_law_1050 : decode cL_law 1050 = .ok (.goto 54, 3) := by decide +kernel
theorem dL_law_1053 : decode cL_law 1053 = .ok (.aload_n 1, 1) := by decide +kernel
theorem dL_law_1054 : decode cL_law 1054 = .ok (.invokevirtual 149, 3) := by decide +kernel
theorem dL_law_1057 : decode cL_law 1057 = .ok (.aload_n 2, 1) := by decide +kernel
theorem dL_law_1058 : decode cL_law 1058 = .ok (.invokevirtual 152, 3) := by decide +kernel
theorem dL_law_1061 : decode cL_law 1061 = .ok (.if_icmp .eq 43, 3) := by decide +kernel
theorem dL_law_1064 : decode cL_law 1064 = .ok (.iconst 0, 1) := by decide +kernel
theorem dL_law_1065 : decode cL_law 1065 = .ok (.ireturn, 1) := by decide +kernel
theorem dL_law_1066 : decode cL_law 1066 = .ok (.aload_n 1, 1) := by decide +kernel
theorem dL_law_1067 : decode cL_law 1067 = .ok (.aload_n 0, 1) := by decide +kernel
theorem dL_law_1068 : decode cL_law 1068 = .ok (.iload 4, 2) := by decide +kernel
theorem dL_law_1070 : decode cL_law 1070 = .ok (.iconst 1, 1) := by decide +kernel
theorem dL_law_1071 : decode cL_law 1071 = .ok (.iadd, 1) := by decide +kernel
theorem dL_law_1072 : decode cL_law 1072 = .ok (.iaload, 1) := by decide +kernel
theorem dL_law_1073 : decode cL_law 1073 = .ok (.invokevirtual 153, 3) := by decide +kernel
theorem dL_law_1076 : decode cL_law 1076 = .ok (.aload_n 2, 1) := by decide +kernel
theorem dL_law_1077 : decode cL_law 1077 = .ok (.aload_n 0, 1) := by decide +kernel
theorem dL_law_1078 : decode cL_law 1078 = .ok (.iload 4, 2) := by decide +kernel
theorem dL_law_1080 : decode cL_law 1080 = .ok (.iconst 1, 1) := by decide +kernel
theorem dL_law_1081 : decode cL_law 1081 = .ok (.iadd, 1) := by decide +kernel
theorem dL_law_1082 : decode cL_law 1082 = .ok (.iaload, 1) := by decide +kernel
theorem dL_law_1083 : decode cL_law 1083 = .ok (.invokevirtual 156, 3) := by decide +kernel
theorem dL_law_1086 : decode cL_law 1086 = .ok (.if_icmp .eq 18, 3) := by decide +kernel
theorem dL_law_1089 : decode cL_law 1089 = .ok (.iconst 0, 1) := by decide +kernel
theorem dL_law_1090 : decode cL_law 1090 = .ok (.ireturn, 1) := by decide +kernel
theorem dL_law_1091 : decode cL_law 1091 = .ok (.aload_n 1, 1) := by decide +kernel
theorem dL_law_1092 : decode cL_law 1092 = .ok (.invokevirtual 157, 3) := by decide +kernel
theorem dL_law_1095 : decode cL_law 1095 = .ok (.aload_n 2, 1) := by decide +kernel
theorem dL_law_1096 : decode cL_law 1096 = .ok (.invokevirtual 160, 3) := by decide +kernel
theorem dL_law_1099 : decode cL_law 1099 = .ok (.if_icmp .eq 5, 3) := by decide +kernel
theorem dL_law_1102 : decode cL_law 1102 = .ok (.iconst 0, 1) := by decide +kernel
theorem dL_law_1103 : decode cL_law 1103 = .ok (.ireturn, 1) := by decide +kernel
theorem dL_law_1104 : decode cL_law 1104 = .ok (.iinc 4 6, 3) := by decide +kernel
theorem dL_law_1107 : decode cL_law 1107 = .ok (.goto (-1084), 3) := by decide +kernel
theorem dL_law_1110 : decode cL_law 1110 = .ok (.iconst 1, 1) := by decide +kernel
theorem dL_law_1111 : decode cL_law 1111 = .ok (.ireturn, 1) := by decide +kernel
abbrev vwCl : List vw_C := [(RX0, TX0, 19), (RX1, TX1, 9), (RX2, TX2, 6), (RX4, TX4, 4), (RX5, TX5, 4), (RX6, TX6, 7), (RX7, TX7, 15), (RX8, TX8, 7), (RX9, TX9, 13), (RX10, TX10, 22), (RX11, TX11, 8), (RX12, TX12, 56)]
