theorem dX7_readMove_105 : decode cX7_readMove 105 = .ok (.invokestatic 186, 3) := by decide +kernel
theorem dX7_readMove_108 : decode cX7_readMove 108 = .ok (.ifCond .eq 16, 3) := by decide +kernel
theorem dX7_readMove_111 : decode cX7_readMove 111 = .ok (.aload_n 1, 1) := by decide +kernel
theorem dX7_readMove_112 : decode cX7_readMove 112 = .ok (.iload_n 3, 1) := by decide +kernel
theorem dX7_readMove_113 : decode cX7_readMove 113 = .ok (.invokestatic 189, 3) := by decide +kernel
theorem dX7_readMove_116 : decode cX7_readMove 116 = .ok (.iconst (-1), 1) := by decide +kernel
theorem dX7_readMove_117 : decode cX7_readMove 117 = .ok (.if_icmp .lt 7, 3) := by decide +kernel
theorem dX7_readMove_120 : decode cX7_readMove 120 = .ok (.iconst 1, 1) := by decide +kernel
theorem dX7_readMove_121 : decode cX7_readMove 121 = .ok (.goto 4, 3) := by decide +kernel
theorem dX7_readMove_124 : decode cX7_readMove 124 = .ok (.iconst 0, 1) := by decide +kernel
theorem dX7_readMove_125 : decode cX7_readMove 125 = .ok (.invokevirtual 176, 3) := by decide +kernel
theorem dX7_readMove_128 : decode cX7_readMove 128 = .ok (.ifCond .eq 7, 3) := by decide +kernel
theorem dX7_readMove_131 : decode cX7_readMove 131 = .ok (.iconst 1, 1) := by decide +kernel
theorem dX7_readMove_132 : decode cX7_readMove 132 = .ok (.goto 4, 3) := by decide +kernel
theorem dX7_readMove_135 : decode cX7_readMove 135 = .ok (.iconst 0, 1) := by decide +kernel
theorem dX7_readMove_136 : decode cX7_readMove 136 = .ok (.ireturn, 1) := by decide +kernel
theorem dX7_readMove_137 : decode cX7_readMove 137 = .ok (.aload_n 0, 1) := by decide +kernel
theorem dX7_readMove_138 : decode cX7_readMove 138 = .ok (.dup, 1) := by decide +kernel
theorem dX7_readMove_139 : decode cX7_readMove 139 = .ok (.getfield 167, 3) := by decide +kernel
theorem dX7_readMove_142 : decode cX7_readMove 142 = .ok (.iconst 1, 1) := by decide +kernel
theorem dX7_readMove_143 : decode cX7_readMove 143 = .ok (.isub, 1) := by decide +kernel
theorem dX7_readMove_144 : decode cX7_readMove 144 = .ok (.putfield 167, 3) := by decide +kernel
theorem dX7_readMove_147 : decode cX7_readMove 147 = .ok (.iconst 0, 1) := by decide +kernel
theorem dX7_readMove_148 : decode cX7_readMove 148 = .ok (.ireturn, 1) := by decide +kernel
set_option maxRecDepth 20000 in
theorem ggX7_readText_X7_clear : GoodIn wsX7_readText wsX7_clear := goodIn_r _ [8] (by decide +kernel) (by decide +kernel)
set_option maxRecDepth 20000 in
theorem gX7_readText_X7_clear : GoodIn wsX7_readText (va_wsS RX7 32 yX7_clear wsX7_clear) := goodIn_app (goodIn_of _ (by decide +kernel)) ggX7_readText_X7_clear
set_option maxRecDepth 20000 in
theorem ggX7_readText_X7_digit : GoodIn wsX7_readText wsX7_digit := goodIn_r _ [12, 2, 3, 4, 13, 14, 7, 15, 103, 104, 105, 106, 107, 108, 109, 110, 111, 112, 113, 114, 115, 116, 117, 118] (by decide +kernel) (by decide +kernel)
set_option maxRecDepth 20000 in
theorem gX7_readText_X7_digit : GoodIn wsX7_readText (wsV RX7 173 RX7 yX7_digit wsX7_digit) := goodIn_app (goodIn_of _ (by decide +kernel)) ggX7_readText_X7_digit
set_option maxRecDepth 20000 in
theorem ggX7_readText_X7_beginOn : GoodIn wsX7_readText wsX7_beginOn := goodIn_r _ [19, 20, 21, 22, 23, 7, 24, 25, 26, 27, 28, 29, 30, 31, 32, 33, 34, 35, 36, 103, 104, 105, 106, 107, 108, 109, 110, 111, 112, 113, 114, 115, 116, 117, 118] (by decide +kernel) (by decide +kernel)
set_option maxRecDepth 20000 in
theorem gX7_readText_X7_beginOn : GoodIn wsX7_readText (wsV RX7 192 RX7 yX7_beginOn wsX7_beginOn) := goodIn_app (goodIn_of _ (by decide +kernel)) ggX7_readText_X7_beginOn
set_option maxRecDepth 20000 in
theorem ggX7_readText_X7_readMove : GoodIn wsX7_readText wsX7_readMove := goodIn_r _ [40, 4, 2, 41, 42, 43, 7, 44, 3, 9, 10, 11, 12, 13, 14, 15, 45, 46, 47, 48, 49, 50, 51, 52, 53, 54, 55, 56, 25, 26, 27, 57, 58, 59, 60, 61, 62, 63, 64, 65, 66, 67, 68, 69, 70, 71, 72, 73, 74, 75, 76, 77, 78, 79, 80, 81, 82, 83, 84, 85, 86, 87, 1, 88, 89, 90, 91, 92, 93, 34, 35, 36, 94, 95, 96, 97, 98, 99, 100, 101, 102, 103, 104, 105, 106, 107, 108, 109, 110, 111, 112, 113, 114, 115, 116, 117, 118] (by decide +kernel) (by decide +kernel)
set_option maxRecDepth 20000 in
theorem gX7_readText_X7_readMove : GoodIn wsX7_readText (wsV RX7 196 RX7 yX7_readMove wsX7_readMove) := goodIn_app (goodIn_of _ (by decide +kernel)) ggX7_readText_X7_readMove
theorem dX7_readText_0 : decode cX7_readText 0 = .ok (.aload_n 1, 1) := by decide +kernel
theorem dX7_readText_1 : decode cX7_readText 1 = .ok (.invokestatic 32, 3) := by decide +kernel
theorem dX7_readText_4 : decode cX7_readText 4 = .ok (.aload_n 0, 1) := by decide +kernel
theorem dX7_readText_5 : decode cX7_readText 5 = .ok (.iconst 0, 1) := by decide +kernel
theorem dX7_readText_6 : decode cX7_readText 6 = .ok (.putfield 170, 3) := by decide +kernel
theorem dX7_readText_9 : decode cX7_readText 9 = .ok (.aload_n 0, 1) := by decide +kernel
theorem dX7_readText_10 : decode cX7_readText 10 = .ok (.iconst 0, 1) := by decide +kernel
theorem dX7_readText_11 : decode cX7_readText 11 = .ok (.putfield 167, 3) := by decide +kernel
theorem dX7_readText_14 : decode cX7_readText 14 = .ok (.aload_n 0, 1) := by decide +kernel
theorem dX7_readText_15 : decode cX7_readText 15 = .ok (.getfield 160, 3) := by decide +kernel
theorem dX7_readText_18 : decode cX7_readText 18 = .ok (.ifCond .eq 14, 3) := by decide +kernel
theorem dX7_readText_21 : decode cX7_readText 21 = .ok (.aload_n 0, 1) := by decide +kernel
theorem dX7_readText_22 : decode cX7_readText 22 = .ok (.getfield 7, 3) := by decide +kernel
theorem dX7_readText_25 : decode cX7_readText 25 = .ok (.iconst 0, 1) := by decide +kernel
theorem dX7_readText_26 : decode cX7_readText 26 = .ok (.iaload, 1) := by decide +kernel
theorem dX7_readText_27 : decode cX7_readText 27 = .ok (.bipush 73, 2) := by decide +kernel
theorem dX7_readText_29 : decode cX7_readText 29 = .ok (.if_icmp .eq 5, 3) := by decide +kernel
theorem dX7_readText_32 : decode cX7_readText 32 = .ok (.iconst 0, 1) := by decide +kernel
theorem dX7_readText_33 : decode cX7_readText 33 = .ok (.ireturn, 1) := by decide +kernel
theorem dX7_readText_34 : decode cX7_readText 34 = .ok (.aload_n 0, 1) := by decide +kernel
theorem dX7_readText_35 : decode cX7_readText 35 = .ok (.iconst 1, 1) := by decide +kernel
theorem dX7_readText_36 : decode cX7_readText 36 = .ok (.putfield 167, 3) := by decide +kernel
theorem dX7_readText_39 : decode cX7_readText 39 = .ok (.aload_n 0, 1) := by decide +kernel
theorem dX7_readText_40 : decode cX7_readText 40 = .ok (.iconst 2, 1) := by decide +kernel
theorem dX7_readText_41 : decode cX7_readText 41 = .ok (.iconst 4, 1) := by decide +kernel
theorem dX7_readText_42 : decode cX7_readText 42 = .ok (.invokevirtual 173, 3) := by decide +kernel
theorem dX7_readText_45 : decode cX7_readText 45 = .ok (.istore_n 2, 1) := by decide +kernel
theorem dX7_readText_46 : decode cX7_readText 46 = .ok (.iload_n 2, 1) := by decide +kernel
theorem dX7_readText_47 : decode cX7_readText 47 = .ok (.iconst (-1), 1) := by decide +kernel
theorem dX7_readText_48 : decode cX7_readText 48 = .ok (.if_icmp .ne 7, 3) := by decide +kernel
theorem dX7_readText_51 : decode cX7_readText 51 = .ok (.iconst (-1), 1) := by decide +kernel
theorem dX7_readText_52 : decode cX7_readText 52 = .ok (.goto 10, 3) := by decide +kernel
theorem dX7_readText_55 : decode cX7_readText 55 = .ok (.aload_n 0, 1) := by decide +kernel
theorem dX7_readText_56 : decode cX7_readText 56 = .ok (.iconst 0, 1) := by decide +kernel
theorem dX7_readText_57 : decode cX7_readText 57 = .ok (.bipush 9, 2) := by decide +kernel
theorem dX7_readText_59 : decode cX7_readText 59 = .ok (.invokevirtual 173, 3) := by decide +kernel
theorem dX7_readText_62 : decode cX7_readText 62 = .ok (.istore_n 3, 1) := by decide +kernel
theorem dX7_readText_63 : decode cX7_readText 63 = .ok (.iload_n 3, 1) := by decide +kernel
theorem dX7_readText_64 : decode cX7_readText 64 = .ok (.iconst (-1), 1) := by decide +kernel
theorem dX7_readText_65 : decode cX7_readText 65 = .ok (.if_icmp .ne 7, 3) := by decide +kernel
theorem dX7_readText_68 : decode cX7_readText 68 = .ok (.iconst (-1), 1) := by decide +kernel
theorem dX7_readText_69 : decode cX7_readText 69 = .ok (.goto 10, 3) := by decide +kernel
theorem dX7_readText_72 : decode cX7_readText 72 = .ok (.aload_n 0, 1) := by decide +kernel
theorem dX7_readText_73 : decode cX7_readText 73 = .ok (.iconst 0, 1) := by decide +kernel
theorem dX7_readText_74 : decode cX7_readText 74 = .ok (.bipush 9, 2) := by decide +kernel
theorem dX7_readText_76 : decode cX7_readText 76 = .ok (.invokevirtual 173, 3) := by decide +kernel
theorem dX7_readText_79 : decode cX7_readText 79 = .ok (.istore 4, 2) := by decide +kernel
theorem dX7_readText_81 : decode cX7_readText 81 = .ok (.iload 4, 2) := by decide +kernel
theorem dX7_readText_83 : decode cX7_readText 83 = .ok (.iconst (-1), 1) := by decide +kernel
theorem dX7_readText_84 : decode cX7_readText 84 = .ok (.if_icmp .ne 8, 3) := by decide +kernel
theorem dX7_readText_87 : decode cX7_readText 87 = .ok (.aload_n 0, 1) := by decide +kernel
theorem dX7_readText_88 : decode cX7_readText 88 = .ok (.getfield 167, 3) := by decide +kernel
theorem dX7_readText_91 : decode cX7_readText 91 = .ok (.ireturn, 1) := by decide +kernel
theorem dX7_readText_92 : decode cX7_readText 92 = .ok (.aload_n 0, 1) := by decide +kernel
theorem dX7_readText_93 : decode cX7_readText 93 = .ok (.aload_n 1, 1) := by decide +kernel
theorem dX7_readText_94 : decode cX7_readText 94 = .ok (.iload_n 2, 1) := by decide +kernel
theorem dX7_readText_95 : decode cX7_readText 95 = .ok (.bipush 10, 2) := by decide +kernel
theorem dX7_readText_97 : decode cX7_readText 97 = .ok (.iload_n 3, 1) := by decide +kernel
theorem dX7_readText_98 : decode cX7_readText 98 = .ok (.imul, 1) := by decide +kernel
theorem dX7_readText_99 : decode cX7_readText 99 = .ok (.iload 4, 2) := by decide +kernel
theorem dX7_readText_101 : decode cX7_readText 101 = .ok (.iadd, 1) := by decide +kernel
theorem dX7_readText_102 : decode cX7_readText 102 = .ok (.i2l, 1) := by decide +kernel
theorem dX7_readText_103 : decode cX7_readText 103 = .ok (.invokevirtual 192, 3) := by decide +kernel
theorem dX7_readText_106 : decode cX7_readText 106 = .ok (.pop, 1) := by decide +kernel
theorem dX7_readText_107 : decode cX7_readText 107 = .ok (.aload_n 0, 1) := by decide +kernel
theorem dX7_readText_108 : decode cX7_readText 108 = .ok (.getfield 167, 3) := by decide +kernel
theorem dX7_readText_111 : decode cX7_readText 111 = .ok (.aload_n 0, 1) := by decide +kernel
theorem dX7_readText_112 : decode cX7_readText 112 = .ok (.getfield 160, 3) := by decide +kernel
theorem dX7_readText_115 : decode cX7_readText 115 = .ok (.if_icmp .ge 16, 3) := by decide +kernel
theorem dX7_readText_118 : decode cX7_readText 118 = .ok (.aload_n 0, 1) := by decide +kernel
theorem dX7_readText_119 : decode cX7_readText 119 = .ok (.aload_n 1, 1) := by decide +kernel
theorem dX7_readText_120 : decode cX7_readText 120 = .ok (.invokevirtual 196, 3) := by decide +kernel
theorem dX7_readText_123 : decode cX7_readText 123 = .ok (.ifCond .ne (-16), 3) := by decide +kernel
theorem dX7_readText_126 : decode cX7_readText 126 = .ok (.aload_n 0, 1) := by decide +kernel
theorem dX7_readText_127 : decode cX7_readText 127 = .ok (.getfield 167, 3) := by decide +kernel
theorem dX7_readText_130 : decode cX7_readText 130 = .ok (.ireturn, 1) := by decide +kernel
theorem dX7_readText_131 : decode cX7_readText 131 = .ok (.iconst (-1), 1) := by decide +kernel
theorem dX7_readText_132 : decode cX7_readText 132 = .ok (.ireturn, 1) := by decide +kernel
set_option maxRecDepth 20000 in
theorem ggX7_errorPosition_X7_readText : GoodIn wsX7_errorPosition wsX7_readText := goodIn_r _ [7, 8, 9, 10, 11, 12, 13, 6, 14, 15, 16, 17, 18, 19, 20, 21, 22, 23, 24, 25, 26, 27, 28, 29, 30, 31, 32, 33, 34, 35, 36, 37, 38, 39, 40, 41, 42, 43, 44, 45, 46, 47, 48, 49, 50, 51, 52, 53, 54, 55, 56, 57, 58, 59, 60, 61, 62, 63, 64, 65, 66, 67, 68, 69, 70, 71, 72, 73, 74, 75, 76, 77, 78, 79, 80, 81, 82, 83, 84, 85, 86, 87, 88, 89, 90, 91, 92, 93, 94, 95, 96, 97, 98, 99, 100, 101, 102, 103, 104, 105, 106, 107, 108, 109, 110, 111, 112, 113, 114, 115, 116, 117, 118, 119, 120, 121, 122, 123, 124] (by decide +kernel) (by decide +kernel)
set_option maxRecDepth 20000 in
theorem gX7_errorPosition_X7_readText : GoodIn wsX7_errorPosition (wsV RX7 199 RX7 yX7_readText wsX7_readText) := goodIn_app (goodIn_of _ (by decide +kernel)) ggX7_errorPosition_X7_readText
theorem dX7_errorPosition_0 : decode cX7_errorPosition 0 = .ok (.aload_n 0, 1) := by decide +kernel
theorem dX7_errorPosition_1 : decode cX7_errorPosition 1 = .ok (.iconst 0, 1) := by decide +kernel
theorem dX7_errorPosition_2 : decode cX7_errorPosition 2 = .ok (.putfield 36, 3) := by decide +kernel
theorem dX7_errorPosition_5 : decode cX7_errorPosition 5 = .ok (.aload_n 0, 1) := by decide +kernel
theorem dX7_errorPosition_6 : decode cX7_errorPosition 6 = .ok (.aload_n 0, 1) := by decide +kernel
theorem dX7_errorPosition_7 : decode cX7_errorPosition 7 = .ok (.getfield 16, 3) := by decide +kernel
theorem dX7_errorPosition_10 : decode cX7_errorPosition 10 = .ok (.invokevirtual 199, 3) := by decide +kernel
theorem dX7_errorPosition_13 : decode cX7_errorPosition 13 = .ok (.ireturn, 1) := by decide +kernel
set_option maxRecDepth 20000 in
theorem ggX7_load_X7_readText : GoodIn wsX7_load wsX7_readText := goodIn_r _ [10, 5, 11, 12, 13, 14, 15, 9, 16, 17, 18, 19, 20, 21, 22, 23, 24, 25, 26, 27, 28, 29, 30, 31, 32, 33, 34, 35, 36, 37, 38, 39, 40, 41, 42, 43, 44, 45, 46, 47, 48, 49, 50, 51, 52, 53, 54, 55, 56, 57, 58, 59, 60, 61, 62, 63, 64, 65, 66, 67, 68, 69, 70, 71, 72, 73, 74, 75, 76, 77, 78, 79, 80, 81, 82, 83, 84, 85, 86, 87, 88, 89, 90, 91, 92, 93, 94, 95, 96, 97, 98, 99, 100, 101, 102, 103, 104, 105, 106, 107, 108, 109, 110, 119, 120, 121, 122, 123, 124, 125, 126, 127, 128, 129, 130, 131, 132, 133, 134] (by decide +kernel) (by decide +kernel)
set_option maxRecDepth 20000 in
theorem gX7_load_X7_readText : GoodIn wsX7_load (wsV RX7 199 RX7 yX7_readText wsX7_readText) := goodIn_app (goodIn_of _ (by decide +kernel)) ggX7_load_X7_readText
set_option maxRecDepth 20000 in
theorem ggX7_load_X7_refused : GoodIn wsX7_load wsX7_refused := goodIn_r _ [114, 115, 119, 120, 121, 122, 123, 124, 125, 126, 127, 128, 129, 130, 131, 132, 133, 134] (by decide +kernel) (by decide +kernel)
set_option maxRecDepth 20000 in
theorem gX7_load_X7_refused : GoodIn wsX7_load (wsV RX7 163 RX7 yX7_refused wsX7_refused) := goodIn_app (goodIn_of _ (by decide +kernel)) ggX7_load_X7_refused
set_option maxRecDepth 20000 in
theorem ggX7_load_X7_copyState : GoodIn wsX7_load wsX7_copyState := goodIn_r _ [118] (by decide +kernel) (by decide +kernel)
set_option maxRecDepth 20000 in
theorem gX7_load_X7_copyState : GoodIn wsX7_load (va_wsS RX7 117 yX7_copyState wsX7_copyState) := goodIn_app (goodIn_of _ (by decide +kernel)) ggX7_load_X7_copyState
theorem dX7_load_0 : decode cX7_load 0 = .ok (.aload_n 0, 1) := by decide +kernel
theorem dX7_load_1 : decode cX7_load 1 = .ok (.aload_n 0, 1) := by decide +kernel
theorem dX7_load_2 : decode cX7_load 2 = .ok (.aload_n 0, 1) := by decide +kernel
theorem dX7_load_3 : decode cX7_load 3 = .ok (.getfield 16, 3) := by decide +kernel
theorem dX7_load_6 : decode cX7_load 6 = .ok (.invokevirtual 199, 3) := by decide +kernel
theorem dX7_load_9 : decode cX7_load 9 = .ok (.iconst (-1), 1) := by decide +kernel
theorem dX7_load_10 : decode cX7_load 10 = .ok (.if_icmp .ne 7, 3) := by decide +kernel
theorem dX7_load_13 : decode cX7_load 13 = .ok (.iconst 0, 1) := by decide +kernel
theorem dX7_load_14 : decode cX7_load 14 = .ok (.goto 4, 3) := by decide +kernel
theorem dX7_load_17 : decode cX7_load 17 = .ok (.iconst 1, 1) := by decide +kernel
theorem dX7_load_18 : decode cX7_load 18 = .ok (.invokevirtual 163, 3) := by decide +kernel
theorem dX7_load_21 : decode cX7_load 21 = .ok (.ifCond .eq 5, 3) := by decide +kernel
theorem dX7_load_24 : decode cX7_load 24 = .ok (.iconst 0, 1) := by decide +kernel
theorem dX7_load_25 : decode cX7_load 25 = .ok (.ireturn, 1) := by decide +kernel
theorem dX7_load_26 : decode cX7_load 26 = .ok (.aload_n 0, 1) := by decide +kernel
theorem dX7_load_27 : decode cX7_load 27 = .ok (.getfield 16, 3) := by decide +kernel
theorem dX7_load_30 : decode cX7_load 30 = .ok (.iconst 0, 1) := by decide +kernel
theorem dX7_load_31 : decode cX7_load 31 = .ok (.aload_n 0, 1) := by decide +kernel
theorem dX7_load_32 : decode cX7_load 32 = .ok (.getfield 13, 3) := by decide +kernel
theorem dX7_load_35 : decode cX7_load 35 = .ok (.iconst 0, 1) := by decide +kernel
theorem dX7_load_36 : decode cX7_load 36 = .ok (.invokestatic 117, 3) := by decide +kernel
theorem dX7_load_39 : decode cX7_load 39 = .ok (.aload_n 0, 1) := by decide +kernel
theorem dX7_load_40 : decode cX7_load 40 = .ok (.iconst 0, 1) := by decide +kernel
theorem dX7_load_41 : decode cX7_load 41 = .ok (.putfield 203, 3) := by decide +kernel
theorem dX7_load_44 : decode cX7_load 44 = .ok (.aload_n 0, 1) := by decide +kernel
theorem dX7_load_45 : decode cX7_load 45 = .ok (.getfield 28, 3) := by decide +kernel
theorem dX7_load_48 : decode cX7_load 48 = .ok (.iconst 0, 1) := by decide +kernel
theorem dX7_load_49 : decode cX7_load 49 = .ok (.iconst 0, 1) := by decide +kernel
theorem dX7_load_50 : decode cX7_load 50 = .ok (.bastore, 1) := by decide +kernel
theorem dX7_load_51 : decode cX7_load 51 = .ok (.aload_n 0, 1) := by decide +kernel
theorem dX7_load_52 : decode cX7_load 52 = .ok (.getfield 28, 3) := by decide +kernel
theorem dX7_load_55 : decode cX7_load 55 = .ok (.iconst 1, 1) := by decide +kernel
theorem dX7_load_56 : decode cX7_load 56 = .ok (.iconst 0, 1) := by decide +kernel
theorem dX7_load_57 : decode cX7_load 57 = .ok (.bastore, 1) := by decide +kernel
theorem dX7_load_58 : decode cX7_load 58 = .ok (.aload_n 0, 1) := by decide +kernel
theorem dX7_load_59 : decode cX7_load 59 = .ok (.getfield 170, 3) := by decide +kernel
theorem dX7_load_62 : decode cX7_load 62 = .ok (.ireturn, 1) := by decide +kernel
set_option maxRecDepth 20000 in
theorem ggX7_about_X7_in : GoodIn wsX7_about wsX7_in := goodIn_r _ [6] (by decide +kernel) (by decide +kernel)
set_option maxRecDepth 20000 in
theorem gX7_about_X7_in : GoodIn wsX7_about (va_wsS RX7 40 yX7_in wsX7_in) := goodIn_app (goodIn_of _ (by decide +kernel)) ggX7_about_X7_in
set_option maxRecDepth 20000 in
theorem ggX7_about_X7_refused : GoodIn wsX7_about wsX7_refused := goodIn_r _ [10, 11, 12, 13, 14, 15, 16, 17, 18, 19, 20, 21, 22, 23, 24, 25, 26, 27] (by decide +kernel) (by decide +kernel)
set_option maxRecDepth 20000 in
theorem gX7_about_X7_refused : GoodIn wsX7_about (wsV RX7 163 RX7 yX7_refused wsX7_refused) := goodIn_app (goodIn_of _ (by decide +kernel)) ggX7_about_X7_refused
theorem dX7_about_0 : decode cX7_about 0 = .ok (.aload_n 0, 1) := by decide +kernel
theorem dX7_about_1 : decode cX7_about 1 = .ok (.iload_n 1, 1) := by decide +kernel
theorem dX7_about_2 : decode cX7_about 2 = .ok (.i2l, 1) := by decide +kernel
theorem dX7_about_3 : decode cX7_about 3 = .ok (.lconst 0, 1) := by decide +kernel
theorem dX7_about_4 : decode cX7_about 4 = .ok (.ldc2_w 46, 3) := by decide +kernel
theorem dX7_about_7 : decode cX7_about 7 = .ok (.invokestatic 40, 3) := by decide +kernel
theorem dX7_about_10 : decode cX7_about 10 = .ok (.ifCond .eq 7, 3) := by decide +kernel
theorem dX7_about_13 : decode cX7_about 13 = .ok (.iconst 0, 1) := by decide +kernel
theorem dX7_about_14 : decode cX7_about 14 = .ok (.goto 4, 3) := by decide +kernel
theorem dX7_about_17 : decode cX7_about 17 = .ok (.iconst 1, 1) := by decide +kernel
theorem dX7_about_18 : decode cX7_about 18 = .ok (.invokevirtual 163, 3) := by decide +kernel
theorem dX7_about_21 : decode cX7_about 21 = .ok (.ifCond .eq 5, 3) := by decide +kernel
theorem dX7_about_24 : decode cX7_about 24 = .ok (.iconst 0, 1) := by decide +kernel
theorem dX7_about_25 : decode cX7_about 25 = .ok (.ireturn, 1) := by decide +kernel
theorem dX7_about_26 : decode cX7_about 26 = .ok (.iload_n 1, 1) := by decide +kernel
theorem dX7_about_27 : decode cX7_about 27 = .ok (.iconst 1, 1) := by decide +kernel
theorem dX7_about_28 : decode cX7_about 28 = .ok (.if_icmp .ne 17, 3) := by decide +kernel
theorem dX7_about_31 : decode cX7_about 31 = .ok (.aload_n 0, 1) := by decide +kernel
theorem dX7_about_32 : decode cX7_about 32 = .ok (.getfield 13, 3) := by decide +kernel
theorem dX7_about_35 : decode cX7_about 35 = .ok (.iconst 4, 1) := by decide +kernel
theorem dX7_about_36 : decode cX7_about 36 = .ok (.iaload, 1) := by decide +kernel
theorem dX7_about_37 : decode cX7_about 37 = .ok (.iconst 1, 1) := by decide +kernel
theorem dX7_about_38 : decode cX7_about 38 = .ok (.if_icmp .ne 7, 3) := by decide +kernel
theorem dX7_about_41 : decode cX7_about 41 = .ok (.iconst (-1), 1) := by decide +kernel
theorem dX7_about_42 : decode cX7_about 42 = .ok (.goto 9, 3) := by decide +kernel
theorem dX7_about_45 : decode cX7_about 45 = .ok (.aload_n 0, 1) := by decide +kernel
theorem dX7_about_46 : decode cX7_about 46 = .ok (.getfield 13, 3) := by decide +kernel
theorem dX7_about_49 : decode cX7_about 49 = .ok (.iload_n 1, 1) := by decide +kernel
theorem dX7_about_50 : decode cX7_about 50 = .ok (.iaload, 1) := by decide +kernel
theorem dX7_about_51 : decode cX7_about 51 = .ok (.ireturn, 1) := by decide +kernel
set_option maxRecDepth 20000 in
theorem ggX7_tile_X7_isPlayer : GoodIn wsX7_tile wsX7_isPlayer := goodIn_r _ [6, 7, 8, 5, 9] (by decide +kernel) (by decide +kernel)
set_option maxRecDepth 20000 in
theorem gX7_tile_X7_isPlayer : GoodIn wsX7_tile (va_wsS RX7 100 yX7_isPlayer wsX7_isPlayer) := goodIn_app (goodIn_of _ (by decide +kernel)) ggX7_tile_X7_isPlayer
set_option maxRecDepth 20000 in
theorem ggX7_tile_X7_isPlace : GoodIn wsX7_tile wsX7_isPlace := goodIn_r _ [12, 13, 7, 8, 5, 9] (by decide +kernel) (by decide +kernel)
set_option maxRecDepth 20000 in
theorem gX7_tile_X7_isPlace : GoodIn wsX7_tile (va_wsS RX7 206 yX7_isPlace wsX7_isPlace) := goodIn_app (goodIn_of _ (by decide +kernel)) ggX7_tile_X7_isPlace
set_option maxRecDepth 20000 in
theorem ggX7_tile_X7_in : GoodIn wsX7_tile wsX7_in := goodIn_r _ [9] (by decide +kernel) (by decide +kernel)
set_option maxRecDepth 20000 in
theorem gX7_tile_X7_in : GoodIn wsX7_tile (va_wsS RX7 40 yX7_in wsX7_in) := goodIn_app (goodIn_of _ (by decide +kernel)) ggX7_tile_X7_in
set_option maxRecDepth 20000 in
theorem ggX7_tile_X7_refused : GoodIn wsX7_tile wsX7_refused := goodIn_r _ [17, 18, 22, 23, 24, 25, 26, 27, 28, 29, 30, 31, 32, 33, 34, 35, 36, 37] (by decide +kernel) (by decide +kernel)
set_option maxRecDepth 20000 in
theorem gX7_tile_X7_refused : GoodIn wsX7_tile (wsV RX7 163 RX7 yX7_refused wsX7_refused) := goodIn_app (goodIn_of _ (by decide +kernel)) ggX7_tile_X7_refused
set_option maxRecDepth 20000 in
theorem ggX7_tile_X7_at : GoodIn wsX7_tile wsX7_at := goodIn_r _ [21] (by decide +kernel) (by decide +kernel)
set_option maxRecDepth 20000 in
theorem gX7_tile_X7_at : GoodIn wsX7_tile (va_wsS RX7 56 yX7_at wsX7_at) := goodIn_app (goodIn_of _ (by decide +kernel)) ggX7_tile_X7_at
theorem dX7_tile_0 : decode cX7_tile 0 = .ok (.aload_n 0, 1) := by decide +kernel
theorem dX7_tile_1 : decode cX7_tile 1 = .ok (.aload_n 0, 1) := by decide +kernel
theorem dX7_tile_2 : decode cX7_tile 2 = .ok (.getfield 13, 3) := by decide +kernel
theorem dX7_tile_5 : decode cX7_tile 5 = .ok (.iload_n 1, 1) := by decide +kernel
theorem dX7_tile_6 : decode cX7_tile 6 = .ok (.invokestatic 100, 3) := by decide +kernel
theorem dX7_tile_9 : decode cX7_tile 9 = .ok (.ifCond .eq 10, 3) := by decide +kernel
theorem dX7_tile_12 : decode cX7_tile 12 = .ok (.iload_n 2, 1) := by decide +kernel
theorem dX7_tile_13 : decode cX7_tile 13 = .ok (.invokestatic 206, 3) := by decide +kernel
theorem dX7_tile_16 : decode cX7_tile 16 = .ok (.ifCond .ne 7, 3) := by decide +kernel
theorem dX7_tile_19 : decode cX7_tile 19 = .ok (.iconst 1, 1) := by decide +kernel
theorem dX7_tile_20 : decode cX7_tile 20 = .ok (.goto 20, 3) := by decide +kernel
theorem dX7_tile_23 : decode cX7_tile 23 = .ok (.iload_n 3, 1) := by decide +kernel
theorem dX7_tile_24 : decode cX7_tile 24 = .ok (.i2l, 1) := by decide +kernel
theorem dX7_tile_25 : decode cX7_tile 25 = .ok (.lconst 0, 1) := by decide +kernel
theorem dX7_tile_26 : decode cX7_tile 26 = .ok (.ldc2_w 152, 3) := by decide +kernel
theorem dX7_tile_29 : decode cX7_tile 29 = .ok (.invokestatic 40, 3) := by decide +kernel
theorem dX7_tile_32 : decode cX7_tile 32 = .ok (.ifCond .eq 7, 3) := by decide +kernel
theorem dX7_tile_35 : decode cX7_tile 35 = .ok (.iconst 0, 1) := by decide +kernel
theorem dX7_tile_36 : decode cX7_tile 36 = .ok (.goto 4, 3) := by decide +kernel
theorem dX7_tile_39 : decode cX7_tile 39 = .ok (.iconst 2, 1) := by decide +kernel
theorem dX7_tile_40 : decode cX7_tile 40 = .ok (.invokevirtual 163, 3) := by decide +kernel
theorem dX7_tile_43 : decode cX7_tile 43 = .ok (.ifCond .eq 5, 3) := by decide +kernel
theorem dX7_tile_46 : decode cX7_tile 46 = .ok (.iconst 0, 1) := by decide +kernel
theorem dX7_tile_47 : decode cX7_tile 47 = .ok (.ireturn, 1) := by decide +kernel
theorem dX7_tile_48 : decode cX7_tile 48 = .ok (.iload_n 3, 1) := by decide +kernel
theorem dX7_tile_49 : decode cX7_tile 49 = .ok (.ifCond .ne 19, 3) := by decide +kernel
theorem dX7_tile_52 : decode cX7_tile 52 = .ok (.aload_n 0, 1) := by decide +kernel
theorem dX7_tile_53 : decode cX7_tile 53 = .ok (.getfield 13, 3) := by decide +kernel
theorem dX7_tile_56 : decode cX7_tile 56 = .ok (.iload_n 1, 1) := by decide +kernel
theorem dX7_tile_57 : decode cX7_tile 57 = .ok (.invokestatic 56, 3) := by decide +kernel
theorem dX7_tile_60 : decode cX7_tile 60 = .ok (.iconst 0, 1) := by decide +kernel
theorem dX7_tile_61 : decode cX7_tile 61 = .ok (.iadd, 1) := by decide +kernel
theorem dX7_tile_62 : decode cX7_tile 62 = .ok (.iload_n 2, 1) := by decide +kernel
theorem dX7_tile_63 : decode cX7_tile 63 = .ok (.iadd, 1) := by decide +kernel
theorem dX7_tile_64 : decode cX7_tile 64 = .ok (.iaload, 1) := by decide +kernel
theorem dX7_tile_65 : decode cX7_tile 65 = .ok (.goto 46, 3) := by decide +kernel
theorem dX7_tile_68 : decode cX7_tile 68 = .ok (.iload_n 3, 1) := by decide +kernel
theorem dX7_tile_69 : decode cX7_tile 69 = .ok (.iconst 1, 1) := by decide +kernel
theorem dX7_tile_70 : decode cX7_tile 70 = .ok (.if_icmp .ne 20, 3) := by decide +kernel
theorem dX7_tile_73 : decode cX7_tile 73 = .ok (.aload_n 0, 1) := by decide +kernel
theorem dX7_tile_74 : decode cX7_tile 74 = .ok (.getfield 13, 3) := by decide +kernel
theorem dX7_tile_77 : decode cX7_tile 77 = .ok (.iload_n 1, 1) := by decide +kernel
theorem dX7_tile_78 : decode cX7_tile 78 = .ok (.invokestatic 56, 3) := by decide +kernel
theorem dX7_tile_81 : decode cX7_tile 81 = .ok (.bipush 9, 2) := by decide +kernel
theorem dX7_tile_83 : decode cX7_tile 83 = .ok (.iadd, 1) := by decide +kernel
theorem dX7_tile_84 : decode cX7_tile 84 = .ok (.iload_n 2, 1) := by decide +kernel
theorem dX7_tile_85 : decode cX7_tile 85 = .ok (.iadd, 1) := by decide +kernel
theorem dX7_tile_86 : decode cX7_tile 86 = .ok (.iaload, 1) := by decide +kernel
theorem dX7_tile_87 : decode cX7_tile 87 = .ok (.goto 24, 3) := by decide +kernel
theorem dX7_tile_90 : decode cX7_tile 90 = .ok (.aload_n 0, 1) := by decide +kernel
theorem dX7_tile_91 : decode cX7_tile 91 = .ok (.getfield 13, 3) := by decide +kernel
theorem dX7_tile_94 : decode cX7_tile 94 = .ok (.iload_n 1, 1) := by decide +kernel
theorem dX7_tile_95 : decode cX7_tile 95 = .ok (.invokestatic 56, 3) := by decide +kernel
theorem dX7_tile_98 : decode cX7_tile 98 = .ok (.bipush 24, 2) := by decide +kernel
theorem dX7_tile_100 : decode cX7_tile 100 = .ok (.iadd, 1) := by decide +kernel
theorem dX7_tile_101 : decode cX7_tile 101 = .ok (.iaload, 1) := by decide +kernel
theorem dX7_tile_102 : decode cX7_tile 102 = .ok (.iload_n 2, 1) := by decide +kernel
theorem dX7_tile_103 : decode cX7_tile 103 = .ok (.if_icmp .ne 7, 3) := by decide +kernel
theorem dX7_tile_106 : decode cX7_tile 106 = .ok (.iconst 1, 1) := by decide +kernel
theorem dX7_tile_107 : decode cX7_tile 107 = .ok (.goto 4, 3) := by decide +kernel
theorem dX7_tile_110 : decode cX7_tile 110 = .ok (.iconst 0, 1) := by decide +kernel
theorem dX7_tile_111 : decode cX7_tile 111 = .ok (.ireturn, 1) := by decide +kernel
set_option maxRecDepth 20000 in
theorem ggX7_player_X7_isPlayer : GoodIn wsX7_player wsX7_isPlayer := goodIn_r _ [6, 7, 8, 5, 9] (by decide +kernel) (by decide +kernel)
set_option maxRecDepth 20000 in
theorem gX7_player_X7_isPlayer : GoodIn wsX7_player (va_wsS RX7 100 yX7_isPlayer wsX7_isPlayer) := goodIn_app (goodIn_of _ (by decide +kernel)) ggX7_player_X7_isPlayer
set_option maxRecDepth 20000 in
theorem ggX7_player_X7_in : GoodIn wsX7_player wsX7_in := goodIn_r _ [9] (by decide +kernel) (by decide +kernel)
set_option maxRecDepth 20000 in
theorem gX7_player_X7_in : GoodIn wsX7_player (va_wsS RX7 40 yX7_in wsX7_in) := goodIn_app (goodIn_of _ (by decide +kernel)) ggX7_player_X7_in
set_option maxRecDepth 20000 in
theorem ggX7_player_X7_refused : GoodIn wsX7_player wsX7_refused := goodIn_r _ [13, 14, 39, 40, 41, 42, 43, 44, 45, 46, 47, 48, 49, 50, 51, 52, 53, 54] (by decide +kernel) (by decide +kernel)
set_option maxRecDepth 20000 in
theorem gX7_player_X7_refused : GoodIn wsX7_player (wsV RX7 163 RX7 yX7_refused wsX7_refused) := goodIn_app (goodIn_of _ (by decide +kernel)) ggX7_player_X7_refused
set_option maxRecDepth 20000 in
theorem ggX7_player_X7_at : GoodIn wsX7_player wsX7_at := goodIn_r _ [17] (by decide +kernel) (by decide +kernel)
set_option maxRecDepth 20000 in
theorem gX7_player_X7_at : GoodIn wsX7_player (va_wsS RX7 56 yX7_at wsX7_at) := goodIn_app (goodIn_of _ (by decide +kernel)) ggX7_player_X7_at
set_option maxRecDepth 20000 in
theorem ggX7_player_X7_sought : GoodIn wsX7_player wsX7_sought := goodIn_r _ [20, 15, 16, 5, 17] (by decide +kernel) (by decide +kernel)
set_option maxRecDepth 20000 in
theorem gX7_player_X7_sought : GoodIn wsX7_player (va_wsS RX7 67 yX7_sought wsX7_sought) := goodIn_app (goodIn_of _ (by decide +kernel)) ggX7_player_X7_sought
set_option maxRecDepth 20000 in
theorem ggX7_player_X7_placeOfSought : GoodIn wsX7_player wsX7_placeOfSought := goodIn_r _ [23, 18, 19, 5, 20, 15, 16, 17] (by decide +kernel) (by decide +kernel)
set_option maxRecDepth 20000 in
theorem gX7_player_X7_placeOfSought : GoodIn wsX7_player (va_wsS RX7 82 yX7_placeOfSought wsX7_placeOfSought) := goodIn_app (goodIn_of _ (by decide +kernel)) ggX7_player_X7_placeOfSought
set_option maxRecDepth 20000 in
theorem ggX7_player_X7_reachable : GoodIn wsX7_player wsX7_reachable := goodIn_r _ [26, 27, 28, 5, 29, 15, 16, 17, 30, 31, 32, 33, 34, 35] (by decide +kernel) (by decide +kernel)
set_option maxRecDepth 20000 in
theorem gX7_player_X7_reachable : GoodIn wsX7_player (va_wsS RX7 85 yX7_reachable wsX7_reachable) := goodIn_app (goodIn_of _ (by decide +kernel)) ggX7_player_X7_reachable
set_option maxRecDepth 20000 in
theorem ggX7_player_X7_canTake : GoodIn wsX7_player wsX7_canTake := goodIn_r _ [38, 21, 22, 5, 23, 18, 19, 20, 15, 16, 17, 24, 25, 26, 27, 28, 29, 30, 31, 32, 33, 34, 35] (by decide +kernel) (by decide +kernel)
set_option maxRecDepth 20000 in
theorem gX7_player_X7_canTake : GoodIn wsX7_player (va_wsS RX7 121 yX7_canTake wsX7_canTake) := goodIn_app (goodIn_of _ (by decide +kernel)) ggX7_player_X7_canTake
theorem dX7_player_0 : decode cX7_player 0 = .ok (.aload_n 0, 1) := by decide +kernel
theorem dX7_player_1 : decode cX7_player 1 = .ok (.aload_n 0, 1) := by decide +kernel
theorem dX7_player_2 : decode cX7_player 2 = .ok (.getfield 13, 3) := by decide +kernel
theorem dX7_player_5 : decode cX7_player 5 = .ok (.iload_n 1, 1) := by decide +kernel
theorem dX7_player_6 : decode cX7_player 6 = .ok (.invokestatic 100, 3) := by decide +kernel
theorem dX7_player_9 : decode cX7_player 9 = .ok (.ifCond .ne 7, 3) := by decide +kernel
theorem dX7_player_12 : decode cX7_player 12 = .ok (.iconst 1, 1) := by decide +kernel
theorem dX7_player_13 : decode cX7_player 13 = .ok (.goto 20, 3) := by decide +kernel
theorem dX7_player_16 : decode cX7_player 16 = .ok (.iload_n 2, 1) := by decide +kernel
theorem dX7_player_17 : decode cX7_player 17 = .ok (.i2l, 1) := by decide +kernel
theorem dX7_player_18 : decode cX7_player 18 = .ok (.lconst 0, 1) := by decide +kernel
theorem dX7_player_19 : decode cX7_player 19 = .ok (.ldc2_w 44, 3) := by decide +kernel
theorem dX7_player_22 : decode cX7_player 22 = .ok (.invokestatic 40, 3) := by decide +kernel
theorem dX7_player_25 : decode cX7_player 25 = .ok (.ifCond .eq 7, 3) := by decide +kernel
theorem dX7_player_28 : decode cX7_player 28 = .ok (.iconst 0, 1) := by decide +kernel
theorem dX7_player_29 : decode cX7_player 29 = .ok (.goto 4, 3) := by decide +kernel
theorem dX7_player_32 : decode cX7_player 32 = .ok (.iconst 2, 1) := by decide +kernel
theorem dX7_player_33 : decode cX7_player 33 = .ok (.invokevirtual 163, 3) := by decide +kernel
theorem dX7_player_36 : decode cX7_player 36 = .ok (.ifCond .eq 5, 3) := by decide +kernel
theorem dX7_player_39 : decode cX7_player 39 = .ok (.iconst 0, 1) := by decide +kernel
theorem dX7_player_40 : decode cX7_player 40 = .ok (.ireturn, 1) := by decide +kernel
theorem dX7_player_41 : decode cX7_player 41 = .ok (.iload_n 2, 1) := by decide +kernel
theorem dX7_player_42 : decode cX7_player 42 = .ok (.tableswitch 120 0 8 #[50, 63, 76, 85, 120, 120, 120, 94, 103], 50) := by decide +kernel
theorem dX7_player_92 : decode cX7_player 92 = .ok (.aload_n 0, 1) := by decide +kernel
theorem dX7_player_93 : decode cX7_player 93 = .ok (.getfield 13, 3) := by decide +kernel
theorem dX7_player_96 : decode cX7_player 96 = .ok (.iload_n 1, 1) := by decide +kernel
theorem dX7_player_97 : decode cX7_player 97 = .ok (.invokestatic 56, 3) := by decide +kernel
theorem dX7_player_100 : decode cX7_player 100 = .ok (.bipush 24, 2) := by decide +kernel
theorem dX7_player_102 : decode cX7_player 102 = .ok (.iadd, 1) := by decide +kernel
theorem dX7_player_103 : decode cX7_player 103 = .ok (.iaload, 1) := by decide +kernel
theorem dX7_player_104 : decode cX7_player 104 = .ok (.ireturn, 1) := by decide +kernel
theorem dX7_player_105 : decode cX7_player 105 = .ok (.aload_n 0, 1) := by decide +kernel
theorem dX7_player_106 : decode cX7_player 106 = .ok (.getfield 13, 3) := by decide +kernel
theorem dX7_player_109 : decode cX7_player 109 = .ok (.iload_n 1, 1) := by decide +kernel
theorem dX7_player_110 : decode cX7_player 110 = .ok (.invokestatic 56, 3) := by decide +kernel
theorem dX7_player_113 : decode cX7_player 113 = .ok (.bipush 23, 2) := by decide +kernel
theorem dX7_player_115 : decode cX7_player 115 = .ok (.iadd, 1) := by decide +kernel
theorem dX7_player_116 : decode cX7_player 116 = .ok (.iaload, 1) := by decide +kernel
theorem dX7_player_117 : decode cX7_player 117 = .ok (.ireturn, 1) := by decide +kernel
theorem dX7_player_118 : decode cX7_player 118 = .ok (.aload_n 0, 1) := by decide +kernel
theorem dX7_player_119 : decode cX7_player 119 = .ok (.getfield 13, 3) := by decide +kernel
theorem dX7_player_122 : decode cX7_player 122 = .ok (.iload_n 1, 1) := by decide +kernel
theorem dX7_player_123 : decode cX7_player 123 = .ok (.invokestatic 67, 3) := by decide +kernel
theorem dX7_player_126 : decode cX7_player 126 = .ok (.ireturn, 1) := by decide +kernel
theorem dX7_player_127 : decode cX7_player 127 = .ok (.aload_n 0, 1) := by decide +kernel
theorem dX7_player_128 : decode cX7_player 128 = .ok (.getfield 13, 3) := by decide +kernel
theorem dX7_player_131 : decode cX7_player 131 = .ok (.iload_n 1, 1) := by decide +kernel
theorem dX7_player_132 : decode cX7_player 132 = .ok (.invokestatic 82, 3) := by decide +kernel
theorem dX7_player_135 : decode cX7_player 135 = .ok (.ireturn, 1) := by decide +kernel
theorem dX7_player_136 : decode cX7_player 136 = .ok (.aload_n 0, 1) := by decide +kernel
theorem dX7_player_137 : decode cX7_player 137 = .ok (.getfield 13, 3) := by decide +kernel
theorem dX7_player_140 : decode cX7_player 140 = .ok (.iload_n 1, 1) := by decide +kernel
theorem dX7_player_141 : decode cX7_player 141 = .ok (.invokestatic 85, 3) := by decide +kernel
theorem dX7_player_144 : decode cX7_player 144 = .ok (.ireturn, 1) := by decide +kernel
theorem dX7_player_145 : decode cX7_player 145 = .ok (.aload_n 0, 1) := by decide +kernel
theorem dX7_player_146 : decode cX7_player 146 = .ok (.getfield 13, 3) := by decide +kernel
theorem dX7_player_149 : decode cX7_player 149 = .ok (.iload_n 1, 1) := by decide +kernel
theorem dX7_player_150 : decode cX7_player 150 = .ok (.invokestatic 121, 3) := by decide +kernel
theorem dX7_player_153 : decode cX7_player 153 = .ok (.ifCond .eq 7, 3) := by decide +kernel
theorem dX7_player_156 : decode cX7_player 156 = .ok (.iconst 1, 1) := by decide +kernel
theorem dX7_player_157 : decode cX7_player 157 = .ok (.goto 4, 3) := by decide +kernel
theorem dX7_player_160 : decode cX7_player 160 = .ok (.iconst 0, 1) := by decide +kernel
theorem dX7_player_161 : decode cX7_player 161 = .ok (.ireturn, 1) := by decide +kernel
theorem dX7_player_162 : decode cX7_player 162 = .ok (.aload_n 0, 1) := by decide +kernel
theorem dX7_player_163 : decode cX7_player 163 = .ok (.getfield 13, 3) := by decide +kernel
theorem dX7_player_166 : decode cX7_player 166 = .ok (.iload_n 1, 1) := by decide +kernel
theorem dX7_player_167 : decode cX7_player 167 = .ok (.invokestatic 56, 3) := by decide +kernel
theorem dX7_player_170 : decode cX7_player 170 = .ok (.bipush 25, 2) := by decide +kernel
theorem dX7_player_172 : decode cX7_player 172 = .ok (.iadd, 1) := by decide +kernel
theorem dX7_player_173 : decode cX7_player 173 = .ok (.iload_n 2, 1) := by decide +kernel
theorem dX7_player_174 : decode cX7_player 174 = .ok (.iadd, 1) := by decide +kernel
theorem dX7_player_175 : decode cX7_player 175 = .ok (.iconst 4, 1) := by decide +kernel
theorem dX7_player_176 : decode cX7_player 176 = .ok (.isub, 1) := by decide +kernel
theorem dX7_player_177 : decode cX7_player 177 = .ok (.iaload, 1) := by decide +kernel
theorem dX7_player_178 : decode cX7_player 178 = .ok (.ireturn, 1) := by decide +kernel
set_option maxRecDepth 20000 in
theorem ggX7_setting_X7_in : GoodIn wsX7_setting wsX7_in := goodIn_r _ [6] (by decide +kernel) (by decide +kernel)
set_option maxRecDepth 20000 in
theorem gX7_setting_X7_in : GoodIn wsX7_setting (va_wsS RX7 40 yX7_in wsX7_in) := goodIn_app (goodIn_of _ (by decide +kernel)) ggX7_setting_X7_in
set_option maxRecDepth 20000 in
theorem ggX7_setting_X7_refused : GoodIn wsX7_setting wsX7_refused := goodIn_r _ [10, 11, 12, 13, 14, 15, 16, 17, 18, 19, 20, 21, 22, 23, 24, 25, 26, 27] (by decide +kernel) (by decide +kernel)
set_option maxRecDepth 20000 in
theorem gX7_setting_X7_refused : GoodIn wsX7_setting (wsV RX7 163 RX7 yX7_refused wsX7_refused) := goodIn_app (goodIn_of _ (by decide +kernel)) ggX7_setting_X7_refused
theorem dX7_setting_0 : decode cX7_setting 0 = .ok (.aload_n 0, 1) := by decide +kernel
theorem dX7_setting_1 : decode cX7_setting 1 = .ok (.iload_n 1, 1) := by decide +kernel
theorem dX7_setting_2 : decode cX7_setting 2 = .ok (.i2l, 1) := by decide +kernel
theorem dX7_setting_3 : decode cX7_setting 3 = .ok (.lconst 0, 1) := by decide +kernel
theorem dX7_setting_4 : decode cX7_setting 4 = .ok (.ldc2_w 152, 3) := by decide +kernel
theorem dX7_setting_7 : decode cX7_setting 7 = .ok (.invokestatic 40, 3) := by decide +kernel
theorem dX7_setting_10 : decode cX7_setting 10 = .ok (.ifCond .eq 7, 3) := by decide +kernel
theorem dX7_setting_13 : decode cX7_setting 13 = .ok (.iconst 0, 1) := by decide +kernel
theorem dX7_setting_14 : decode cX7_setting 14 = .ok (.goto 4, 3) := by decide +kernel
theorem dX7_setting_17 : decode cX7_setting 17 = .ok (.iconst 1, 1) := by decide +kernel
theorem dX7_setting_18 : decode cX7_setting 18 = .ok (.invokevirtual 163, 3) := by decide +kernel
theorem dX7_setting_21 : decode cX7_setting 21 = .ok (.ifCond .eq 5, 3) := by decide +kernel
theorem dX7_setting_24 : decode cX7_setting 24 = .ok (.iconst 0, 1) := by decide +kernel
theorem dX7_setting_25 : decode cX7_setting 25 = .ok (.ireturn, 1) := by decide +kernel
theorem dX7_setting_26 : decode cX7_setting 26 = .ok (.aload_n 0, 1) := by decide +kernel
theorem dX7_setting_27 : decode cX7_setting 27 = .ok (.getfield 13, 3) := by decide +kernel
theorem dX7_setting_30 : decode cX7_setting 30 = .ok (.bipush 6, 2) := by decide +kernel
theorem dX7_setting_32 : decode cX7_setting 32 = .ok (.iload_n 1, 1) := by decide +kernel
theorem dX7_setting_33 : decode cX7_setting 33 = .ok (.iadd, 1) := by decide +kernel
theorem dX7_setting_34 : decode cX7_setting 34 = .ok (.iaload, 1) := by decide +kernel
theorem dX7_setting_35 : decode cX7_setting 35 = .ok (.ireturn, 1) := by decide +kernel
set_option maxRecDepth 20000 in
theorem ggX7_remember_X7_copyState : GoodIn wsX7_remember wsX7_copyState := goodIn_r _ [7] (by decide +kernel) (by decide +kernel)
set_option maxRecDepth 20000 in
theorem gX7_remember_X7_copyState : GoodIn wsX7_remember (va_wsS RX7 117 yX7_copyState wsX7_copyState) := goodIn_app (goodIn_of _ (by decide +kernel)) ggX7_remember_X7_copyState
theorem dX7_remember_0 : decode cX7_remember 0 = .ok (.aload_n 0, 1) := by decide +kernel
theorem dX7_remember_1 : decode cX7_remember 1 = .ok (.getfield 203, 3) := by decide +kernel
theorem dX7_remember_4 : decode cX7_remember 4 = .ok (.bipush 14, 2) := by decide +kernel
theorem dX7_remember_6 : decode cX7_remember 6 = .ok (.if_icmp .ne 43, 3) := by decide +kernel
theorem dX7_remember_9 : decode cX7_remember 9 = .ok (.iconst 0, 1) := by decide +kernel
theorem dX7_remember_10 : decode cX7_remember 10 = .ok (.istore_n 1, 1) := by decide +kernel
theorem dX7_remember_11 : decode cX7_remember 11 = .ok (.iload_n 1, 1) := by decide +kernel
theorem dX7_remember_12 : decode cX7_remember 12 = .ok (.sipush 1573, 3) := by decide +kernel
theorem dX7_remember_15 : decode cX7_remember 15 = .ok (.if_icmp .ge 24, 3) := by decide +kernel
theorem dX7_remember_18 : decode cX7_remember 18 = .ok (.aload_n 0, 1) := by decide +kernel
theorem dX7_remember_19 : decode cX7_remember 19 = .ok (.getfield 22, 3) := by decide +kernel
theorem dX7_remember_22 : decode cX7_remember 22 = .ok (.iload_n 1, 1) := by decide +kernel
theorem dX7_remember_23 : decode cX7_remember 23 = .ok (.aload_n 0, 1) := by decide +kernel
theorem dX7_remember_24 : decode cX7_remember 24 = .ok (.getfield 22, 3) := by decide +kernel
theorem dX7_remember_27 : decode cX7_remember 27 = .ok (.iload_n 1, 1) := by decide +kernel
theorem dX7_remember_28 : decode cX7_remember 28 = .ok (.bipush 121, 2) := by decide +kernel
theorem dX7_remember_30 : decode cX7_remember 30 = .ok (.iadd, 1) := by decide +kernel
theorem dX7_remember_31 : decode cX7_remember 31 = .ok (.iaload, 1) := by decide +kernel
theorem dX7_remember_32 : decode cX7_remember 32 = .ok (.iastore, 1) := by decide +kernel
theorem dX7_remember_33 : decode cX7_remember 33 = .ok (.iinc 1 1, 3) := by decide +kernel
theorem dX7_remember_36 : decode cX7_remember 36 = .ok (.goto (-25), 3) := by decide +kernel
theorem dX7_remember_39 : decode cX7_remember 39 = .ok (.aload_n 0, 1) := by decide +kernel
theorem dX7_remember_40 : decode cX7_remember 40 = .ok (.dup, 1) := by decide +kernel
theorem dX7_remember_41 : decode cX7_remember 41 = .ok (.getfield 203, 3) := by decide +kernel
theorem dX7_remember_44 : decode cX7_remember 44 = .ok (.iconst 1, 1) := by decide +kernel
theorem dX7_remember_45 : decode cX7_remember 45 = .ok (.isub, 1) := by decide +kernel
theorem dX7_remember_46 : decode cX7_remember 46 = .ok (.putfield 203, 3) := by decide +kernel
theorem dX7_remember_49 : decode cX7_remember 49 = .ok (.aload_n 0, 1) := by decide +kernel
theorem dX7_remember_50 : decode cX7_remember 50 = .ok (.getfield 13, 3) := by decide +kernel
theorem dX7_remember_53 : decode cX7_remember 53 = .ok (.iconst 0, 1) := by decide +kernel
theorem dX7_remember_54 : decode cX7_remember 54 = .ok (.aload_n 0, 1) := by decide +kernel
theorem dX7_remember_55 : decode cX7_remember 55 = .ok (.getfield 22, 3) := by decide +kernel
theorem dX7_remember_58 : decode cX7_remember 58 = .ok (.bipush 121, 2) := by decide +kernel
theorem dX7_remember_60 : decode cX7_remember 60 = .ok (.aload_n 0, 1) := by decide +kernel
theorem dX7_remember_61 : decode cX7_remember 61 = .ok (.getfield 203, 3) := by decide +kernel
theorem dX7_remember_64 : decode cX7_remember 64 = .ok (.imul, 1) := by decide +kernel
theorem dX7_remember_65 : decode cX7_remember 65 = .ok (.invokestatic 117, 3) := by decide +kernel
theorem dX7_remember_68 : decode cX7_remember 68 = .ok (.aload_n 0, 1) := by decide +kernel
theorem dX7_remember_69 : decode cX7_remember 69 = .ok (.dup, 1) := by decide +kernel
theorem dX7_remember_70 : decode cX7_remember 70 = .ok (.getfield 203, 3) := by decide +kernel
theorem dX7_remember_73 : decode cX7_remember 73 = .ok (.iconst 1, 1) := by decide +kernel
theorem dX7_remember_74 : decode cX7_remember 74 = .ok (.iadd, 1) := by decide +kernel
theorem dX7_remember_75 : decode cX7_remember 75 = .ok (.putfield 203, 3) := by decide +kernel
theorem dX7_remember_78 : decode cX7_remember 78 = .ok (.return_, 1) := by decide +kernel
set_option maxRecDepth 20000 in
theorem ggX7_begin_X7_in : GoodIn wsX7_begin wsX7_in := goodIn_r _ [7] (by decide +kernel) (by decide +kernel)
set_option maxRecDepth 20000 in
theorem gX7_begin_X7_in : GoodIn wsX7_begin (va_wsS RX7 40 yX7_in wsX7_in) := goodIn_app (goodIn_of _ (by decide +kernel)) ggX7_begin_X7_in
set_option maxRecDepth 20000 in
theorem ggX7_begin_X7_refused : GoodIn wsX7_begin wsX7_refused := goodIn_r _ [11, 12, 43, 44, 45, 46, 47, 48, 49, 50, 51, 52, 53, 54, 55, 56, 57, 58] (by decide +kernel) (by decide +kernel)
set_option maxRecDepth 20000 in
theorem gX7_begin_X7_refused : GoodIn wsX7_begin (wsV RX7 163 RX7 yX7_refused wsX7_refused) := goodIn_app (goodIn_of _ (by decide +kernel)) ggX7_begin_X7_refused
set_option maxRecDepth 20000 in
theorem ggX7_begin_X7_remember : GoodIn wsX7_begin wsX7_remember := goodIn_r _ [16, 17, 18, 3, 19, 20, 6, 21, 43, 44, 45, 46, 47, 48, 49, 50, 51, 52, 53, 54, 55, 56, 57, 58] (by decide +kernel) (by decide +kernel)
set_option maxRecDepth 20000 in
theorem gX7_begin_X7_remember : GoodIn wsX7_begin (wsV RX7 211 RX7 yX7_remember wsX7_remember) := goodIn_app (goodIn_of _ (by decide +kernel)) ggX7_begin_X7_remember
set_option maxRecDepth 20000 in
theorem ggX7_begin_X7_beginOn : GoodIn wsX7_begin wsX7_beginOn := goodIn_r _ [25, 26, 27, 28, 29, 6, 30, 31, 32, 33, 34, 35, 36, 37, 38, 39, 40, 41, 42, 43, 44, 45, 46, 47, 48, 49, 50, 51, 52, 53, 54, 55, 56, 57, 58] (by decide +kernel) (by decide +kernel)
set_option maxRecDepth 20000 in
theorem gX7_begin_X7_beginOn : GoodIn wsX7_begin (wsV RX7 192 RX7 yX7_beginOn wsX7_beginOn) := goodIn_app (goodIn_of _ (by decide +kernel)) ggX7_begin_X7_beginOn
theorem dX7_begin_0 : decode cX7_begin 0 = .ok (.aload_n 0, 1) := by decide +kernel
theorem dX7_begin_1 : decode cX7_begin 1 = .ok (.iload_n 1, 1) := by decide +kernel
theorem dX7_begin_2 : decode cX7_begin 2 = .ok (.i2l, 1) := by decide +kernel
theorem dX7_begin_3 : decode cX7_begin 3 = .ok (.ldc2_w 152, 3) := by decide +kernel
theorem dX7_begin_6 : decode cX7_begin 6 = .ok (.ldc2_w 209, 3) := by decide +kernel
theorem dX7_begin_9 : decode cX7_begin 9 = .ok (.invokestatic 40, 3) := by decide +kernel
theorem dX7_begin_12 : decode cX7_begin 12 = .ok (.ifCond .eq 7, 3) := by decide +kernel
theorem dX7_begin_15 : decode cX7_begin 15 = .ok (.iconst 0, 1) := by decide +kernel
theorem dX7_begin_16 : decode cX7_begin 16 = .ok (.goto 4, 3) := by decide +kernel
theorem dX7_begin_19 : decode cX7_begin 19 = .ok (.iconst 1, 1) := by decide +kernel
theorem dX7_begin_20 : decode cX7_begin 20 = .ok (.invokevirtual 163, 3) := by decide +kernel
theorem dX7_begin_23 : decode cX7_begin 23 = .ok (.ifCond .eq 5, 3) := by decide +kernel
theorem dX7_begin_26 : decode cX7_begin 26 = .ok (.iconst 0, 1) := by decide +kernel
theorem dX7_begin_27 : decode cX7_begin 27 = .ok (.ireturn, 1) := by decide +kernel
theorem dX7_begin_28 : decode cX7_begin 28 = .ok (.aload_n 0, 1) := by decide +kernel
theorem dX7_begin_29 : decode cX7_begin 29 = .ok (.invokevirtual 211, 3) := by decide +kernel
theorem dX7_begin_32 : decode cX7_begin 32 = .ok (.aload_n 0, 1) := by decide +kernel
theorem dX7_begin_33 : decode cX7_begin 33 = .ok (.aload_n 0, 1) := by decide +kernel
theorem dX7_begin_34 : decode cX7_begin 34 = .ok (.getfield 13, 3) := by decide +kernel
theorem dX7_begin_37 : decode cX7_begin 37 = .ok (.iload_n 1, 1) := by decide +kernel
theorem dX7_begin_38 : decode cX7_begin 38 = .ok (.lload_n 2, 1) := by decide +kernel
theorem dX7_begin_39 : decode cX7_begin 39 = .ok (.invokevirtual 192, 3) := by decide +kernel
theorem dX7_begin_42 : decode cX7_begin 42 = .ok (.ireturn, 1) := by decide +kernel
set_option maxRecDepth 20000 in
theorem ggX7_shift_X7_isPlayer : GoodIn wsX7_shift wsX7_isPlayer := goodIn_r _ [5, 6, 7, 4, 8] (by decide +kernel) (by decide +kernel)
set_option maxRecDepth 20000 in
theorem gX7_shift_X7_isPlayer : GoodIn wsX7_shift (va_wsS RX7 100 yX7_isPlayer wsX7_isPlayer) := goodIn_app (goodIn_of _ (by decide +kernel)) ggX7_shift_X7_isPlayer
set_option maxRecDepth 20000 in
theorem ggX7_shift_X7_isLine : GoodIn wsX7_shift wsX7_isLine := goodIn_r _ [11, 12, 6, 7, 4, 8] (by decide +kernel) (by decide +kernel)
set_option maxRecDepth 20000 in
theorem gX7_shift_X7_isLine : GoodIn wsX7_shift (va_wsS RX7 214 yX7_isLine wsX7_isLine) := goodIn_app (goodIn_of _ (by decide +kernel)) ggX7_shift_X7_isLine
set_option maxRecDepth 20000 in
theorem ggX7_shift_X7_in : GoodIn wsX7_shift wsX7_in := goodIn_r _ [8] (by decide +kernel) (by decide +kernel)
set_option maxRecDepth 20000 in
theorem gX7_shift_X7_in : GoodIn wsX7_shift (va_wsS RX7 40 yX7_in wsX7_in) := goodIn_app (goodIn_of _ (by decide +kernel)) ggX7_shift_X7_in
set_option maxRecDepth 20000 in
theorem ggX7_shift_X7_canShiftNow : GoodIn wsX7_shift wsX7_canShiftNow := goodIn_r _ [15, 16, 17, 4, 18, 2, 3, 5, 6, 7, 8, 19, 20, 21, 22, 23, 24] (by decide +kernel) (by decide +kernel)
set_option maxRecDepth 20000 in
theorem gX7_shift_X7_canShiftNow : GoodIn wsX7_shift (va_wsS RX7 127 yX7_canShiftNow wsX7_canShiftNow) := goodIn_app (goodIn_of _ (by decide +kernel)) ggX7_shift_X7_canShiftNow
set_option maxRecDepth 20000 in
theorem ggX7_shift_X7_refused : GoodIn wsX7_shift wsX7_refused := goodIn_r _ [28, 29, 66, 67, 68, 69, 70, 71, 72, 73, 74, 75, 76, 77, 78, 79, 80, 81] (by decide +kernel) (by decide +kernel)
set_option maxRecDepth 20000 in
theorem gX7_shift_X7_refused : GoodIn wsX7_shift (wsV RX7 163 RX7 yX7_refused wsX7_refused) := goodIn_app (goodIn_of _ (by decide +kernel)) ggX7_shift_X7_refused
set_option maxRecDepth 20000 in
theorem ggX7_shift_X7_remember : GoodIn wsX7_shift wsX7_remember := goodIn_r _ [33, 34, 35, 1, 36, 37, 4, 38, 66, 67, 68, 69, 70, 71, 72, 73, 74, 75, 76, 77, 78, 79, 80, 81] (by decide +kernel) (by decide +kernel)
set_option maxRecDepth 20000 in
theorem gX7_shift_X7_remember : GoodIn wsX7_shift (wsV RX7 211 RX7 yX7_remember wsX7_remember) := goodIn_app (goodIn_of _ (by decide +kernel)) ggX7_shift_X7_remember
set_option maxRecDepth 20000 in
theorem ggX7_shift_X7_shiftOn : GoodIn wsX7_shift wsX7_shiftOn := goodIn_r _ [41, 42, 43, 4, 44, 22, 23, 24, 45, 46, 47, 48, 49, 50, 51, 52, 53, 54, 55, 56, 57, 58, 59, 60, 61, 62, 63, 64, 65] (by decide +kernel) (by decide +kernel)
set_option maxRecDepth 20000 in
theorem gX7_shift_X7_shiftOn : GoodIn wsX7_shift (va_wsS RX7 143 yX7_shiftOn wsX7_shiftOn) := goodIn_app (goodIn_of _ (by decide +kernel)) ggX7_shift_X7_shiftOn
theorem dX7_shift_0 : decode cX7_shift 0 = .ok (.aload_n 0, 1) := by decide +kernel
theorem dX7_shift_1 : decode cX7_shift 1 = .ok (.aload_n 0, 1) := by decide +kernel
theorem dX7_shift_2 : decode cX7_shift 2 = .ok (.getfield 13, 3) := by decide +kernel
theorem dX7_shift_5 : decode cX7_shift 5 = .ok (.iload_n 1, 1) := by decide +kernel
theorem dX7_shift_6 : decode cX7_shift 6 = .ok (.invokestatic 100, 3) := by decide +kernel
theorem dX7_shift_9 : decode cX7_shift 9 = .ok (.ifCond .eq 10, 3) := by decide +kernel
theorem dX7_shift_12 : decode cX7_shift 12 = .ok (.iload_n 2, 1) := by decide +kernel
theorem dX7_shift_13 : decode cX7_shift 13 = .ok (.invokestatic 214, 3) := by decide +kernel
theorem dX7_shift_16 : decode cX7_shift 16 = .ok (.ifCond .ne 7, 3) := by decide +kernel
theorem dX7_shift_19 : decode cX7_shift 19 = .ok (.iconst 1, 1) := by decide +kernel
theorem dX7_shift_20 : decode cX7_shift 20 = .ok (.goto 35, 3) := by decide +kernel
theorem dX7_shift_23 : decode cX7_shift 23 = .ok (.iload_n 3, 1) := by decide +kernel
theorem dX7_shift_24 : decode cX7_shift 24 = .ok (.i2l, 1) := by decide +kernel
theorem dX7_shift_25 : decode cX7_shift 25 = .ok (.lconst 0, 1) := by decide +kernel
theorem dX7_shift_26 : decode cX7_shift 26 = .ok (.lconst 1, 1) := by decide +kernel
theorem dX7_shift_27 : decode cX7_shift 27 = .ok (.invokestatic 40, 3) := by decide +kernel
theorem dX7_shift_30 : decode cX7_shift 30 = .ok (.ifCond .ne 7, 3) := by decide +kernel
theorem dX7_shift_33 : decode cX7_shift 33 = .ok (.iconst 2, 1) := by decide +kernel
theorem dX7_shift_34 : decode cX7_shift 34 = .ok (.goto 21, 3) := by decide +kernel
theorem dX7_shift_37 : decode cX7_shift 37 = .ok (.aload_n 0, 1) := by decide +kernel
theorem dX7_shift_38 : decode cX7_shift 38 = .ok (.getfield 13, 3) := by decide +kernel
theorem dX7_shift_41 : decode cX7_shift 41 = .ok (.iload_n 1, 1) := by decide +kernel
theorem dX7_shift_42 : decode cX7_shift 42 = .ok (.iload_n 2, 1) := by decide +kernel
theorem dX7_shift_43 : decode cX7_shift 43 = .ok (.iload_n 3, 1) := by decide +kernel
theorem dX7_shift_44 : decode cX7_shift 44 = .ok (.invokestatic 127, 3) := by decide +kernel
theorem dX7_shift_47 : decode cX7_shift 47 = .ok (.ifCond .eq 7, 3) := by decide +kernel
theorem dX7_shift_50 : decode cX7_shift 50 = .ok (.iconst 0, 1) := by decide +kernel
theorem dX7_shift_51 : decode cX7_shift 51 = .ok (.goto 4, 3) := by decide +kernel
theorem dX7_shift_54 : decode cX7_shift 54 = .ok (.iconst 3, 1) := by decide +kernel
theorem dX7_shift_55 : decode cX7_shift 55 = .ok (.invokevirtual 163, 3) := by decide +kernel
theorem dX7_shift_58 : decode cX7_shift 58 = .ok (.ifCond .eq 5, 3) := by decide +kernel
theorem dX7_shift_61 : decode cX7_shift 61 = .ok (.iconst 0, 1) := by decide +kernel
theorem dX7_shift_62 : decode cX7_shift 62 = .ok (.ireturn, 1) := by decide +kernel
theorem dX7_shift_63 : decode cX7_shift 63 = .ok (.aload_n 0, 1) := by decide +kernel
theorem dX7_shift_64 : decode cX7_shift 64 = .ok (.invokevirtual 211, 3) := by decide +kernel
theorem dX7_shift_67 : decode cX7_shift 67 = .ok (.aload_n 0, 1) := by decide +kernel
theorem dX7_shift_68 : decode cX7_shift 68 = .ok (.getfield 13, 3) := by decide +kernel
theorem dX7_shift_71 : decode cX7_shift 71 = .ok (.iload_n 1, 1) := by decide +kernel
theorem dX7_shift_72 : decode cX7_shift 72 = .ok (.iload_n 2, 1) := by decide +kernel
theorem dX7_shift_73 : decode cX7_shift 73 = .ok (.iload_n 3, 1) := by decide +kernel
theorem dX7_shift_74 : decode cX7_shift 74 = .ok (.invokestatic 143, 3) := by decide +kernel
theorem dX7_shift_77 : decode cX7_shift 77 = .ok (.ireturn, 1) := by decide +kernel
set_option maxRecDepth 20000 in
theorem ggX7_go_X7_isPlace : GoodIn wsX7_go wsX7_isPlace := goodIn_r _ [5, 6, 7, 8, 4, 9] (by decide +kernel) (by decide +kernel)
set_option maxRecDepth 20000 in
theorem gX7_go_X7_isPlace : GoodIn wsX7_go (va_wsS RX7 206 yX7_isPlace wsX7_isPlace) := goodIn_app (goodIn_of _ (by decide +kernel)) ggX7_go_X7_isPlace
set_option maxRecDepth 20000 in
theorem ggX7_go_X7_canGo : GoodIn wsX7_go wsX7_canGo := goodIn_r _ [12, 13, 14, 4, 15, 16, 17, 18, 19, 20, 21, 22, 23, 24, 25, 26, 27, 28, 29, 30] (by decide +kernel) (by decide +kernel)
set_option maxRecDepth 20000 in
theorem gX7_go_X7_canGo : GoodIn wsX7_go (va_wsS RX7 183 yX7_canGo wsX7_canGo) := goodIn_app (goodIn_of _ (by decide +kernel)) ggX7_go_X7_canGo
set_option maxRecDepth 20000 in
theorem ggX7_go_X7_refused : GoodIn wsX7_go wsX7_refused := goodIn_r _ [34, 35, 54, 55, 56, 57, 58, 59, 60, 61, 62, 63, 64, 65, 66, 67, 68, 69] (by decide +kernel) (by decide +kernel)
set_option maxRecDepth 20000 in
theorem gX7_go_X7_refused : GoodIn wsX7_go (wsV RX7 163 RX7 yX7_refused wsX7_refused) := goodIn_app (goodIn_of _ (by decide +kernel)) ggX7_go_X7_refused
set_option maxRecDepth 20000 in
theorem ggX7_go_X7_remember : GoodIn wsX7_go wsX7_remember := goodIn_r _ [39, 40, 41, 1, 42, 43, 4, 44, 54, 55, 56, 57, 58, 59, 60, 61, 62, 63, 64, 65, 66, 67, 68, 69] (by decide +kernel) (by decide +kernel)
set_option maxRecDepth 20000 in
theorem gX7_go_X7_remember : GoodIn wsX7_go (wsV RX7 211 RX7 yX7_remember wsX7_remember) := goodIn_app (goodIn_of _ (by decide +kernel)) ggX7_go_X7_remember
set_option maxRecDepth 20000 in
theorem ggX7_go_X7_goOn : GoodIn wsX7_go wsX7_goOn := goodIn_r _ [47, 22, 23, 4, 24, 48, 49, 50, 51, 52, 53] (by decide +kernel) (by decide +kernel)
set_option maxRecDepth 20000 in
theorem gX7_go_X7_goOn : GoodIn wsX7_go (va_wsS RX7 149 yX7_goOn wsX7_goOn) := goodIn_app (goodIn_of _ (by decide +kernel)) ggX7_go_X7_goOn
theorem dX7_go_0 : decode cX7_go 0 = .ok (.aload_n 0, 1) := by decide +kernel
theorem dX7_go_1 : decode cX7_go 1 = .ok (.iload_n 1, 1) := by decide +kernel
theorem dX7_go_2 : decode cX7_go 2 = .ok (.invokestatic 206, 3) := by decide +kernel
theorem dX7_go_5 : decode cX7_go 5 = .ok (.ifCond .ne 7, 3) := by decide +kernel
theorem dX7_go_8 : decode cX7_go 8 = .ok (.iconst 1, 1) := by decide +kernel
theorem dX7_go_9 : decode cX7_go 9 = .ok (.goto 19, 3) := by decide +kernel
theorem dX7_go_12 : decode cX7_go 12 = .ok (.aload_n 0, 1) := by decide +kernel
theorem dX7_go_13 : decode cX7_go 13 = .ok (.getfield 13, 3) := by decide +kernel
theorem dX7_go_16 : decode cX7_go 16 = .ok (.iload_n 1, 1) := by decide +kernel
theorem dX7_go_17 : decode cX7_go 17 = .ok (.invokestatic 183, 3) := by decide +kernel
theorem dX7_go_20 : decode cX7_go 20 = .ok (.ifCond .eq 7, 3) := by decide +kernel
theorem dX7_go_23 : decode cX7_go 23 = .ok (.iconst 0, 1) := by decide +kernel
theorem dX7_go_24 : decode cX7_go 24 = .ok (.goto 4, 3) := by decide +kernel
theorem dX7_go_27 : decode cX7_go 27 = .ok (.iconst 2, 1) := by decide +kernel
theorem dX7_go_28 : decode cX7_go 28 = .ok (.invokevirtual 163, 3) := by decide +kernel
theorem dX7_go_31 : decode cX7_go 31 = .ok (.ifCond .eq 5, 3) := by decide +kernel
theorem dX7_go_34 : decode cX7_go 34 = .ok (.iconst 0, 1) := by decide +kernel
theorem dX7_go_35 : decode cX7_go 35 = .ok (.ireturn, 1) := by decide +kernel
theorem dX7_go_36 : decode cX7_go 36 = .ok (.aload_n 0, 1) := by decide +kernel
theorem dX7_go_37 : decode cX7_go 37 = .ok (.invokevirtual 211, 3) := by decide +kernel
theorem dX7_go_40 : decode cX7_go 40 = .ok (.aload_n 0, 1) := by decide +kernel
theorem dX7_go_41 : decode cX7_go 41 = .ok (.getfield 13, 3) := by decide +kernel
theorem dX7_go_44 : decode cX7_go 44 = .ok (.iload_n 1, 1) := by decide +kernel
theorem dX7_go_45 : decode cX7_go 45 = .ok (.invokestatic 149, 3) := by decide +kernel
theorem dX7_go_48 : decode cX7_go 48 = .ok (.ireturn, 1) := by decide +kernel
set_option maxRecDepth 20000 in
theorem ggX7_lock_X7_isLine : GoodIn wsX7_lock wsX7_isLine := goodIn_r _ [5, 6, 7, 8, 4, 9] (by decide +kernel) (by decide +kernel)
set_option maxRecDepth 20000 in
theorem gX7_lock_X7_isLine : GoodIn wsX7_lock (va_wsS RX7 214 yX7_isLine wsX7_isLine) := goodIn_app (goodIn_of _ (by decide +kernel)) ggX7_lock_X7_isLine
set_option maxRecDepth 20000 in
theorem ggX7_lock_X7_canLock : GoodIn wsX7_lock wsX7_canLock := goodIn_r _ [12, 13, 14, 4, 15] (by decide +kernel) (by decide +kernel)
set_option maxRecDepth 20000 in
theorem gX7_lock_X7_canLock : GoodIn wsX7_lock (va_wsS RX7 186 yX7_canLock wsX7_canLock) := goodIn_app (goodIn_of _ (by decide +kernel)) ggX7_lock_X7_canLock
set_option maxRecDepth 20000 in
theorem ggX7_lock_X7_refused : GoodIn wsX7_lock wsX7_refused := goodIn_r _ [19, 20, 39, 40, 41, 42, 43, 44, 45, 46, 47, 48, 49, 50, 51, 52, 53, 54] (by decide +kernel) (by decide +kernel)
set_option maxRecDepth 20000 in
theorem gX7_lock_X7_refused : GoodIn wsX7_lock (wsV RX7 163 RX7 yX7_refused wsX7_refused) := goodIn_app (goodIn_of _ (by decide +kernel)) ggX7_lock_X7_refused
set_option maxRecDepth 20000 in
theorem ggX7_lock_X7_remember : GoodIn wsX7_lock wsX7_remember := goodIn_r _ [24, 25, 26, 1, 27, 28, 4, 29, 39, 40, 41, 42, 43, 44, 45, 46, 47, 48, 49, 50, 51, 52, 53, 54] (by decide +kernel) (by decide +kernel)
set_option maxRecDepth 20000 in
theorem gX7_lock_X7_remember : GoodIn wsX7_lock (wsV RX7 211 RX7 yX7_remember wsX7_remember) := goodIn_app (goodIn_of _ (by decide +kernel)) ggX7_lock_X7_remember
set_option maxRecDepth 20000 in
theorem ggX7_lock_X7_lockOn : GoodIn wsX7_lock wsX7_lockOn := goodIn_r _ [32, 33, 34, 4, 35, 36, 37, 38] (by decide +kernel) (by decide +kernel)
set_option maxRecDepth 20000 in
theorem gX7_lock_X7_lockOn : GoodIn wsX7_lock (va_wsS RX7 189 yX7_lockOn wsX7_lockOn) := goodIn_app (goodIn_of _ (by decide +kernel)) ggX7_lock_X7_lockOn
theorem dX7_lock_0 : decode cX7_lock 0 = .ok (.aload_n 0, 1) := by decide +kernel
theorem dX7_lock_1 : decode cX7_lock 1 = .ok (.iload_n 1, 1) := by decide +kernel
theorem dX7_lock_2 : decode cX7_lock 2 = .ok (.invokestatic 214, 3) := by decide +kernel
theorem dX7_lock_5 : decode cX7_lock 5 = .ok (.ifCond .ne 7, 3) := by decide +kernel
theorem dX7_lock_8 : decode cX7_lock 8 = .ok (.iconst 1, 1) := by decide +kernel
theorem dX7_lock_9 : decode cX7_lock 9 = .ok (.goto 18, 3) := by decide +kernel
theorem dX7_lock_12 : decode cX7_lock 12 = .ok (.aload_n 0, 1) := by decide +kernel
theorem dX7_lock_13 : decode cX7_lock 13 = .ok (.getfield 13, 3) := by decide +kernel
theorem dX7_lock_16 : decode cX7_lock 16 = .ok (.invokestatic 186, 3) := by decide +kernel
theorem dX7_lock_19 : decode cX7_lock 19 = .ok (.ifCond .eq 7, 3) := by decide +kernel
theorem dX7_lock_22 : decode cX7_lock 22 = .ok (.iconst 0, 1) := by decide +kernel
theorem dX7_lock_23 : decode cX7_lock 23 = .ok (.goto 4, 3) := by decide +kernel
theorem dX7_lock_26 : decode cX7_lock 26 = .ok (.iconst 2, 1) := by decide +kernel
theorem dX7_lock_27 : decode cX7_lock 27 = .ok (.invokevirtual 163, 3) := by decide +kernel
theorem dX7_lock_30 : decode cX7_lock 30 = .ok (.ifCond .eq 5, 3) := by decide +kernel
theorem dX7_lock_33 : decode cX7_lock 33 = .ok (.iconst 0, 1) := by decide +kernel
theorem dX7_lock_34 : decode cX7_lock 34 = .ok (.ireturn, 1) := by decide +kernel
theorem dX7_lock_35 : decode cX7_lock 35 = .ok (.aload_n 0, 1) := by decide +kernel
theorem dX7_lock_36 : decode cX7_lock 36 = .ok (.invokevirtual 211, 3) := by decide +kernel
theorem dX7_lock_39 : decode cX7_lock 39 = .ok (.aload_n 0, 1) := by decide +kernel
theorem dX7_lock_40 : decode cX7_lock 40 = .ok (.getfield 13, 3) := by decide +kernel
theorem dX7_lock_43 : decode cX7_lock 43 = .ok (.iload_n 1, 1) := by decide +kernel
theorem dX7_lock_44 : decode cX7_lock 44 = .ok (.invokestatic 189, 3) := by decide +kernel
theorem dX7_lock_47 : decode cX7_lock 47 = .ok (.ireturn, 1) := by decide +kernel
set_option maxRecDepth 20000 in
theorem ggX7_play_X7_isOn : GoodIn wsX7_play wsX7_isOn := goodIn_r _ [5] (by decide +kernel) (by decide +kernel)
set_option maxRecDepth 20000 in
theorem gX7_play_X7_isOn : GoodIn wsX7_play (va_wsS RX7 96 yX7_isOn wsX7_isOn) := goodIn_app (goodIn_of _ (by decide +kernel)) ggX7_play_X7_isOn
set_option maxRecDepth 20000 in
theorem ggX7_play_X7_refused : GoodIn wsX7_play wsX7_refused := goodIn_r _ [9, 10, 96, 97, 98, 99, 100, 101, 102, 103, 104, 105, 106, 107, 108, 109, 110, 111] (by decide +kernel) (by decide +kernel)
set_option maxRecDepth 20000 in
theorem gX7_play_X7_refused : GoodIn wsX7_play (wsV RX7 163 RX7 yX7_refused wsX7_refused) := goodIn_app (goodIn_of _ (by decide +kernel)) ggX7_play_X7_refused
set_option maxRecDepth 20000 in
theorem ggX7_play_X7_remember : GoodIn wsX7_play wsX7_remember := goodIn_r _ [14, 15, 16, 1, 17, 18, 4, 19, 96, 97, 98, 99, 100, 101, 102, 103, 104, 105, 106, 107, 108, 109, 110, 111] (by decide +kernel) (by decide +kernel)
set_option maxRecDepth 20000 in
theorem gX7_play_X7_remember : GoodIn wsX7_play (wsV RX7 211 RX7 yX7_remember wsX7_remember) := goodIn_app (goodIn_of _ (by decide +kernel)) ggX7_play_X7_remember
set_option maxRecDepth 20000 in
theorem ggX7_play_X7_playOn : GoodIn wsX7_play wsX7_playOn := goodIn_r _ [23, 24, 25, 26, 27, 28, 29, 4, 30, 31, 32, 33, 2, 3, 5, 34, 35, 36, 37, 38, 39, 40, 41, 42, 43, 44, 45, 46, 47, 48, 49, 50, 17, 18, 19, 51, 52, 53, 54, 55, 56, 57, 58, 59, 60, 61, 62, 63, 64, 65, 66, 67, 68, 69, 70, 71, 72, 73, 74, 75, 76, 77, 78, 79, 80, 81, 82, 83, 84, 85, 86, 87, 88, 89, 90, 91, 92, 93, 94, 95, 96, 97, 98, 99, 100, 101, 102, 103, 104, 105, 106, 107, 108, 109, 110, 111] (by decide +kernel) (by decide +kernel)
set_option maxRecDepth 20000 in
theorem gX7_play_X7_playOn : GoodIn wsX7_play (wsV RX7 217 RX7 yX7_playOn wsX7_playOn) := goodIn_app (goodIn_of _ (by decide +kernel)) ggX7_play_X7_playOn
theorem dX7_play_0 : decode cX7_play 0 = .ok (.aload_n 0, 1) := by decide +kernel
theorem dX7_play_1 : decode cX7_play 1 = .ok (.aload_n 0, 1) := by decide +kernel
theorem dX7_play_2 : decode cX7_play 2 = .ok (.getfield 13, 3) := by decide +kernel
theorem dX7_play_5 : decode cX7_play 5 = .ok (.invokestatic 96, 3) := by decide +kernel
theorem dX7_play_8 : decode cX7_play 8 = .ok (.ifCond .eq 7, 3) := by decide +kernel
theorem dX7_play_11 : decode cX7_play 11 = .ok (.iconst 0, 1) := by decide +kernel
theorem dX7_play_12 : decode cX7_play 12 = .ok (.goto 4, 3) := by decide +kernel
theorem dX7_play_15 : decode cX7_play 15 = .ok (.iconst 1, 1) := by decide +kernel
theorem dX7_play_16 : decode cX7_play 16 = .ok (.invokevirtual 163, 3) := by decide +kernel
theorem dX7_play_19 : decode cX7_play 19 = .ok (.ifCond .eq 5, 3) := by decide +kernel
theorem dX7_play_22 : decode cX7_play 22 = .ok (.iconst 0, 1) := by decide +kernel
theorem dX7_play_23 : decode cX7_play 23 = .ok (.ireturn, 1) := by decide +kernel
theorem dX7_play_24 : decode cX7_play 24 = .ok (.aload_n 0, 1) := by decide +kernel
theorem dX7_play_25 : decode cX7_play 25 = .ok (.invokevirtual 211, 3) := by decide +kernel
theorem dX7_play_28 : decode cX7_play 28 = .ok (.aload_n 0, 1) := by decide +kernel
theorem dX7_play_29 : decode cX7_play 29 = .ok (.aload_n 0, 1) := by decide +kernel
theorem dX7_play_30 : decode cX7_play 30 = .ok (.getfield 13, 3) := by decide +kernel
theorem dX7_play_33 : decode cX7_play 33 = .ok (.invokevirtual 217, 3) := by decide +kernel
theorem dX7_play_36 : decode cX7_play 36 = .ok (.ireturn, 1) := by decide +kernel
set_option maxRecDepth 20000 in
theorem ggX7_set_X7_isSetting : GoodIn wsX7_set wsX7_isSetting := goodIn_r _ [5, 6, 7, 8, 9, 10, 11, 4, 12] (by decide +kernel) (by decide +kernel)
set_option maxRecDepth 20000 in
theorem gX7_set_X7_isSetting : GoodIn wsX7_set (va_wsS RX7 220 yX7_isSetting wsX7_isSetting) := goodIn_app (goodIn_of _ (by decide +kernel)) ggX7_set_X7_isSetting
set_option maxRecDepth 20000 in
theorem ggX7_set_X7_refused : GoodIn wsX7_set wsX7_refused := goodIn_r _ [16, 17, 27, 28, 29, 30, 31, 32, 33, 34, 35, 36, 37, 38, 39, 40, 41, 42] (by decide +kernel) (by decide +kernel)
set_option maxRecDepth 20000 in
theorem gX7_set_X7_refused : GoodIn wsX7_set (wsV RX7 163 RX7 yX7_refused wsX7_refused) := goodIn_app (goodIn_of _ (by decide +kernel)) ggX7_set_X7_refused
set_option maxRecDepth 20000 in
theorem ggX7_set_X7_remember : GoodIn wsX7_set wsX7_remember := goodIn_r _ [21, 22, 23, 1, 24, 25, 4, 26, 27, 28, 29, 30, 31, 32, 33, 34, 35, 36, 37, 38, 39, 40, 41, 42] (by decide +kernel) (by decide +kernel)
set_option maxRecDepth 20000 in
theorem gX7_set_X7_remember : GoodIn wsX7_set (wsV RX7 211 RX7 yX7_remember wsX7_remember) := goodIn_app (goodIn_of _ (by decide +kernel)) ggX7_set_X7_remember
theorem dX7_set_0 : decode cX7_set 0 = .ok (.aload_n 0, 1) := by decide +kernel
theorem dX7_set_1 : decode cX7_set 1 = .ok (.iload_n 1, 1) := by decide +kernel
theorem dX7_set_2 : decode cX7_set 2 = .ok (.iload_n 2, 1) := by decide +kernel
theorem dX7_set_3 : decode cX7_set 3 = .ok (.invokestatic 220, 3) := by decide +kernel
theorem dX7_set_6 : decode cX7_set 6 = .ok (.ifCond .eq 7, 3) := by decide +kernel
theorem dX7_set_9 : decode cX7_set 9 = .ok (.iconst 0, 1) := by decide +kernel
theorem dX7_set_10 : decode cX7_set 10 = .ok (.goto 4, 3) := by decide +kernel
theorem dX7_set_13 : decode cX7_set 13 = .ok (.iconst 1, 1) := by decide +kernel
theorem dX7_set_14 : decode cX7_set 14 = .ok (.invokevirtual 163, 3) := by decide +kernel
theorem dX7_set_17 : decode cX7_set 17 = .ok (.ifCond .eq 5, 3) := by decide +kernel
theorem dX7_set_20 : decode cX7_set 20 = .ok (.iconst 0, 1) := by decide +kernel
theorem dX7_set_21 : decode cX7_set 21 = .ok (.ireturn, 1) := by decide +kernel
theorem dX7_set_22 : decode cX7_set 22 = .ok (.aload_n 0, 1) := by decide +kernel
theorem dX7_set_23 : decode cX7_set 23 = .ok (.invokevirtual 211, 3) := by decide +kernel
theorem dX7_set_26 : decode cX7_set 26 = .ok (.aload_n 0, 1) := by decide +kernel
theorem dX7_set_27 : decode cX7_set 27 = .ok (.getfield 13, 3) := by decide +kernel
theorem dX7_set_30 : decode cX7_set 30 = .ok (.bipush 6, 2) := by decide +kernel
theorem dX7_set_32 : decode cX7_set 32 = .ok (.iload_n 1, 1) := by decide +kernel
theorem dX7_set_33 : decode cX7_set 33 = .ok (.iadd, 1) := by decide +kernel
theorem dX7_set_34 : decode cX7_set 34 = .ok (.iaload, 1) := by decide +kernel
theorem dX7_set_35 : decode cX7_set 35 = .ok (.istore_n 3, 1) := by decide +kernel
theorem dX7_set_36 : decode cX7_set 36 = .ok (.aload_n 0, 1) := by decide +kernel
theorem dX7_set_37 : decode cX7_set 37 = .ok (.getfield 13, 3) := by decide +kernel
theorem dX7_set_40 : decode cX7_set 40 = .ok (.bipush 6, 2) := by decide +kernel
theorem dX7_set_42 : decode cX7_set 42 = .ok (.iload_n 1, 1) := by decide +kernel
theorem dX7_set_43 : decode cX7_set 43 = .ok (.iadd, 1) := by decide +kernel
theorem dX7_set_44 : decode cX7_set 44 = .ok (.iload_n 2, 1) := by decide +kernel
theorem dX7_set_45 : decode cX7_set 45 = .ok (.iastore, 1) := by decide +kernel
theorem dX7_set_46 : decode cX7_set 46 = .ok (.iload_n 3, 1) := by decide +kernel
theorem dX7_set_47 : decode cX7_set 47 = .ok (.ireturn, 1) := by decide +kernel
set_option maxRecDepth 20000 in
theorem ggX7_undo_X7_refused : GoodIn wsX7_undo wsX7_refused := goodIn_r _ [8, 9, 13, 14, 15, 16, 17, 18, 19, 20, 21, 22, 23, 24, 25, 26, 27, 28] (by decide +kernel) (by decide +kernel)
set_option maxRecDepth 20000 in
theorem gX7_undo_X7_refused : GoodIn wsX7_undo (wsV RX7 163 RX7 yX7_refused wsX7_refused) := goodIn_app (goodIn_of _ (by decide +kernel)) ggX7_undo_X7_refused
set_option maxRecDepth 20000 in
theorem ggX7_undo_X7_copyState : GoodIn wsX7_undo wsX7_copyState := goodIn_r _ [12] (by decide +kernel) (by decide +kernel)
set_option maxRecDepth 20000 in
theorem gX7_undo_X7_copyState : GoodIn wsX7_undo (va_wsS RX7 117 yX7_copyState wsX7_copyState) := goodIn_app (goodIn_of _ (by decide +kernel)) ggX7_undo_X7_copyState
theorem dX7_undo_0 : decode cX7_undo 0 = .ok (.aload_n 0, 1) := by decide +kernel
theorem dX7_undo_1 : decode cX7_undo 1 = .ok (.aload_n 0, 1) := by decide +kernel
theorem dX7_undo_2 : decode cX7_undo 2 = .ok (.getfield 203, 3) := by decide +kernel
theorem dX7_undo_5 : decode cX7_undo 5 = .ok (.ifCond .ne 7, 3) := by decide +kernel
theorem dX7_undo_8 : decode cX7_undo 8 = .ok (.iconst 1, 1) := by decide +kernel
theorem dX7_undo_9 : decode cX7_undo 9 = .ok (.goto 4, 3) := by decide +kernel
theorem dX7_undo_12 : decode cX7_undo 12 = .ok (.iconst 0, 1) := by decide +kernel
theorem dX7_undo_13 : decode cX7_undo 13 = .ok (.invokevirtual 163, 3) := by decide +kernel
theorem dX7_undo_16 : decode cX7_undo 16 = .ok (.ifCond .eq 5, 3) := by decide +kernel
theorem dX7_undo_19 : decode cX7_undo 19 = .ok (.iconst 0, 1) := by decide +kernel
theorem dX7_undo_20 : decode cX7_undo 20 = .ok (.ireturn, 1) := by decide +kernel
theorem dX7_undo_21 : decode cX7_undo 21 = .ok (.aload_n 0, 1) := by decide +kernel
theorem dX7_undo_22 : decode cX7_undo 22 = .ok (.dup, 1) := by decide +kernel
theorem dX7_undo_23 : decode cX7_undo 23 = .ok (.getfield 203, 3) := by decide +kernel
theorem dX7_undo_26 : decode cX7_undo 26 = .ok (.iconst 1, 1) := by decide +kernel
theorem dX7_undo_27 : decode cX7_undo 27 = .ok (.isub, 1) := by decide +kernel
theorem dX7_undo_28 : decode cX7_undo 28 = .ok (.putfield 203, 3) := by decide +kernel
theorem dX7_undo_31 : decode cX7_undo 31 = .ok (.aload_n 0, 1) := by decide +kernel
theorem dX7_undo_32 : decode cX7_undo 32 = .ok (.getfield 22, 3) := by decide +kernel
theorem dX7_undo_35 : decode cX7_undo 35 = .ok (.bipush 121, 2) := by decide +kernel
theorem dX7_undo_37 : decode cX7_undo 37 = .ok (.aload_n 0, 1) := by decide +kernel
theorem dX7_undo_38 : decode cX7_undo 38 = .ok (.getfield 203, 3) := by decide +kernel
theorem dX7_undo_41 : decode cX7_undo 41 = .ok (.imul, 1) := by decide +kernel
theorem dX7_undo_42 : decode cX7_undo 42 = .ok (.aload_n 0, 1) := by decide +kernel
theorem dX7_undo_43 : decode cX7_undo 43 = .ok (.getfield 13, 3) := by decide +kernel
theorem dX7_undo_46 : decode cX7_undo 46 = .ok (.iconst 0, 1) := by decide +kernel
theorem dX7_undo_47 : decode cX7_undo 47 = .ok (.invokestatic 117, 3) := by decide +kernel
theorem dX7_undo_50 : decode cX7_undo 50 = .ok (.aload_n 0, 1) := by decide +kernel
theorem dX7_undo_51 : decode cX7_undo 51 = .ok (.getfield 203, 3) := by decide +kernel
theorem dX7_undo_54 : decode cX7_undo 54 = .ok (.ireturn, 1) := by decide +kernel
set_option maxRecDepth 20000 in
theorem ggX7_canShift_X7_isPlayer : GoodIn wsX7_canShift wsX7_isPlayer := goodIn_r _ [5, 6, 7, 4, 8] (by decide +kernel) (by decide +kernel)
set_option maxRecDepth 20000 in
theorem gX7_canShift_X7_isPlayer : GoodIn wsX7_canShift (va_wsS RX7 100 yX7_isPlayer wsX7_isPlayer) := goodIn_app (goodIn_of _ (by decide +kernel)) ggX7_canShift_X7_isPlayer
set_option maxRecDepth 20000 in
theorem ggX7_canShift_X7_isLine : GoodIn wsX7_canShift wsX7_isLine := goodIn_r _ [11, 12, 6, 7, 4, 8] (by decide +kernel) (by decide +kernel)
set_option maxRecDepth 20000 in
theorem gX7_canShift_X7_isLine : GoodIn wsX7_canShift (va_wsS RX7 214 yX7_isLine wsX7_isLine) := goodIn_app (goodIn_of _ (by decide +kernel)) ggX7_canShift_X7_isLine
set_option maxRecDepth 20000 in
theorem ggX7_canShift_X7_in : GoodIn wsX7_canShift wsX7_in := goodIn_r _ [8] (by decide +kernel) (by decide +kernel)
set_option maxRecDepth 20000 in
theorem gX7_canShift_X7_in : GoodIn wsX7_canShift (va_wsS RX7 40 yX7_in wsX7_in) := goodIn_app (goodIn_of _ (by decide +kernel)) ggX7_canShift_X7_in
set_option maxRecDepth 20000 in
theorem ggX7_canShift_X7_refused : GoodIn wsX7_canShift wsX7_refused := goodIn_r _ [16, 17, 24, 25, 26, 27, 28, 29, 30, 31, 32, 33, 34, 35, 36, 37, 38, 39] (by decide +kernel) (by decide +kernel)
set_option maxRecDepth 20000 in
theorem gX7_canShift_X7_refused : GoodIn wsX7_canShift (wsV RX7 163 RX7 yX7_refused wsX7_refused) := goodIn_app (goodIn_of _ (by decide +kernel)) ggX7_canShift_X7_refused
set_option maxRecDepth 20000 in
theorem ggX7_canShift_X7_may : GoodIn wsX7_canShift wsX7_may := goodIn_r _ [20, 21, 22, 4, 23] (by decide +kernel) (by decide +kernel)
set_option maxRecDepth 20000 in
theorem gX7_canShift_X7_may : GoodIn wsX7_canShift (va_wsS RX7 104 yX7_may wsX7_may) := goodIn_app (goodIn_of _ (by decide +kernel)) ggX7_canShift_X7_may
theorem dX7_canShift_0 : decode cX7_canShift 0 = .ok (.aload_n 0, 1) := by decide +kernel
theorem dX7_canShift_1 : decode cX7_canShift 1 = .ok (.aload_n 0, 1) := by decide +kernel
theorem dX7_canShift_2 : decode cX7_canShift 2 = .ok (.getfield 13, 3) := by decide +kernel
theorem dX7_canShift_5 : decode cX7_canShift 5 = .ok (.iload_n 1, 1) := by decide +kernel
theorem dX7_canShift_6 : decode cX7_canShift 6 = .ok (.invokestatic 100, 3) := by decide +kernel
theorem dX7_canShift_9 : decode cX7_canShift 9 = .ok (.ifCond .eq 10, 3) := by decide +kernel
theorem dX7_canShift_12 : decode cX7_canShift 12 = .ok (.iload_n 2, 1) := by decide +kernel
theorem dX7_canShift_13 : decode cX7_canShift 13 = .ok (.invokestatic 214, 3) := by decide +kernel
theorem dX7_canShift_16 : decode cX7_canShift 16 = .ok (.ifCond .ne 7, 3) := by decide +kernel
theorem dX7_canShift_19 : decode cX7_canShift 19 = .ok (.iconst 1, 1) := by decide +kernel
theorem dX7_canShift_20 : decode cX7_canShift 20 = .ok (.goto 18, 3) := by decide +kernel
theorem dX7_canShift_23 : decode cX7_canShift 23 = .ok (.iload_n 3, 1) := by decide +kernel
theorem dX7_canShift_24 : decode cX7_canShift 24 = .ok (.i2l, 1) := by decide +kernel
theorem dX7_canShift_25 : decode cX7_canShift 25 = .ok (.lconst 0, 1) := by decide +kernel
theorem dX7_canShift_26 : decode cX7_canShift 26 = .ok (.lconst 1, 1) := by decide +kernel
theorem dX7_canShift_27 : decode cX7_canShift 27 = .ok (.invokestatic 40, 3) := by decide +kernel
theorem dX7_canShift_30 : decode cX7_canShift 30 = .ok (.ifCond .eq 7, 3) := by decide +kernel
theorem dX7_canShift_33 : decode cX7_canShift 33 = .ok (.iconst 0, 1) := by decide +kernel
theorem dX7_canShift_34 : decode cX7_canShift 34 = .ok (.goto 4, 3) := by decide +kernel
theorem dX7_canShift_37 : decode cX7_canShift 37 = .ok (.iconst 2, 1) := by decide +kernel
theorem dX7_canShift_38 : decode cX7_canShift 38 = .ok (.invokevirtual 163, 3) := by decide +kernel
theorem dX7_canShift_41 : decode cX7_canShift 41 = .ok (.ifCond .eq 5, 3) := by decide +kernel
theorem dX7_canShift_44 : decode cX7_canShift 44 = .ok (.iconst 0, 1) := by decide +kernel
theorem dX7_canShift_45 : decode cX7_canShift 45 = .ok (.ireturn, 1) := by decide +kernel
theorem dX7_canShift_46 : decode cX7_canShift 46 = .ok (.aload_n 0, 1) := by decide +kernel
theorem dX7_canShift_47 : decode cX7_canShift 47 = .ok (.getfield 13, 3) := by decide +kernel
theorem dX7_canShift_50 : decode cX7_canShift 50 = .ok (.iload_n 1, 1) := by decide +kernel
theorem dX7_canShift_51 : decode cX7_canShift 51 = .ok (.iload_n 2, 1) := by decide +kernel
theorem dX7_canShift_52 : decode cX7_canShift 52 = .ok (.iload_n 3, 1) := by decide +kernel
theorem dX7_canShift_53 : decode cX7_canShift 53 = .ok (.invokestatic 104, 3) := by decide +kernel
theorem dX7_canShift_56 : decode cX7_canShift 56 = .ok (.ireturn, 1) := by decide +kernel
set_option maxRecDepth 20000 in
theorem ggX7_ifShifted_X7_isPlayer : GoodIn wsX7_ifShifted wsX7_isPlayer := goodIn_r _ [6, 7, 8, 5, 9] (by decide +kernel) (by decide +kernel)
set_option maxRecDepth 20000 in
theorem gX7_ifShifted_X7_isPlayer : GoodIn wsX7_ifShifted (va_wsS RX7 100 yX7_isPlayer wsX7_isPlayer) := goodIn_app (goodIn_of _ (by decide +kernel)) ggX7_ifShifted_X7_isPlayer
set_option maxRecDepth 20000 in
theorem ggX7_ifShifted_X7_isLine : GoodIn wsX7_ifShifted wsX7_isLine := goodIn_r _ [12, 13, 7, 8, 5, 9] (by decide +kernel) (by decide +kernel)
set_option maxRecDepth 20000 in
theorem gX7_ifShifted_X7_isLine : GoodIn wsX7_ifShifted (va_wsS RX7 214 yX7_isLine wsX7_isLine) := goodIn_app (goodIn_of _ (by decide +kernel)) ggX7_ifShifted_X7_isLine
set_option maxRecDepth 20000 in
theorem ggX7_ifShifted_X7_in : GoodIn wsX7_ifShifted wsX7_in := goodIn_r _ [9] (by decide +kernel) (by decide +kernel)
set_option maxRecDepth 20000 in
theorem gX7_ifShifted_X7_in : GoodIn wsX7_ifShifted (va_wsS RX7 40 yX7_in wsX7_in) := goodIn_app (goodIn_of _ (by decide +kernel)) ggX7_ifShifted_X7_in
set_option maxRecDepth 20000 in
theorem ggX7_ifShifted_X7_refused : GoodIn wsX7_ifShifted wsX7_refused := goodIn_r _ [17, 18, 55, 56, 57, 58, 59, 60, 61, 62, 63, 64, 65, 66, 67, 68, 69, 70] (by decide +kernel) (by decide +kernel)
set_option maxRecDepth 20000 in
theorem gX7_ifShifted_X7_refused : GoodIn wsX7_ifShifted (wsV RX7 163 RX7 yX7_refused wsX7_refused) := goodIn_app (goodIn_of _ (by decide +kernel)) ggX7_ifShifted_X7_refused
set_option maxRecDepth 20000 in
theorem ggX7_ifShifted_X7_copyState : GoodIn wsX7_ifShifted wsX7_copyState := goodIn_r _ [21] (by decide +kernel) (by decide +kernel)
set_option maxRecDepth 20000 in
theorem gX7_ifShifted_X7_copyState : GoodIn wsX7_ifShifted (va_wsS RX7 117 yX7_copyState wsX7_copyState) := goodIn_app (goodIn_of _ (by decide +kernel)) ggX7_ifShifted_X7_copyState
set_option maxRecDepth 20000 in
theorem ggX7_ifShifted_X7_push : GoodIn wsX7_ifShifted wsX7_push := goodIn_r _ [24, 25, 26, 5, 27, 28, 29, 30, 31, 32, 33] (by decide +kernel) (by decide +kernel)
set_option maxRecDepth 20000 in
theorem gX7_ifShifted_X7_push : GoodIn wsX7_ifShifted (va_wsS RX7 107 yX7_push wsX7_push) := goodIn_app (goodIn_of _ (by decide +kernel)) ggX7_ifShifted_X7_push
set_option maxRecDepth 20000 in
theorem ggX7_ifShifted_X7_reachable : GoodIn wsX7_ifShifted wsX7_reachable := goodIn_r _ [36, 37, 38, 5, 39, 25, 26, 27, 40, 41, 42, 43, 44, 45] (by decide +kernel) (by decide +kernel)
set_option maxRecDepth 20000 in
theorem gX7_ifShifted_X7_reachable : GoodIn wsX7_ifShifted (va_wsS RX7 85 yX7_reachable wsX7_reachable) := goodIn_app (goodIn_of _ (by decide +kernel)) ggX7_ifShifted_X7_reachable
set_option maxRecDepth 20000 in
theorem ggX7_ifShifted_X7_canTake : GoodIn wsX7_ifShifted wsX7_canTake := goodIn_r _ [48, 49, 50, 5, 51, 52, 53, 54, 25, 26, 27, 34, 35, 36, 37, 38, 39, 40, 41, 42, 43, 44, 45] (by decide +kernel) (by decide +kernel)
set_option maxRecDepth 20000 in
theorem gX7_ifShifted_X7_canTake : GoodIn wsX7_ifShifted (va_wsS RX7 121 yX7_canTake wsX7_canTake) := goodIn_app (goodIn_of _ (by decide +kernel)) ggX7_ifShifted_X7_canTake
theorem dX7_ifShifted_0 : decode cX7_ifShifted 0 = .ok (.aload_n 0, 1) := by decide +kernel
theorem dX7_ifShifted_1 : decode cX7_ifShifted 1 = .ok (.aload_n 0, 1) := by decide +kernel
theorem dX7_ifShifted_2 : decode cX7_ifShifted 2 = .ok (.getfield 13, 3) := by decide +kernel
theorem dX7_ifShifted_5 : decode cX7_ifShifted 5 = .ok (.iload_n 1, 1) := by decide +kernel
theorem dX7_ifShifted_6 : decode cX7_ifShifted 6 = .ok (.invokestatic 100, 3) := by decide +kernel
theorem dX7_ifShifted_9 : decode cX7_ifShifted 9 = .ok (.ifCond .eq 10, 3) := by decide +kernel
theorem dX7_ifShifted_12 : decode cX7_ifShifted 12 = .ok (.iload_n 2, 1) := by decide +kernel
theorem dX7_ifShifted_13 : decode cX7_ifShifted 13 = .ok (.invokestatic 214, 3) := by decide +kernel
theorem dX7_ifShifted_16 : decode cX7_ifShifted 16 = .ok (.ifCond .ne 7, 3) := by decide +kernel
theorem dX7_ifShifted_19 : decode cX7_ifShifted 19 = .ok (.iconst 1, 1) := by decide +kernel
theorem dX7_ifShifted_20 : decode cX7_ifShifted 20 = .ok (.goto 29, 3) := by decide +kernel
theorem dX7_ifShifted_23 : decode cX7_ifShifted 23 = .ok (.iload_n 3, 1) := by decide +kernel
theorem dX7_ifShifted_24 : decode cX7_ifShifted 24 = .ok (.i2l, 1) := by decide +kernel
theorem dX7_ifShifted_25 : decode cX7_ifShifted 25 = .ok (.lconst 0, 1) := by decide +kernel
theorem dX7_ifShifted_26 : decode cX7_ifShifted 26 = .ok (.lconst 1, 1) := by decide +kernel
theorem dX7_ifShifted_27 : decode cX7_ifShifted 27 = .ok (.invokestatic 40, 3) := by decide +kernel
theorem dX7_ifShifted_30 : decode cX7_ifShifted 30 = .ok (.ifCond .eq 18, 3) := by decide +kernel
theorem dX7_ifShifted_33 : decode cX7_ifShifted 33 = .ok (.iload 4, 2) := by decide +kernel
theorem dX7_ifShifted_35 : decode cX7_ifShifted 35 = .ok (.i2l, 1) := by decide +kernel
theorem dX7_ifShifted_36 : decode cX7_ifShifted 36 = .ok (.lconst 0, 1) := by decide +kernel
theorem dX7_ifShifted_37 : decode cX7_ifShifted 37 = .ok (.lconst 1, 1) := by decide +kernel
theorem dX7_ifShifted_38 : decode cX7_ifShifted 38 = .ok (.invokestatic 40, 3) := by decide +kernel
theorem dX7_ifShifted_41 : decode cX7_ifShifted 41 = .ok (.ifCond .eq 7, 3) := by decide +kernel
theorem dX7_ifShifted_44 : decode cX7_ifShifted 44 = .ok (.iconst 0, 1) := by decide +kernel
theorem dX7_ifShifted_45 : decode cX7_ifShifted 45 = .ok (.goto 4, 3) := by decide +kernel
theorem dX7_ifShifted_48 : decode cX7_ifShifted 48 = .ok (.iconst 2, 1) := by decide +kernel
theorem dX7_ifShifted_49 : decode cX7_ifShifted 49 = .ok (.invokevirtual 163, 3) := by decide +kernel
theorem dX7_ifShifted_52 : decode cX7_ifShifted 52 = .ok (.ifCond .eq 5, 3) := by decide +kernel
theorem dX7_ifShifted_55 : decode cX7_ifShifted 55 = .ok (.iconst 0, 1) := by decide +kernel
theorem dX7_ifShifted_56 : decode cX7_ifShifted 56 = .ok (.ireturn, 1) := by decide +kernel
theorem dX7_ifShifted_57 : decode cX7_ifShifted 57 = .ok (.aload_n 0, 1) := by decide +kernel
theorem dX7_ifShifted_58 : decode cX7_ifShifted 58 = .ok (.getfield 13, 3) := by decide +kernel
theorem dX7_ifShifted_61 : decode cX7_ifShifted 61 = .ok (.iconst 0, 1) := by decide +kernel
theorem dX7_ifShifted_62 : decode cX7_ifShifted 62 = .ok (.aload_n 0, 1) := by decide +kernel
theorem dX7_ifShifted_63 : decode cX7_ifShifted 63 = .ok (.getfield 16, 3) := by decide +kernel
theorem dX7_ifShifted_66 : decode cX7_ifShifted 66 = .ok (.iconst 0, 1) := by decide +kernel
theorem dX7_ifShifted_67 : decode cX7_ifShifted 67 = .ok (.invokestatic 117, 3) := by decide +kernel
theorem dX7_ifShifted_70 : decode cX7_ifShifted 70 = .ok (.aload_n 0, 1) := by decide +kernel
theorem dX7_ifShifted_71 : decode cX7_ifShifted 71 = .ok (.getfield 16, 3) := by decide +kernel
theorem dX7_ifShifted_74 : decode cX7_ifShifted 74 = .ok (.iload_n 1, 1) := by decide +kernel
theorem dX7_ifShifted_75 : decode cX7_ifShifted 75 = .ok (.iload_n 2, 1) := by decide +kernel
theorem dX7_ifShifted_76 : decode cX7_ifShifted 76 = .ok (.iload_n 3, 1) := by decide +kernel
theorem dX7_ifShifted_77 : decode cX7_ifShifted 77 = .ok (.invokestatic 107, 3) := by decide +kernel
theorem dX7_ifShifted_80 : decode cX7_ifShifted 80 = .ok (.iload 4, 2) := by decide +kernel
theorem dX7_ifShifted_82 : decode cX7_ifShifted 82 = .ok (.ifCond .ne 14, 3) := by decide +kernel
theorem dX7_ifShifted_85 : decode cX7_ifShifted 85 = .ok (.aload_n 0, 1) := by decide +kernel
theorem dX7_ifShifted_86 : decode cX7_ifShifted 86 = .ok (.getfield 16, 3) := by decide +kernel
theorem dX7_ifShifted_89 : decode cX7_ifShifted 89 = .ok (.iload_n 1, 1) := by decide +kernel
theorem dX7_ifShifted_90 : decode cX7_ifShifted 90 = .ok (.invokestatic 85, 3) := by decide +kernel
theorem dX7_ifShifted_93 : decode cX7_ifShifted 93 = .ok (.goto 19, 3) := by decide +kernel
theorem dX7_ifShifted_96 : decode cX7_ifShifted 96 = .ok (.aload_n 0, 1) := by decide +kernel
theorem dX7_ifShifted_97 : decode cX7_ifShifted 97 = .ok (.getfield 16, 3) := by decide +kernel
theorem dX7_ifShifted_100 : decode cX7_ifShifted 100 = .ok (.iload_n 1, 1) := by decide +kernel
theorem dX7_ifShifted_101 : decode cX7_ifShifted 101 = .ok (.invokestatic 121, 3) := by decide +kernel
theorem dX7_ifShifted_104 : decode cX7_ifShifted 104 = .ok (.ifCond .eq 7, 3) := by decide +kernel
theorem dX7_ifShifted_107 : decode cX7_ifShifted 107 = .ok (.iconst 1, 1) := by decide +kernel
theorem dX7_ifShifted_108 : decode cX7_ifShifted 108 = .ok (.goto 4, 3) := by decide +kernel
theorem dX7_ifShifted_111 : decode cX7_ifShifted 111 = .ok (.iconst 0, 1) := by decide +kernel
theorem dX7_ifShifted_112 : decode cX7_ifShifted 112 = .ok (.ireturn, 1) := by decide +kernel
set_option maxRecDepth 20000 in
theorem ggX7_worstShift_X7_in : GoodIn wsX7_worstShift wsX7_in := goodIn_r _ [9] (by decide +kernel) (by decide +kernel)
set_option maxRecDepth 20000 in
theorem gX7_worstShift_X7_in : GoodIn wsX7_worstShift (va_wsS RX7 40 yX7_in wsX7_in) := goodIn_app (goodIn_of _ (by decide +kernel)) ggX7_worstShift_X7_in
set_option maxRecDepth 20000 in
theorem ggX7_worstShift_X7_refused : GoodIn wsX7_worstShift wsX7_refused := goodIn_r _ [13, 14, 75, 76, 77, 78, 79, 80, 81, 82, 83, 84, 85, 86, 87, 88, 89, 90] (by decide +kernel) (by decide +kernel)
set_option maxRecDepth 20000 in
theorem gX7_worstShift_X7_refused : GoodIn wsX7_worstShift (wsV RX7 163 RX7 yX7_refused wsX7_refused) := goodIn_app (goodIn_of _ (by decide +kernel)) ggX7_worstShift_X7_refused
set_option maxRecDepth 20000 in
theorem ggX7_worstShift_X7_findShift : GoodIn wsX7_worstShift wsX7_findShift := goodIn_r _ [18, 3, 4, 5, 19, 20, 8, 21, 22, 23, 24, 25, 26, 27, 6, 7, 9, 28, 29, 30, 31, 32, 33, 34, 35, 36, 37, 38, 39, 40, 41, 42, 43, 44, 45, 46, 47, 48, 49, 50, 51, 52, 53, 54, 55, 56, 57, 58, 59, 60, 61, 62, 63, 64, 65, 66, 67, 68, 69, 70, 71, 72, 73, 74, 75, 76, 77, 78, 79, 80, 81, 82, 83, 84, 85, 86, 87, 88, 89, 90] (by decide +kernel) (by decide +kernel)
set_option maxRecDepth 20000 in
theorem gX7_worstShift_X7_findShift : GoodIn wsX7_worstShift (wsV RX7 140 RX7 yX7_findShift wsX7_findShift) := goodIn_app (goodIn_of _ (by decide +kernel)) ggX7_worstShift_X7_findShift
theorem dX7_worstShift_0 : decode cX7_worstShift 0 = .ok (.aload_n 0, 1) := by decide +kernel
theorem dX7_worstShift_1 : decode cX7_worstShift 1 = .ok (.iload_n 1, 1) := by decide +kernel
theorem dX7_worstShift_2 : decode cX7_worstShift 2 = .ok (.i2l, 1) := by decide +kernel
theorem dX7_worstShift_3 : decode cX7_worstShift 3 = .ok (.lconst 0, 1) := by decide +kernel
theorem dX7_worstShift_4 : decode cX7_worstShift 4 = .ok (.ldc2_w 152, 3) := by decide +kernel
theorem dX7_worstShift_7 : decode cX7_worstShift 7 = .ok (.invokestatic 40, 3) := by decide +kernel
theorem dX7_worstShift_10 : decode cX7_worstShift 10 = .ok (.ifCond .eq 7, 3) := by decide +kernel
theorem dX7_worstShift_13 : decode cX7_worstShift 13 = .ok (.iconst 0, 1) := by decide +kernel
theorem dX7_worstShift_14 : decode cX7_worstShift 14 = .ok (.goto 4, 3) := by decide +kernel
theorem dX7_worstShift_17 : decode cX7_worstShift 17 = .ok (.iconst 1, 1) := by decide +kernel
theorem dX7_worstShift_18 : decode cX7_worstShift 18 = .ok (.invokevirtual 163, 3) := by decide +kernel
theorem dX7_worstShift_21 : decode cX7_worstShift 21 = .ok (.ifCond .eq 5, 3) := by decide +kernel
theorem dX7_worstShift_24 : decode cX7_worstShift 24 = .ok (.iconst 0, 1) := by decide +kernel
theorem dX7_worstShift_25 : decode cX7_worstShift 25 = .ok (.ireturn, 1) := by decide +kernel
theorem dX7_worstShift_26 : decode cX7_worstShift 26 = .ok (.aload_n 0, 1) := by decide +kernel
theorem dX7_worstShift_27 : decode cX7_worstShift 27 = .ok (.aload_n 0, 1) := by decide +kernel
theorem dX7_worstShift_28 : decode cX7_worstShift 28 = .ok (.getfield 13, 3) := by decide +kernel
theorem dX7_worstShift_31 : decode cX7_worstShift 31 = .ok (.invokevirtual 140, 3) := by decide +kernel
theorem dX7_worstShift_34 : decode cX7_worstShift 34 = .ok (.aload_n 0, 1) := by decide +kernel
theorem dX7_worstShift_35 : decode cX7_worstShift 35 = .ok (.getfield 124, 3) := by decide +kernel
theorem dX7_worstShift_38 : decode cX7_worstShift 38 = .ok (.iconst (-1), 1) := by decide +kernel
theorem dX7_worstShift_39 : decode cX7_worstShift 39 = .ok (.if_icmp .ne 7, 3) := by decide +kernel
theorem dX7_worstShift_42 : decode cX7_worstShift 42 = .ok (.iconst (-1), 1) := by decide +kernel
theorem dX7_worstShift_43 : decode cX7_worstShift 43 = .ok (.goto 30, 3) := by decide +kernel
theorem dX7_worstShift_46 : decode cX7_worstShift 46 = .ok (.iload_n 1, 1) := by decide +kernel
theorem dX7_worstShift_47 : decode cX7_worstShift 47 = .ok (.ifCond .ne 10, 3) := by decide +kernel
theorem dX7_worstShift_50 : decode cX7_worstShift 50 = .ok (.aload_n 0, 1) := by decide +kernel
theorem dX7_worstShift_51 : decode cX7_worstShift 51 = .ok (.getfield 124, 3) := by decide +kernel
theorem dX7_worstShift_54 : decode cX7_worstShift 54 = .ok (.goto 19, 3) := by decide +kernel
theorem dX7_worstShift_57 : decode cX7_worstShift 57 = .ok (.iload_n 1, 1) := by decide +kernel
theorem dX7_worstShift_58 : decode cX7_worstShift 58 = .ok (.iconst 1, 1) := by decide +kernel
theorem dX7_worstShift_59 : decode cX7_worstShift 59 = .ok (.if_icmp .ne 10, 3) := by decide +kernel
theorem dX7_worstShift_62 : decode cX7_worstShift 62 = .ok (.aload_n 0, 1) := by decide +kernel
theorem dX7_worstShift_63 : decode cX7_worstShift 63 = .ok (.getfield 134, 3) := by decide +kernel
theorem dX7_worstShift_66 : decode cX7_worstShift 66 = .ok (.goto 7, 3) := by decide +kernel
theorem dX7_worstShift_69 : decode cX7_worstShift 69 = .ok (.aload_n 0, 1) := by decide +kernel
theorem dX7_worstShift_70 : decode cX7_worstShift 70 = .ok (.getfield 137, 3) := by decide +kernel
theorem dX7_worstShift_73 : decode cX7_worstShift 73 = .ok (.ireturn, 1) := by decide +kernel
set_option maxRecDepth 20000 in
theorem ggX7_steps_X7_isPlayer : GoodIn wsX7_steps wsX7_isPlayer := goodIn_r _ [5, 6, 7, 4, 8] (by decide +kernel) (by decide +kernel)
set_option maxRecDepth 20000 in
theorem gX7_steps_X7_isPlayer : GoodIn wsX7_steps (va_wsS RX7 100 yX7_isPlayer wsX7_isPlayer) := goodIn_app (goodIn_of _ (by decide +kernel)) ggX7_steps_X7_isPlayer
set_option maxRecDepth 20000 in
theorem ggX7_steps_X7_isPlace : GoodIn wsX7_steps wsX7_isPlace := goodIn_r _ [11, 12, 6, 7, 4, 8] (by decide +kernel) (by decide +kernel)
set_option maxRecDepth 20000 in
theorem gX7_steps_X7_isPlace : GoodIn wsX7_steps (va_wsS RX7 206 yX7_isPlace wsX7_isPlace) := goodIn_app (goodIn_of _ (by decide +kernel)) ggX7_steps_X7_isPlace
set_option maxRecDepth 20000 in
theorem ggX7_steps_X7_refused : GoodIn wsX7_steps wsX7_refused := goodIn_r _ [16, 17, 30, 31, 32, 33, 34, 35, 36, 37, 38, 39, 40, 41, 42, 43, 44, 45] (by decide +kernel) (by decide +kernel)
set_option maxRecDepth 20000 in
theorem gX7_steps_X7_refused : GoodIn wsX7_steps (wsV RX7 163 RX7 yX7_refused wsX7_refused) := goodIn_app (goodIn_of _ (by decide +kernel)) ggX7_steps_X7_refused
set_option maxRecDepth 20000 in
theorem ggX7_steps_X7_reach : GoodIn wsX7_steps wsX7_reach := goodIn_r _ [20, 21, 22, 4, 23, 24, 25, 26, 27, 28, 29] (by decide +kernel) (by decide +kernel)
set_option maxRecDepth 20000 in
theorem gX7_steps_X7_reach : GoodIn wsX7_steps (va_wsS RX7 78 yX7_reach wsX7_reach) := goodIn_app (goodIn_of _ (by decide +kernel)) ggX7_steps_X7_reach
theorem dX7_steps_0 : decode cX7_steps 0 = .ok (.aload_n 0, 1) := by decide +kernel
theorem dX7_steps_1 : decode cX7_steps 1 = .ok (.aload_n 0, 1) := by decide +kernel
theorem dX7_steps_2 : decode cX7_steps 2 = .ok (.getfield 13, 3) := by decide +kernel
theorem dX7_steps_5 : decode cX7_steps 5 = .ok (.iload_n 1, 1) := by decide +kernel
theorem dX7_steps_6 : decode cX7_steps 6 = .ok (.invokestatic 100, 3) := by decide +kernel
theorem dX7_steps_9 : decode cX7_steps 9 = .ok (.ifCond .eq 14, 3) := by decide +kernel
theorem dX7_steps_12 : decode cX7_steps 12 = .ok (.iload_n 2, 1) := by decide +kernel
theorem dX7_steps_13 : decode cX7_steps 13 = .ok (.invokestatic 206, 3) := by decide +kernel
theorem dX7_steps_16 : decode cX7_steps 16 = .ok (.ifCond .eq 7, 3) := by decide +kernel
theorem dX7_steps_19 : decode cX7_steps 19 = .ok (.iconst 0, 1) := by decide +kernel
theorem dX7_steps_20 : decode cX7_steps 20 = .ok (.goto 4, 3) := by decide +kernel
theorem dX7_steps_23 : decode cX7_steps 23 = .ok (.iconst 1, 1) := by decide +kernel
theorem dX7_steps_24 : decode cX7_steps 24 = .ok (.invokevirtual 163, 3) := by decide +kernel
theorem dX7_steps_27 : decode cX7_steps 27 = .ok (.ifCond .eq 5, 3) := by decide +kernel
theorem dX7_steps_30 : decode cX7_steps 30 = .ok (.iconst 0, 1) := by decide +kernel
theorem dX7_steps_31 : decode cX7_steps 31 = .ok (.ireturn, 1) := by decide +kernel
theorem dX7_steps_32 : decode cX7_steps 32 = .ok (.iconst 0, 1) := by decide +kernel
theorem dX7_steps_33 : decode cX7_steps 33 = .ok (.istore_n 3, 1) := by decide +kernel
theorem dX7_steps_34 : decode cX7_steps 34 = .ok (.iload_n 3, 1) := by decide +kernel
theorem dX7_steps_35 : decode cX7_steps 35 = .ok (.bipush 9, 2) := by decide +kernel
theorem dX7_steps_37 : decode cX7_steps 37 = .ok (.if_icmp .ge 28, 3) := by decide +kernel
theorem dX7_steps_40 : decode cX7_steps 40 = .ok (.aload_n 0, 1) := by decide +kernel
theorem dX7_steps_41 : decode cX7_steps 41 = .ok (.getfield 13, 3) := by decide +kernel
theorem dX7_steps_44 : decode cX7_steps 44 = .ok (.iload_n 1, 1) := by decide +kernel
theorem dX7_steps_45 : decode cX7_steps 45 = .ok (.iload_n 3, 1) := by decide +kernel
theorem dX7_steps_46 : decode cX7_steps 46 = .ok (.invokestatic 78, 3) := by decide +kernel
theorem dX7_steps_49 : decode cX7_steps 49 = .ok (.iload_n 2, 1) := by decide +kernel
theorem dX7_steps_50 : decode cX7_steps 50 = .ok (.ishr, 1) := by decide +kernel
theorem dX7_steps_51 : decode cX7_steps 51 = .ok (.iconst 1, 1) := by decide +kernel
theorem dX7_steps_52 : decode cX7_steps 52 = .ok (.iand, 1) := by decide +kernel
theorem dX7_steps_53 : decode cX7_steps 53 = .ok (.iconst 1, 1) := by decide +kernel
theorem dX7_steps_54 : decode cX7_steps 54 = .ok (.if_icmp .ne 5, 3) := by decide +kernel
theorem dX7_steps_57 : decode cX7_steps 57 = .ok (.iload_n 3, 1) := by decide +kernel
theorem dX7_steps_58 : decode cX7_steps 58 = .ok (.ireturn, 1) := by decide +kernel
theorem dX7_steps_59 : decode cX7_steps 59 = .ok (.iinc 3 1, 3) := by decide +kernel
theorem dX7_steps_62 : decode cX7_steps 62 = .ok (.goto (-28), 3) := by decide +kernel
theorem dX7_steps_65 : decode cX7_steps 65 = .ok (.iconst (-1), 1) := by decide +kernel
theorem dX7_steps_66 : decode cX7_steps 66 = .ok (.ireturn, 1) := by decide +kernel
set_option maxRecDepth 20000 in
theorem ggX7_goesOn_X7_in : GoodIn wsX7_goesOn wsX7_in := goodIn_r _ [7] (by decide +kernel) (by decide +kernel)
set_option maxRecDepth 20000 in
theorem gX7_goesOn_X7_in : GoodIn wsX7_goesOn (va_wsS RX7 40 yX7_in wsX7_in) := goodIn_app (goodIn_of _ (by decide +kernel)) ggX7_goesOn_X7_in
set_option maxRecDepth 20000 in
theorem ggX7_goesOn_X7_refused : GoodIn wsX7_goesOn wsX7_refused := goodIn_r _ [11, 12, 95, 96, 97, 98, 99, 100, 101, 102, 103, 104, 105, 106, 107, 108, 109, 110] (by decide +kernel) (by decide +kernel)
set_option maxRecDepth 20000 in
theorem gX7_goesOn_X7_refused : GoodIn wsX7_goesOn (wsV RX7 163 RX7 yX7_refused wsX7_refused) := goodIn_app (goodIn_of _ (by decide +kernel)) ggX7_goesOn_X7_refused
set_option maxRecDepth 20000 in
theorem ggX7_goesOn_X7_copyState : GoodIn wsX7_goesOn wsX7_copyState := goodIn_r _ [15] (by decide +kernel) (by decide +kernel)
set_option maxRecDepth 20000 in
theorem gX7_goesOn_X7_copyState : GoodIn wsX7_goesOn (va_wsS RX7 117 yX7_copyState wsX7_copyState) := goodIn_app (goodIn_of _ (by decide +kernel)) ggX7_goesOn_X7_copyState
set_option maxRecDepth 20000 in
theorem ggX7_goesOn_X7_playOn : GoodIn wsX7_goesOn wsX7_playOn := goodIn_r _ [19, 20, 21, 22, 23, 24, 25, 6, 26, 27, 28, 29, 30, 31, 32, 33, 34, 35, 4, 5, 7, 36, 37, 38, 39, 40, 41, 42, 43, 44, 45, 46, 13, 14, 15, 47, 48, 49, 50, 51, 52, 53, 54, 55, 56, 57, 58, 59, 60, 61, 62, 63, 64, 65, 66, 67, 68, 69, 70, 71, 72, 73, 74, 75, 76, 77, 78, 79, 80, 81, 82, 83, 84, 85, 86, 87, 88, 89, 90, 91, 95, 96, 97, 98, 99, 100, 101, 102, 103, 104, 105, 106, 107, 108, 109, 110] (by decide +kernel) (by decide +kernel)
set_option maxRecDepth 20000 in
theorem gX7_goesOn_X7_playOn : GoodIn wsX7_goesOn (wsV RX7 217 RX7 yX7_playOn wsX7_playOn) := goodIn_app (goodIn_of _ (by decide +kernel)) ggX7_goesOn_X7_playOn
set_option maxRecDepth 20000 in
theorem ggX7_goesOn_X7_takenByAll : GoodIn wsX7_goesOn wsX7_takenByAll := goodIn_r _ [94, 39, 40, 6, 41] (by decide +kernel) (by decide +kernel)
set_option maxRecDepth 20000 in
theorem gX7_goesOn_X7_takenByAll : GoodIn wsX7_goesOn (va_wsS RX7 224 yX7_takenByAll wsX7_takenByAll) := goodIn_app (goodIn_of _ (by decide +kernel)) ggX7_goesOn_X7_takenByAll
theorem dX7_goesOn_0 : decode cX7_goesOn 0 = .ok (.aload_n 0, 1) := by decide +kernel
theorem dX7_goesOn_1 : decode cX7_goesOn 1 = .ok (.iload_n 1, 1) := by decide +kernel
theorem dX7_goesOn_2 : decode cX7_goesOn 2 = .ok (.i2l, 1) := by decide +kernel
theorem dX7_goesOn_3 : decode cX7_goesOn 3 = .ok (.lconst 0, 1) := by decide +kernel
theorem dX7_goesOn_4 : decode cX7_goesOn 4 = .ok (.ldc2_w 152, 3) := by decide +kernel
theorem dX7_goesOn_7 : decode cX7_goesOn 7 = .ok (.invokestatic 40, 3) := by decide +kernel
theorem dX7_goesOn_10 : decode cX7_goesOn 10 = .ok (.ifCond .eq 7, 3) := by decide +kernel
theorem dX7_goesOn_13 : decode cX7_goesOn 13 = .ok (.iconst 0, 1) := by decide +kernel
theorem dX7_goesOn_14 : decode cX7_goesOn 14 = .ok (.goto 4, 3) := by decide +kernel
theorem dX7_goesOn_17 : decode cX7_goesOn 17 = .ok (.iconst 1, 1) := by decide +kernel
theorem dX7_goesOn_18 : decode cX7_goesOn 18 = .ok (.invokevirtual 163, 3) := by decide +kernel
theorem dX7_goesOn_21 : decode cX7_goesOn 21 = .ok (.ifCond .eq 5, 3) := by decide +kernel
theorem dX7_goesOn_24 : decode cX7_goesOn 24 = .ok (.iconst 0, 1) := by decide +kernel
theorem dX7_goesOn_25 : decode cX7_goesOn 25 = .ok (.ireturn, 1) := by decide +kernel
theorem dX7_goesOn_26 : decode cX7_goesOn 26 = .ok (.aload_n 0, 1) := by decide +kernel
theorem dX7_goesOn_27 : decode cX7_goesOn 27 = .ok (.getfield 13, 3) := by decide +kernel
theorem dX7_goesOn_30 : decode cX7_goesOn 30 = .ok (.iconst 0, 1) := by decide +kernel
theorem dX7_goesOn_31 : decode cX7_goesOn 31 = .ok (.iaload, 1) := by decide +kernel
theorem dX7_goesOn_32 : decode cX7_goesOn 32 = .ok (.ifCond .ne 5, 3) := by decide +kernel
theorem dX7_goesOn_35 : decode cX7_goesOn 35 = .ok (.iconst (-1), 1) := by decide +kernel
theorem dX7_goesOn_36 : decode cX7_goesOn 36 = .ok (.ireturn, 1) := by decide +kernel
theorem dX7_goesOn_37 : decode cX7_goesOn 37 = .ok (.aload_n 0, 1) := by decide +kernel
theorem dX7_goesOn_38 : decode cX7_goesOn 38 = .ok (.getfield 13, 3) := by decide +kernel
theorem dX7_goesOn_41 : decode cX7_goesOn 41 = .ok (.iconst 0, 1) := by decide +kernel
theorem dX7_goesOn_42 : decode cX7_goesOn 42 = .ok (.aload_n 0, 1) := by decide +kernel
theorem dX7_goesOn_43 : decode cX7_goesOn 43 = .ok (.getfield 16, 3) := by decide +kernel
theorem dX7_goesOn_46 : decode cX7_goesOn 46 = .ok (.iconst 0, 1) := by decide +kernel
theorem dX7_goesOn_47 : decode cX7_goesOn 47 = .ok (.invokestatic 117, 3) := by decide +kernel
theorem dX7_goesOn_50 : decode cX7_goesOn 50 = .ok (.aload_n 0, 1) := by decide +kernel
theorem dX7_goesOn_51 : decode cX7_goesOn 51 = .ok (.getfield 16, 3) := by decide +kernel
theorem dX7_goesOn_54 : decode cX7_goesOn 54 = .ok (.iconst 4, 1) := by decide +kernel
theorem dX7_goesOn_55 : decode cX7_goesOn 55 = .ok (.iaload, 1) := by decide +kernel
theorem dX7_goesOn_56 : decode cX7_goesOn 56 = .ok (.ifCond .ne 15, 3) := by decide +kernel
theorem dX7_goesOn_59 : decode cX7_goesOn 59 = .ok (.aload_n 0, 1) := by decide +kernel
theorem dX7_goesOn_60 : decode cX7_goesOn 60 = .ok (.aload_n 0, 1) := by decide +kernel
theorem dX7_goesOn_61 : decode cX7_goesOn 61 = .ok (.getfield 16, 3) := by decide +kernel
theorem dX7_goesOn_64 : decode cX7_goesOn 64 = .ok (.invokevirtual 217, 3) := by decide +kernel
theorem dX7_goesOn_67 : decode cX7_goesOn 67 = .ok (.pop, 1) := by decide +kernel
theorem dX7_goesOn_68 : decode cX7_goesOn 68 = .ok (.goto (-18), 3) := by decide +kernel
theorem dX7_goesOn_71 : decode cX7_goesOn 71 = .ok (.iload_n 1, 1) := by decide +kernel
theorem dX7_goesOn_72 : decode cX7_goesOn 72 = .ok (.ifCond .ne 12, 3) := by decide +kernel
theorem dX7_goesOn_75 : decode cX7_goesOn 75 = .ok (.aload_n 0, 1) := by decide +kernel
theorem dX7_goesOn_76 : decode cX7_goesOn 76 = .ok (.getfield 16, 3) := by decide +kernel
theorem dX7_goesOn_79 : decode cX7_goesOn 79 = .ok (.iconst 5, 1) := by decide +kernel
theorem dX7_goesOn_80 : decode cX7_goesOn 80 = .ok (.iaload, 1) := by decide +kernel
theorem dX7_goesOn_81 : decode cX7_goesOn 81 = .ok (.goto 24, 3) := by decide +kernel
theorem dX7_goesOn_84 : decode cX7_goesOn 84 = .ok (.iload_n 1, 1) := by decide +kernel
theorem dX7_goesOn_85 : decode cX7_goesOn 85 = .ok (.iconst 1, 1) := by decide +kernel
theorem dX7_goesOn_86 : decode cX7_goesOn 86 = .ok (.if_icmp .ne 12, 3) := by decide +kernel
theorem dX7_goesOn_89 : decode cX7_goesOn 89 = .ok (.aload_n 0, 1) := by decide +kernel
theorem dX7_goesOn_90 : decode cX7_goesOn 90 = .ok (.getfield 16, 3) := by decide +kernel
theorem dX7_goesOn_93 : decode cX7_goesOn 93 = .ok (.iconst 3, 1) := by decide +kernel
theorem dX7_goesOn_94 : decode cX7_goesOn 94 = .ok (.iaload, 1) := by decide +kernel
theorem dX7_goesOn_95 : decode cX7_goesOn 95 = .ok (.goto 10, 3) := by decide +kernel
theorem dX7_goesOn_98 : decode cX7_goesOn 98 = .ok (.aload_n 0, 1) := by decide +kernel
theorem dX7_goesOn_99 : decode cX7_goesOn 99 = .ok (.getfield 16, 3) := by decide +kernel
theorem dX7_goesOn_102 : decode cX7_goesOn 102 = .ok (.invokestatic 224, 3) := by decide +kernel
theorem dX7_goesOn_105 : decode cX7_goesOn 105 = .ok (.ireturn, 1) := by decide +kernel
set_option maxRecDepth 20000 in
theorem ggX7_command_X7_isLine : GoodIn wsX7_command wsX7_isLine := goodIn_r _ [5, 6, 7, 8, 4, 9] (by decide +kernel) (by decide +kernel)
set_option maxRecDepth 20000 in
theorem gX7_command_X7_isLine : GoodIn wsX7_command (va_wsS RX7 214 yX7_isLine wsX7_isLine) := goodIn_app (goodIn_of _ (by decide +kernel)) ggX7_command_X7_isLine
set_option maxRecDepth 20000 in
theorem ggX7_command_X7_in : GoodIn wsX7_command wsX7_in := goodIn_r _ [9] (by decide +kernel) (by decide +kernel)
set_option maxRecDepth 20000 in
theorem gX7_command_X7_in : GoodIn wsX7_command (va_wsS RX7 40 yX7_in wsX7_in) := goodIn_app (goodIn_of _ (by decide +kernel)) ggX7_command_X7_in
set_option maxRecDepth 20000 in
theorem ggX7_command_X7_canShiftNow : GoodIn wsX7_command wsX7_canShiftNow := goodIn_r _ [12, 13, 14, 4, 15, 16, 17, 18, 7, 8, 9, 19, 20, 21, 22, 23, 24] (by decide +kernel) (by decide +kernel)
set_option maxRecDepth 20000 in
theorem gX7_command_X7_canShiftNow : GoodIn wsX7_command (va_wsS RX7 127 yX7_canShiftNow wsX7_canShiftNow) := goodIn_app (goodIn_of _ (by decide +kernel)) ggX7_command_X7_canShiftNow
set_option maxRecDepth 20000 in
theorem ggX7_command_X7_shiftOn : GoodIn wsX7_command wsX7_shiftOn := goodIn_r _ [27, 28, 29, 4, 30, 22, 23, 24, 31, 32, 33, 34, 35, 36, 37, 38, 39, 40, 41, 42, 43, 44, 45, 46, 47, 48, 49, 50, 51] (by decide +kernel) (by decide +kernel)
set_option maxRecDepth 20000 in
theorem gX7_command_X7_shiftOn : GoodIn wsX7_command (va_wsS RX7 143 yX7_shiftOn wsX7_shiftOn) := goodIn_app (goodIn_of _ (by decide +kernel)) ggX7_command_X7_shiftOn
set_option maxRecDepth 20000 in
theorem ggX7_command_X7_isPlace : GoodIn wsX7_command wsX7_isPlace := goodIn_r _ [54, 55, 7, 8, 4, 9] (by decide +kernel) (by decide +kernel)
set_option maxRecDepth 20000 in
theorem gX7_command_X7_isPlace : GoodIn wsX7_command (va_wsS RX7 206 yX7_isPlace wsX7_isPlace) := goodIn_app (goodIn_of _ (by decide +kernel)) ggX7_command_X7_isPlace
set_option maxRecDepth 20000 in
theorem ggX7_command_X7_canGo : GoodIn wsX7_command wsX7_canGo := goodIn_r _ [58, 13, 14, 4, 15, 37, 38, 39, 40, 41, 42, 22, 23, 24, 43, 44, 45, 46, 47, 48] (by decide +kernel) (by decide +kernel)
set_option maxRecDepth 20000 in
theorem gX7_command_X7_canGo : GoodIn wsX7_command (va_wsS RX7 183 yX7_canGo wsX7_canGo) := goodIn_app (goodIn_of _ (by decide +kernel)) ggX7_command_X7_canGo
set_option maxRecDepth 20000 in
theorem ggX7_command_X7_goOn : GoodIn wsX7_command wsX7_goOn := goodIn_r _ [61, 22, 23, 4, 24, 62, 63, 64, 65, 66, 67] (by decide +kernel) (by decide +kernel)
set_option maxRecDepth 20000 in
theorem gX7_command_X7_goOn : GoodIn wsX7_command (va_wsS RX7 149 yX7_goOn wsX7_goOn) := goodIn_app (goodIn_of _ (by decide +kernel)) ggX7_command_X7_goOn
set_option maxRecDepth 20000 in
theorem ggX7_command_X7_canLock : GoodIn wsX7_command wsX7_canLock := goodIn_r _ [70, 13, 14, 4, 15] (by decide +kernel) (by decide +kernel)
set_option maxRecDepth 20000 in
theorem gX7_command_X7_canLock : GoodIn wsX7_command (va_wsS RX7 186 yX7_canLock wsX7_canLock) := goodIn_app (goodIn_of _ (by decide +kernel)) ggX7_command_X7_canLock
set_option maxRecDepth 20000 in
theorem ggX7_command_X7_lockOn : GoodIn wsX7_command wsX7_lockOn := goodIn_r _ [73, 22, 23, 4, 24, 65, 66, 67] (by decide +kernel) (by decide +kernel)
set_option maxRecDepth 20000 in
theorem gX7_command_X7_lockOn : GoodIn wsX7_command (va_wsS RX7 189 yX7_lockOn wsX7_lockOn) := goodIn_app (goodIn_of _ (by decide +kernel)) ggX7_command_X7_lockOn
set_option maxRecDepth 20000 in
theorem ggX7_command_X7_isOn : GoodIn wsX7_command wsX7_isOn := goodIn_r _ [15] (by decide +kernel) (by decide +kernel)
set_option maxRecDepth 20000 in
theorem gX7_command_X7_isOn : GoodIn wsX7_command (va_wsS RX7 96 yX7_isOn wsX7_isOn) := goodIn_app (goodIn_of _ (by decide +kernel)) ggX7_command_X7_isOn
set_option maxRecDepth 20000 in
theorem ggX7_command_X7_playOn : GoodIn wsX7_command wsX7_playOn := goodIn_r _ [77, 78, 79, 80, 81, 82, 83, 4, 84, 10, 11, 12, 13, 14, 15, 16, 17, 18, 7, 8, 9, 19, 20, 21, 22, 23, 24, 85, 86, 87, 88, 89, 90, 91, 92, 28, 29, 30, 31, 32, 33, 34, 35, 36, 93, 94, 95, 96, 97, 98, 62, 63, 64, 37, 38, 39, 40, 41, 42, 43, 44, 45, 46, 47, 48, 49, 50, 51, 25, 26, 27, 99, 100, 101, 59, 60, 61, 65, 66, 67, 102, 103, 104, 105, 106, 107, 108, 109, 110, 111, 112, 113, 114, 115, 116, 117] (by decide +kernel) (by decide +kernel)
set_option maxRecDepth 20000 in
theorem gX7_command_X7_playOn : GoodIn wsX7_command (wsV RX7 217 RX7 yX7_playOn wsX7_playOn) := goodIn_app (goodIn_of _ (by decide +kernel)) ggX7_command_X7_playOn
set_option maxRecDepth 20000 in
theorem ggX7_command_X7_isPlayer : GoodIn wsX7_command wsX7_isPlayer := goodIn_r _ [18, 7, 8, 4, 9] (by decide +kernel) (by decide +kernel)
set_option maxRecDepth 20000 in
theorem gX7_command_X7_isPlayer : GoodIn wsX7_command (va_wsS RX7 100 yX7_isPlayer wsX7_isPlayer) := goodIn_app (goodIn_of _ (by decide +kernel)) ggX7_command_X7_isPlayer
set_option maxRecDepth 20000 in
theorem ggX7_command_X7_reachable : GoodIn wsX7_command wsX7_reachable := goodIn_r _ [39, 40, 41, 4, 42, 22, 23, 24, 43, 44, 45, 46, 47, 48] (by decide +kernel) (by decide +kernel)
set_option maxRecDepth 20000 in
theorem gX7_command_X7_reachable : GoodIn wsX7_command (va_wsS RX7 85 yX7_reachable wsX7_reachable) := goodIn_app (goodIn_of _ (by decide +kernel)) ggX7_command_X7_reachable
set_option maxRecDepth 20000 in
theorem ggX7_command_X7_at : GoodIn wsX7_command wsX7_at := goodIn_r _ [24] (by decide +kernel) (by decide +kernel)
set_option maxRecDepth 20000 in
theorem gX7_command_X7_at : GoodIn wsX7_command (va_wsS RX7 56 yX7_at wsX7_at) := goodIn_app (goodIn_of _ (by decide +kernel)) ggX7_command_X7_at
theorem dX7_command_0 : decode cX7_command 0 = .ok (.iload_n 2, 1) := by decide +kernel
theorem dX7_command_1 : decode cX7_command 1 = .ok (.ifCond .ne 11, 3) := by decide +kernel
theorem dX7_command_4 : decode cX7_command 4 = .ok (.iload_n 3, 1) := by decide +kernel
theorem dX7_command_5 : decode cX7_command 5 = .ok (.ifCond .ne 7, 3) := by decide +kernel
theorem dX7_command_8 : decode cX7_command 8 = .ok (.iconst 1, 1) := by decide +kernel
theorem dX7_command_9 : decode cX7_command 9 = .ok (.goto 4, 3) := by decide +kernel
theorem dX7_command_12 : decode cX7_command 12 = .ok (.iconst 0, 1) := by decide +kernel
theorem dX7_command_13 : decode cX7_command 13 = .ok (.istore 5, 2) := by decide +kernel
theorem dX7_command_15 : decode cX7_command 15 = .ok (.iload_n 1, 1) := by decide +kernel
theorem dX7_command_16 : decode cX7_command 16 = .ok (.tableswitch 413 1 9 #[52, 104, 147, 189, 226, 271, 309, 354, 386], 52) := by decide +kernel
theorem dX7_command_68 : decode cX7_command 68 = .ok (.iload_n 3, 1) := by decide +kernel
theorem dX7_command_69 : decode cX7_command 69 = .ok (.invokestatic 214, 3) := by decide +kernel
theorem dX7_command_72 : decode cX7_command 72 = .ok (.ifCond .eq 46, 3) := by decide +kernel
theorem dX7_command_75 : decode cX7_command 75 = .ok (.iload 4, 2) := by decide +kernel
theorem dX7_command_77 : decode cX7_command 77 = .ok (.i2l, 1) := by decide +kernel
theorem dX7_command_78 : decode cX7_command 78 = .ok (.lconst 0, 1) := by decide +kernel
theorem dX7_command_79 : decode cX7_command 79 = .ok (.lconst 1, 1) := by decide +kernel
theorem dX7_command_80 : decode cX7_command 80 = .ok (.invokestatic 40, 3) := by decide +kernel
theorem dX7_command_83 : decode cX7_command 83 = .ok (.ifCond .eq 35, 3) := by decide +kernel
theorem dX7_command_86 : decode cX7_command 86 = .ok (.aload_n 0, 1) := by decide +kernel
theorem dX7_command_87 : decode cX7_command 87 = .ok (.getfield 16, 3) := by decide +kernel
theorem dX7_command_90 : decode cX7_command 90 = .ok (.iload_n 2, 1) := by decide +kernel
theorem dX7_command_91 : decode cX7_command 91 = .ok (.iload_n 3, 1) := by decide +kernel
theorem dX7_command_92 : decode cX7_command 92 = .ok (.iload 4, 2) := by decide +kernel
theorem dX7_command_94 : decode cX7_command 94 = .ok (.invokestatic 127, 3) := by decide +kernel
theorem dX7_command_97 : decode cX7_command 97 = .ok (.ifCond .eq 21, 3) := by decide +kernel
theorem dX7_command_100 : decode cX7_command 100 = .ok (.aload_n 0, 1) := by decide +kernel
theorem dX7_command_101 : decode cX7_command 101 = .ok (.getfield 16, 3) := by decide +kernel
theorem dX7_command_104 : decode cX7_command 104 = .ok (.iload_n 2, 1) := by decide +kernel
theorem dX7_command_105 : decode cX7_command 105 = .ok (.iload_n 3, 1) := by decide +kernel
theorem dX7_command_106 : decode cX7_command 106 = .ok (.iload 4, 2) := by decide +kernel
theorem dX7_command_108 : decode cX7_command 108 = .ok (.invokestatic 143, 3) := by decide +kernel
theorem dX7_command_111 : decode cX7_command 111 = .ok (.ifCond .le 7, 3) := by decide +kernel
theorem dX7_command_114 : decode cX7_command 114 = .ok (.iconst 1, 1) := by decide +kernel
theorem dX7_command_115 : decode cX7_command 115 = .ok (.goto 4, 3) := by decide +kernel
theorem dX7_command_118 : decode cX7_command 118 = .ok (.iconst 0, 1) := by decide +kernel
theorem dX7_command_119 : decode cX7_command 119 = .ok (.ireturn, 1) := by decide +kernel
theorem dX7_command_120 : decode cX7_command 120 = .ok (.iload 5, 2) := by decide +kernel
theorem dX7_command_122 : decode cX7_command 122 = .ok (.ifCond .eq 39, 3) := by decide +kernel
theorem dX7_command_125 : decode cX7_command 125 = .ok (.iload 4, 2) := by decide +kernel
theorem dX7_command_127 : decode cX7_command 127 = .ok (.invokestatic 206, 3) := by decide +kernel
theorem dX7_command_130 : decode cX7_command 130 = .ok (.ifCond .eq 31, 3) := by decide +kernel
theorem dX7_command_133 : decode cX7_command 133 = .ok (.aload_n 0, 1) := by decide +kernel
theorem dX7_command_134 : decode cX7_command 134 = .ok (.getfield 16, 3) := by decide +kernel
theorem dX7_command_137 : decode cX7_command 137 = .ok (.iload 4, 2) := by decide +kernel
theorem dX7_command_139 : decode cX7_command 139 = .ok (.invokestatic 183, 3) := by decide +kernel
theorem dX7_command_142 : decode cX7_command 142 = .ok (.ifCond .eq 19, 3) := by decide +kernel
theorem dX7_command_145 : decode cX7_command 145 = .ok (.aload_n 0, 1) := by decide +kernel
theorem dX7_command_146 : decode cX7_command 146 = .ok (.getfield 16, 3) := by decide +kernel
theorem dX7_command_149 : decode cX7_command 149 = .ok (.iload 4, 2) := by decide +kernel
theorem dX7_command_151 : decode cX7_command 151 = .ok (.invokestatic 149, 3) := by decide +kernel
theorem dX7_command_154 : decode cX7_command 154 = .ok (.ifCond .lt 7, 3) := by decide +kernel
theorem dX7_command_157 : decode cX7_command 157 = .ok (.iconst 1, 1) := by decide +kernel
theorem dX7_command_158 : decode cX7_command 158 = .ok (.goto 4, 3) := by decide +kernel
theorem dX7_command_161 : decode cX7_command 161 = .ok (.iconst 0, 1) := by decide +kernel
theorem dX7_command_162 : decode cX7_command 162 = .ok (.ireturn, 1) := by decide +kernel
theorem dX7_command_163 : decode cX7_command 163 = .ok (.iload 5, 2) := by decide +kernel
theorem dX7_command_165 : decode cX7_command 165 = .ok (.ifCond .eq 38, 3) := by decide +kernel
theorem dX7_command_168 : decode cX7_command 168 = .ok (.iload 4, 2) := by decide +kernel
theorem dX7_command_170 : decode cX7_command 170 = .ok (.invokestatic 214, 3) := by decide +kernel
theorem dX7_command_173 : decode cX7_command 173 = .ok (.ifCond .eq 30, 3) := by decide +kernel
theorem dX7_command_176 : decode cX7_command 176 = .ok (.aload_n 0, 1) := by decide +kernel
theorem dX7_command_177 : decode cX7_command 177 = .ok (.getfield 16, 3) := by decide +kernel
theorem dX7_command_180 : decode cX7_command 180 = .ok (.invokestatic 186, 3) := by decide +kernel
theorem dX7_command_183 : decode cX7_command 183 = .ok (.ifCond .eq 20, 3) := by decide +kernel
theorem dX7_command_186 : decode cX7_command 186 = .ok (.aload_n 0, 1) := by decide +kernel
theorem dX7_command_187 : decode cX7_command 187 = .ok (.getfield 16, 3) := by decide +kernel
theorem dX7_command_190 : decode cX7_command 190 = .ok (.iload 4, 2) := by decide +kernel
theorem dX7_command_192 : decode cX7_command 192 = .ok (.invokestatic 189, 3) := by decide +kernel
theorem dX7_command_195 : decode cX7_command 195 = .ok (.iconst (-1), 1) := by decide +kernel
theorem dX7_command_196 : decode cX7_command 196 = .ok (.if_icmp .lt 7, 3) := by decide +kernel
theorem dX7_command_199 : decode cX7_command 199 = .ok (.iconst 1, 1) := by decide +kernel
theorem dX7_command_200 : decode cX7_command 200 = .ok (.goto 4, 3) := by decide +kernel
theorem dX7_command_203 : decode cX7_command 203 = .ok (.iconst 0, 1) := by decide +kernel
theorem dX7_command_204 : decode cX7_command 204 = .ok (.ireturn, 1) := by decide +kernel
theorem dX7_command_205 : decode cX7_command 205 = .ok (.iload 5, 2) := by decide +kernel
theorem dX7_command_207 : decode cX7_command 207 = .ok (.ifCond .eq 33, 3) := by decide +kernel
theorem dX7_command_210 : decode cX7_command 210 = .ok (.iload 4, 2) := by decide +kernel
theorem dX7_command_212 : decode cX7_command 212 = .ok (.ifCond .ne 28, 3) := by decide +kernel
theorem dX7_command_215 : decode cX7_command 215 = .ok (.aload_n 0, 1) := by decide +kernel
theorem dX7_command_216 : decode cX7_command 216 = .ok (.getfield 16, 3) := by decide +kernel
theorem dX7_command_219 : decode cX7_command 219 = .ok (.invokestatic 96, 3) := by decide +kernel
theorem dX7_command_222 : decode cX7_command 222 = .ok (.ifCond .eq 18, 3) := by decide +kernel
theorem dX7_command_225 : decode cX7_command 225 = .ok (.aload_n 0, 1) := by decide +kernel
theorem dX7_command_226 : decode cX7_command 226 = .ok (.aload_n 0, 1) := by decide +kernel
theorem dX7_command_227 : decode cX7_command 227 = .ok (.getfield 16, 3) := by decide +kernel
theorem dX7_command_230 : decode cX7_command 230 = .ok (.invokevirtual 217, 3) := by decide +kernel
theorem dX7_command_233 : decode cX7_command 233 = .ok (.ifCond .lt 7, 3) := by decide +kernel
theorem dX7_command_236 : decode cX7_command 236 = .ok (.iconst 1, 1) := by decide +kernel
theorem dX7_command_237 : decode cX7_command 237 = .ok (.goto 4, 3) := by decide +kernel
theorem dX7_command_240 : decode cX7_command 240 = .ok (.iconst 0, 1) := by decide +kernel
theorem dX7_command_241 : decode cX7_command 241 = .ok (.ireturn, 1) := by decide +kernel
theorem dX7_command_242 : decode cX7_command 242 = .ok (.iload 4, 2) := by decide +kernel
theorem dX7_command_244 : decode cX7_command 244 = .ok (.ifCond .ne 41, 3) := by decide +kernel
theorem dX7_command_247 : decode cX7_command 247 = .ok (.aload_n 0, 1) := by decide +kernel
theorem dX7_command_248 : decode cX7_command 248 = .ok (.getfield 16, 3) := by decide +kernel
theorem dX7_command_251 : decode cX7_command 251 = .ok (.iload_n 2, 1) := by decide +kernel
theorem dX7_command_252 : decode cX7_command 252 = .ok (.invokestatic 100, 3) := by decide +kernel
theorem dX7_command_255 : decode cX7_command 255 = .ok (.ifCond .eq 30, 3) := by decide +kernel
theorem dX7_command_258 : decode cX7_command 258 = .ok (.iload_n 3, 1) := by decide +kernel
theorem dX7_command_259 : decode cX7_command 259 = .ok (.invokestatic 206, 3) := by decide +kernel
theorem dX7_command_262 : decode cX7_command 262 = .ok (.ifCond .eq 23, 3) := by decide +kernel
theorem dX7_command_265 : decode cX7_command 265 = .ok (.aload_n 0, 1) := by decide +kernel
theorem dX7_command_266 : decode cX7_command 266 = .ok (.getfield 16, 3) := by decide +kernel
theorem dX7_command_269 : decode cX7_command 269 = .ok (.iload_n 2, 1) := by decide +kernel
theorem dX7_command_270 : decode cX7_command 270 = .ok (.invokestatic 85, 3) := by decide +kernel
theorem dX7_command_273 : decode cX7_command 273 = .ok (.iload_n 3, 1) := by decide +kernel
theorem dX7_command_274 : decode cX7_command 274 = .ok (.ishr, 1) := by decide +kernel
theorem dX7_command_275 : decode cX7_command 275 = .ok (.iconst 1, 1) := by decide +kernel
theorem dX7_command_276 : decode cX7_command 276 = .ok (.iand, 1) := by decide +kernel
theorem dX7_command_277 : decode cX7_command 277 = .ok (.iconst 1, 1) := by decide +kernel
theorem dX7_command_278 : decode cX7_command 278 = .ok (.if_icmp .ne 7, 3) := by decide +kernel
theorem dX7_command_281 : decode cX7_command 281 = .ok (.iconst 1, 1) := by decide +kernel
theorem dX7_command_282 : decode cX7_command 282 = .ok (.goto 4, 3) := by decide +kernel
theorem dX7_command_285 : decode cX7_command 285 = .ok (.iconst 0, 1) := by decide +kernel
theorem dX7_command_286 : decode cX7_command 286 = .ok (.ireturn, 1) := by decide +kernel
theorem dX7_command_287 : decode cX7_command 287 = .ok (.iload_n 3, 1) := by decide +kernel
theorem dX7_command_288 : decode cX7_command 288 = .ok (.ifCond .ne 35, 3) := by decide +kernel
theorem dX7_command_291 : decode cX7_command 291 = .ok (.aload_n 0, 1) := by decide +kernel
theorem dX7_command_292 : decode cX7_command 292 = .ok (.getfield 16, 3) := by decide +kernel
theorem dX7_command_295 : decode cX7_command 295 = .ok (.iload_n 2, 1) := by decide +kernel
theorem dX7_command_296 : decode cX7_command 296 = .ok (.invokestatic 100, 3) := by decide +kernel
theorem dX7_command_299 : decode cX7_command 299 = .ok (.ifCond .eq 24, 3) := by decide +kernel
theorem dX7_command_302 : decode cX7_command 302 = .ok (.aload_n 0, 1) := by decide +kernel
theorem dX7_command_303 : decode cX7_command 303 = .ok (.getfield 16, 3) := by decide +kernel
theorem dX7_command_306 : decode cX7_command 306 = .ok (.iload_n 2, 1) := by decide +kernel
theorem dX7_command_307 : decode cX7_command 307 = .ok (.invokestatic 56, 3) := by decide +kernel
theorem dX7_command_310 : decode cX7_command 310 = .ok (.bipush 23, 2) := by decide +kernel
theorem dX7_command_312 : decode cX7_command 312 = .ok (.iadd, 1) := by decide +kernel
theorem dX7_command_313 : decode cX7_command 313 = .ok (.iaload, 1) := by decide +kernel
theorem dX7_command_314 : decode cX7_command 314 = .ok (.iload 4, 2) := by decide +kernel
theorem dX7_command_316 : decode cX7_command 316 = .ok (.if_icmp .lt 7, 3) := by decide +kernel
theorem dX7_command_319 : decode cX7_command 319 = .ok (.iconst 1, 1) := by decide +kernel
theorem dX7_command_320 : decode cX7_command 320 = .ok (.goto 4, 3) := by decide +kernel
theorem dX7_command_323 : decode cX7_command 323 = .ok (.iconst 0, 1) := by decide +kernel
theorem dX7_command_324 : decode cX7_command 324 = .ok (.ireturn, 1) := by decide +kernel
theorem dX7_command_325 : decode cX7_command 325 = .ok (.iload 4, 2) := by decide +kernel
theorem dX7_command_327 : decode cX7_command 327 = .ok (.ifCond .ne 41, 3) := by decide +kernel
theorem dX7_command_330 : decode cX7_command 330 = .ok (.aload_n 0, 1) := by decide +kernel
theorem dX7_command_331 : decode cX7_command 331 = .ok (.getfield 16, 3) := by decide +kernel
theorem dX7_command_334 : decode cX7_command 334 = .ok (.iload_n 2, 1) := by decide +kernel
theorem dX7_command_335 : decode cX7_command 335 = .ok (.invokestatic 100, 3) := by decide +kernel
theorem dX7_command_338 : decode cX7_command 338 = .ok (.ifCond .eq 30, 3) := by decide +kernel
theorem dX7_command_341 : decode cX7_command 341 = .ok (.iload_n 3, 1) := by decide +kernel
theorem dX7_command_342 : decode cX7_command 342 = .ok (.invokestatic 214, 3) := by decide +kernel
theorem dX7_command_345 : decode cX7_command 345 = .ok (.ifCond .eq 23, 3) := by decide +kernel
theorem dX7_command_348 : decode cX7_command 348 = .ok (.aload_n 0, 1) := by decide +kernel
theorem dX7_command_349 : decode cX7_command 349 = .ok (.getfield 16, 3) := by decide +kernel
theorem dX7_command_352 : decode cX7_command 352 = .ok (.iload_n 2, 1) := by decide +kernel
theorem dX7_command_353 : decode cX7_command 353 = .ok (.invokestatic 56, 3) := by decide +kernel
theorem dX7_command_356 : decode cX7_command 356 = .ok (.bipush 25, 2) := by decide +kernel
theorem dX7_command_358 : decode cX7_command 358 = .ok (.iadd, 1) := by decide +kernel
theorem dX7_command_359 : decode cX7_command 359 = .ok (.iaload, 1) := by decide +kernel
theorem dX7_command_360 : decode cX7_command 360 = .ok (.iload_n 3, 1) := by decide +kernel
theorem dX7_command_361 : decode cX7_command 361 = .ok (.if_icmp .ne 7, 3) := by decide +kernel
theorem dX7_command_364 : decode cX7_command 364 = .ok (.iconst 1, 1) := by decide +kernel
theorem dX7_command_365 : decode cX7_command 365 = .ok (.goto 4, 3) := by decide +kernel
theorem dX7_command_368 : decode cX7_command 368 = .ok (.iconst 0, 1) := by decide +kernel
theorem dX7_command_369 : decode cX7_command 369 = .ok (.ireturn, 1) := by decide +kernel
theorem dX7_command_370 : decode cX7_command 370 = .ok (.iload 5, 2) := by decide +kernel
theorem dX7_command_372 : decode cX7_command 372 = .ok (.ifCond .eq 28, 3) := by decide +kernel
theorem dX7_command_375 : decode cX7_command 375 = .ok (.aload_n 0, 1) := by decide +kernel
theorem dX7_command_376 : decode cX7_command 376 = .ok (.getfield 16, 3) := by decide +kernel
theorem dX7_command_379 : decode cX7_command 379 = .ok (.invokestatic 96, 3) := by decide +kernel
theorem dX7_command_382 : decode cX7_command 382 = .ok (.ifCond .eq 18, 3) := by decide +kernel
theorem dX7_command_385 : decode cX7_command 385 = .ok (.aload_n 0, 1) := by decide +kernel
theorem dX7_command_386 : decode cX7_command 386 = .ok (.getfield 16, 3) := by decide +kernel
theorem dX7_command_389 : decode cX7_command 389 = .ok (.iconst 1, 1) := by decide +kernel
theorem dX7_command_390 : decode cX7_command 390 = .ok (.iaload, 1) := by decide +kernel
theorem dX7_command_391 : decode cX7_command 391 = .ok (.iload 4, 2) := by decide +kernel
theorem dX7_command_393 : decode cX7_command 393 = .ok (.if_icmp .ne 7, 3) := by decide +kernel
theorem dX7_command_396 : decode cX7_command 396 = .ok (.iconst 1, 1) := by decide +kernel
theorem dX7_command_397 : decode cX7_command 397 = .ok (.goto 4, 3) := by decide +kernel
theorem dX7_command_400 : decode cX7_command 400 = .ok (.iconst 0, 1) := by decide +kernel
theorem dX7_command_401 : decode cX7_command 401 = .ok (.ireturn, 1) := by decide +kernel
theorem dX7_command_402 : decode cX7_command 402 = .ok (.aload_n 0, 1) := by decide +kernel
theorem dX7_command_403 : decode cX7_command 403 = .ok (.getfield 16, 3) := by decide +kernel
theorem dX7_command_406 : decode cX7_command 406 = .ok (.iconst 3, 1) := by decide +kernel
theorem dX7_command_407 : decode cX7_command 407 = .ok (.iaload, 1) := by decide +kernel
theorem dX7_command_408 : decode cX7_command 408 = .ok (.bipush 100, 2) := by decide +kernel
theorem dX7_command_410 : decode cX7_command 410 = .ok (.iload_n 2, 1) := by decide +kernel
theorem dX7_command_411 : decode cX7_command 411 = .ok (.imul, 1) := by decide +kernel
theorem dX7_command_412 : decode cX7_command 412 = .ok (.bipush 10, 2) := by decide +kernel
theorem dX7_command_414 : decode cX7_command 414 = .ok (.iload_n 3, 1) := by decide +kernel
theorem dX7_command_415 : decode cX7_command 415 = .ok (.imul, 1) := by decide +kernel
theorem dX7_command_416 : decode cX7_command 416 = .ok (.iadd, 1) := by decide +kernel
theorem dX7_command_417 : decode cX7_command 417 = .ok (.iload 4, 2) := by decide +kernel
theorem dX7_command_419 : decode cX7_command 419 = .ok (.iadd, 1) := by decide +kernel
theorem dX7_command_420 : decode cX7_command 420 = .ok (.if_icmp .gt 7, 3) := by decide +kernel
theorem dX7_command_423 : decode cX7_command 423 = .ok (.iconst 1, 1) := by decide +kernel
theorem dX7_command_424 : decode cX7_command 424 = .ok (.goto 4, 3) := by decide +kernel
theorem dX7_command_427 : decode cX7_command 427 = .ok (.iconst 0, 1) := by decide +kernel
theorem dX7_command_428 : decode cX7_command 428 = .ok (.ireturn, 1) := by decide +kernel
theorem dX7_command_429 : decode cX7_command 429 = .ok (.iconst 0, 1) := by decide +kernel
theorem dX7_command_430 : decode cX7_command 430 = .ok (.ireturn, 1) := by decide +kernel
set_option maxRecDepth 20000 in
theorem ggX7_runScript_X7_in : GoodIn wsX7_runScript wsX7_in := goodIn_r _ [8] (by decide +kernel) (by decide +kernel)
set_option maxRecDepth 20000 in
theorem gX7_runScript_X7_in : GoodIn wsX7_runScript (va_wsS RX7 40 yX7_in wsX7_in) := goodIn_app (goodIn_of _ (by decide +kernel)) ggX7_runScript_X7_in
set_option maxRecDepth 20000 in
theorem ggX7_runScript_X7_refused : GoodIn wsX7_runScript wsX7_refused := goodIn_r _ [12, 13, 114, 115, 116, 117, 118, 119, 120, 121, 122, 123, 124, 125, 126, 127, 128, 129] (by decide +kernel) (by decide +kernel)
set_option maxRecDepth 20000 in
theorem gX7_runScript_X7_refused : GoodIn wsX7_runScript (wsV RX7 163 RX7 yX7_refused wsX7_refused) := goodIn_app (goodIn_of _ (by decide +kernel)) ggX7_runScript_X7_refused
set_option maxRecDepth 20000 in
theorem ggX7_runScript_X7_copyState : GoodIn wsX7_runScript wsX7_copyState := goodIn_r _ [16] (by decide +kernel) (by decide +kernel)
set_option maxRecDepth 20000 in
theorem gX7_runScript_X7_copyState : GoodIn wsX7_runScript (va_wsS RX7 117 yX7_copyState wsX7_copyState) := goodIn_app (goodIn_of _ (by decide +kernel)) ggX7_runScript_X7_copyState
set_option maxRecDepth 20000 in
theorem ggX7_runScript_X7_command : GoodIn wsX7_runScript wsX7_command := goodIn_r _ [20, 4, 21, 22, 7, 23, 24, 5, 6, 8, 25, 26, 27, 28, 29, 30, 31, 32, 33, 34, 35, 36, 37, 38, 39, 40, 41, 42, 43, 44, 45, 46, 47, 48, 49, 50, 51, 52, 53, 54, 55, 56, 57, 58, 59, 60, 61, 62, 63, 64, 65, 66, 67, 68, 69, 70, 71, 72, 73, 74, 75, 76, 77, 78, 79, 80, 81, 82, 83, 84, 85, 86, 87, 88, 89, 90, 91, 92, 93, 94, 95, 96, 97, 98, 99, 100, 101, 102, 103, 104, 14, 15, 16, 105, 106, 107, 108, 109, 110, 111, 112, 113, 114, 115, 116, 117, 118, 119, 120, 121, 122, 123, 124, 125, 126, 127, 128, 129] (by decide +kernel) (by decide +kernel)
set_option maxRecDepth 20000 in
theorem gX7_runScript_X7_command : GoodIn wsX7_runScript (wsV RX7 231 RX7 yX7_command wsX7_command) := goodIn_app (goodIn_of _ (by decide +kernel)) ggX7_runScript_X7_command
theorem dX7_runScript_0 : decode cX7_runScript 0 = .ok (.lconst 1, 1) := by decide +kernel
theorem dX7_runScript_1 : decode cX7_runScript 1 = .ok (.lstore 4, 2) := by decide +kernel
theorem dX7_runScript_3 : decode cX7_runScript 3 = .ok (.iconst 0, 1) := by decide +kernel
theorem dX7_runScript_4 : decode cX7_runScript 4 = .ok (.istore 6, 2) := by decide +kernel
theorem dX7_runScript_6 : decode cX7_runScript 6 = .ok (.iload 6, 2) := by decide +kernel
theorem dX7_runScript_8 : decode cX7_runScript 8 = .ok (.iload_n 1, 1) := by decide +kernel
theorem dX7_runScript_9 : decode cX7_runScript 9 = .ok (.if_icmp .ge 23, 3) := by decide +kernel
theorem dX7_runScript_12 : decode cX7_runScript 12 = .ok (.iload 6, 2) := by decide +kernel
theorem dX7_runScript_14 : decode cX7_runScript 14 = .ok (.iconst 3, 1) := by decide +kernel
theorem dX7_runScript_15 : decode cX7_runScript 15 = .ok (.if_icmp .ge 17, 3) := by decide +kernel
theorem dX7_runScript_18 : decode cX7_runScript 18 = .ok (.lload 4, 2) := by decide +kernel
theorem dX7_runScript_20 : decode cX7_runScript 20 = .ok (.ldc2_w 227, 3) := by decide +kernel
theorem dX7_runScript_23 : decode cX7_runScript 23 = .ok (.lmul, 1) := by decide +kernel
theorem dX7_runScript_24 : decode cX7_runScript 24 = .ok (.lstore 4, 2) := by decide +kernel
theorem dX7_runScript_26 : decode cX7_runScript 26 = .ok (.iinc 6 1, 3) := by decide +kernel
theorem dX7_runScript_29 : decode cX7_runScript 29 = .ok (.goto (-23), 3) := by decide +kernel
theorem dX7_runScript_32 : decode cX7_runScript 32 = .ok (.aload_n 0, 1) := by decide +kernel
theorem dX7_runScript_33 : decode cX7_runScript 33 = .ok (.iload_n 1, 1) := by decide +kernel
theorem dX7_runScript_34 : decode cX7_runScript 34 = .ok (.i2l, 1) := by decide +kernel
theorem dX7_runScript_35 : decode cX7_runScript 35 = .ok (.lconst 1, 1) := by decide +kernel
theorem dX7_runScript_36 : decode cX7_runScript 36 = .ok (.ldc2_w 229, 3) := by decide +kernel
theorem dX7_runScript_39 : decode cX7_runScript 39 = .ok (.invokestatic 40, 3) := by decide +kernel
theorem dX7_runScript_42 : decode cX7_runScript 42 = .ok (.ifCond .eq 19, 3) := by decide +kernel
theorem dX7_runScript_45 : decode cX7_runScript 45 = .ok (.lload_n 2, 1) := by decide +kernel
theorem dX7_runScript_46 : decode cX7_runScript 46 = .ok (.lconst 0, 1) := by decide +kernel
theorem dX7_runScript_47 : decode cX7_runScript 47 = .ok (.lload 4, 2) := by decide +kernel
theorem dX7_runScript_49 : decode cX7_runScript 49 = .ok (.lconst 1, 1) := by decide +kernel
theorem dX7_runScript_50 : decode cX7_runScript 50 = .ok (.lsub, 1) := by decide +kernel
theorem dX7_runScript_51 : decode cX7_runScript 51 = .ok (.invokestatic 40, 3) := by decide +kernel
theorem dX7_runScript_54 : decode cX7_runScript 54 = .ok (.ifCond .eq 7, 3) := by decide +kernel
theorem dX7_runScript_57 : decode cX7_runScript 57 = .ok (.iconst 0, 1) := by decide +kernel
theorem dX7_runScript_58 : decode cX7_runScript 58 = .ok (.goto 4, 3) := by decide +kernel
theorem dX7_runScript_61 : decode cX7_runScript 61 = .ok (.iconst 1, 1) := by decide +kernel
theorem dX7_runScript_62 : decode cX7_runScript 62 = .ok (.invokevirtual 163, 3) := by decide +kernel
theorem dX7_runScript_65 : decode cX7_runScript 65 = .ok (.ifCond .eq 5, 3) := by decide +kernel
theorem dX7_runScript_68 : decode cX7_runScript 68 = .ok (.iconst 0, 1) := by decide +kernel
theorem dX7_runScript_69 : decode cX7_runScript 69 = .ok (.ireturn, 1) := by decide +kernel
theorem dX7_runScript_70 : decode cX7_runScript 70 = .ok (.aload_n 0, 1) := by decide +kernel
theorem dX7_runScript_71 : decode cX7_runScript 71 = .ok (.getfield 13, 3) := by decide +kernel
theorem dX7_runScript_74 : decode cX7_runScript 74 = .ok (.iconst 0, 1) := by decide +kernel
theorem dX7_runScript_75 : decode cX7_runScript 75 = .ok (.aload_n 0, 1) := by decide +kernel
theorem dX7_runScript_76 : decode cX7_runScript 76 = .ok (.getfield 16, 3) := by decide +kernel
theorem dX7_runScript_79 : decode cX7_runScript 79 = .ok (.iconst 0, 1) := by decide +kernel
theorem dX7_runScript_80 : decode cX7_runScript 80 = .ok (.invokestatic 117, 3) := by decide +kernel
theorem dX7_runScript_83 : decode cX7_runScript 83 = .ok (.iconst 0, 1) := by decide +kernel
theorem dX7_runScript_84 : decode cX7_runScript 84 = .ok (.istore 6, 2) := by decide +kernel
theorem dX7_runScript_86 : decode cX7_runScript 86 = .ok (.iload 6, 2) := by decide +kernel
theorem dX7_runScript_88 : decode cX7_runScript 88 = .ok (.iload_n 1, 1) := by decide +kernel
theorem dX7_runScript_89 : decode cX7_runScript 89 = .ok (.if_icmp .ge 65, 3) := by decide +kernel
theorem dX7_runScript_92 : decode cX7_runScript 92 = .ok (.lload 4, 2) := by decide +kernel
theorem dX7_runScript_94 : decode cX7_runScript 94 = .ok (.ldc2_w 227, 3) := by decide +kernel
theorem dX7_runScript_97 : decode cX7_runScript 97 = .ok (.ldiv, 1) := by decide +kernel
theorem dX7_runScript_98 : decode cX7_runScript 98 = .ok (.lstore 4, 2) := by decide +kernel
theorem dX7_runScript_100 : decode cX7_runScript 100 = .ok (.lload_n 2, 1) := by decide +kernel
theorem dX7_runScript_101 : decode cX7_runScript 101 = .ok (.lload 4, 2) := by decide +kernel
theorem dX7_runScript_103 : decode cX7_runScript 103 = .ok (.ldiv, 1) := by decide +kernel
theorem dX7_runScript_104 : decode cX7_runScript 104 = .ok (.ldc2_w 227, 3) := by decide +kernel
theorem dX7_runScript_107 : decode cX7_runScript 107 = .ok (.lrem, 1) := by decide +kernel
theorem dX7_runScript_108 : decode cX7_runScript 108 = .ok (.l2i, 1) := by decide +kernel
theorem dX7_runScript_109 : decode cX7_runScript 109 = .ok (.istore 7, 2) := by decide +kernel
theorem dX7_runScript_111 : decode cX7_runScript 111 = .ok (.aload_n 0, 1) := by decide +kernel
theorem dX7_runScript_112 : decode cX7_runScript 112 = .ok (.iload 7, 2) := by decide +kernel
theorem dX7_runScript_114 : decode cX7_runScript 114 = .ok (.sipush 1000, 3) := by decide +kernel
theorem dX7_runScript_117 : decode cX7_runScript 117 = .ok (.idiv, 1) := by decide +kernel
theorem dX7_runScript_118 : decode cX7_runScript 118 = .ok (.iload 7, 2) := by decide +kernel
theorem dX7_runScript_120 : decode cX7_runScript 120 = .ok (.bipush 100, 2) := by decide +kernel
theorem dX7_runScript_122 : decode cX7_runScript 122 = .ok (.idiv, 1) := by decide +kernel
theorem dX7_runScript_123 : decode cX7_runScript 123 = .ok (.bipush 10, 2) := by decide +kernel
theorem dX7_runScript_125 : decode cX7_runScript 125 = .ok (.irem, 1) := by decide +kernel
theorem dX7_runScript_126 : decode cX7_runScript 126 = .ok (.iload 7, 2) := by decide +kernel
theorem dX7_runScript_128 : decode cX7_runScript 128 = .ok (.bipush 10, 2) := by decide +kernel
theorem dX7_runScript_130 : decode cX7_runScript 130 = .ok (.idiv, 1) := by decide +kernel
theorem dX7_runScript_131 : decode cX7_runScript 131 = .ok (.bipush 10, 2) := by decide +kernel
theorem dX7_runScript_133 : decode cX7_runScript 133 = .ok (.irem, 1) := by decide +kernel
theorem dX7_runScript_134 : decode cX7_runScript 134 = .ok (.iload 7, 2) := by decide +kernel
theorem dX7_runScript_136 : decode cX7_runScript 136 = .ok (.bipush 10, 2) := by decide +kernel
theorem dX7_runScript_138 : decode cX7_runScript 138 = .ok (.irem, 1) := by decide +kernel
theorem dX7_runScript_139 : decode cX7_runScript 139 = .ok (.invokevirtual 231, 3) := by decide +kernel
theorem dX7_runScript_142 : decode cX7_runScript 142 = .ok (.ifCond .ne 6, 3) := by decide +kernel
theorem dX7_runScript_145 : decode cX7_runScript 145 = .ok (.iload 6, 2) := by decide +kernel
theorem dX7_runScript_147 : decode cX7_runScript 147 = .ok (.ireturn, 1) := by decide +kernel
theorem dX7_runScript_148 : decode cX7_runScript 148 = .ok (.iinc 6 1, 3) := by decide +kernel
theorem dX7_runScript_151 : decode cX7_runScript 151 = .ok (.goto (-65), 3) := by decide +kernel
theorem dX7_runScript_154 : decode cX7_runScript 154 = .ok (.iconst (-1), 1) := by decide +kernel
theorem dX7_runScript_155 : decode cX7_runScript 155 = .ok (.ireturn, 1) := by decide +kernel
set_option maxRecDepth 20000 in
theorem ggX7_move_X7_canShiftNow : GoodIn wsX7_move wsX7_canShiftNow := goodIn_r _ [5, 6, 7, 4, 8, 9, 10, 11, 12, 13, 14, 15, 16, 17, 18, 19, 20] (by decide +kernel) (by decide +kernel)
set_option maxRecDepth 20000 in
theorem gX7_move_X7_canShiftNow : GoodIn wsX7_move (va_wsS RX7 127 yX7_canShiftNow wsX7_canShiftNow) := goodIn_app (goodIn_of _ (by decide +kernel)) ggX7_move_X7_canShiftNow
set_option maxRecDepth 20000 in
theorem ggX7_move_X7_shiftOn : GoodIn wsX7_move wsX7_shiftOn := goodIn_r _ [23, 24, 25, 4, 26, 18, 19, 20, 27, 28, 29, 30, 31, 32, 33, 34, 35, 36, 37, 38, 39, 40, 41, 42, 43, 44, 45, 46, 47] (by decide +kernel) (by decide +kernel)
set_option maxRecDepth 20000 in
theorem gX7_move_X7_shiftOn : GoodIn wsX7_move (va_wsS RX7 143 yX7_shiftOn wsX7_shiftOn) := goodIn_app (goodIn_of _ (by decide +kernel)) ggX7_move_X7_shiftOn
set_option maxRecDepth 20000 in
theorem ggX7_move_X7_playOn : GoodIn wsX7_move wsX7_playOn := goodIn_r _ [51, 52, 53, 54, 55, 56, 57, 4, 58, 2, 3, 5, 6, 7, 8, 9, 10, 11, 12, 13, 14, 15, 16, 17, 18, 19, 20, 59, 60, 61, 62, 63, 64, 65, 66, 24, 25, 26, 27, 28, 29, 30, 31, 32, 67, 68, 69, 70, 71, 72, 73, 74, 75, 33, 34, 35, 36, 37, 38, 39, 40, 41, 42, 43, 44, 45, 46, 47, 21, 22, 23, 76, 77, 78, 79, 80, 81, 82, 83, 84, 91, 92, 93, 94, 95, 96, 97, 98, 99, 100, 101, 102, 103, 104, 105, 106] (by decide +kernel) (by decide +kernel)
set_option maxRecDepth 20000 in
theorem gX7_move_X7_playOn : GoodIn wsX7_move (wsV RX7 217 RX7 yX7_playOn wsX7_playOn) := goodIn_app (goodIn_of _ (by decide +kernel)) ggX7_move_X7_playOn
set_option maxRecDepth 20000 in
theorem ggX7_move_X7_lockOn : GoodIn wsX7_move wsX7_lockOn := goodIn_r _ [87, 18, 19, 4, 20, 82, 83, 84] (by decide +kernel) (by decide +kernel)
set_option maxRecDepth 20000 in
theorem gX7_move_X7_lockOn : GoodIn wsX7_move (va_wsS RX7 189 yX7_lockOn wsX7_lockOn) := goodIn_app (goodIn_of _ (by decide +kernel)) ggX7_move_X7_lockOn
set_option maxRecDepth 20000 in
theorem ggX7_move_X7_canGo : GoodIn wsX7_move wsX7_canGo := goodIn_r _ [90, 6, 7, 4, 8, 33, 34, 35, 36, 37, 38, 18, 19, 20, 39, 40, 41, 42, 43, 44] (by decide +kernel) (by decide +kernel)
set_option maxRecDepth 20000 in
theorem gX7_move_X7_canGo : GoodIn wsX7_move (va_wsS RX7 183 yX7_canGo wsX7_canGo) := goodIn_app (goodIn_of _ (by decide +kernel)) ggX7_move_X7_canGo
set_option maxRecDepth 20000 in
theorem ggX7_move_X7_goOn : GoodIn wsX7_move wsX7_goOn := goodIn_r _ [81, 18, 19, 4, 20, 73, 74, 75, 82, 83, 84] (by decide +kernel) (by decide +kernel)
set_option maxRecDepth 20000 in
theorem gX7_move_X7_goOn : GoodIn wsX7_move (va_wsS RX7 149 yX7_goOn wsX7_goOn) := goodIn_app (goodIn_of _ (by decide +kernel)) ggX7_move_X7_goOn
theorem dX7_move_0 : decode cX7_move 0 = .ok (.aload_n 0, 1) := by decide +kernel
theorem dX7_move_1 : decode cX7_move 1 = .ok (.getfield 16, 3) := by decide +kernel
theorem dX7_move_4 : decode cX7_move 4 = .ok (.iconst 2, 1) := by decide +kernel
theorem dX7_move_5 : decode cX7_move 5 = .ok (.iaload, 1) := by decide +kernel
theorem dX7_move_6 : decode cX7_move 6 = .ok (.ifCond .ne 66, 3) := by decide +kernel
theorem dX7_move_9 : decode cX7_move 9 = .ok (.aload_n 0, 1) := by decide +kernel
theorem dX7_move_10 : decode cX7_move 10 = .ok (.getfield 16, 3) := by decide +kernel
theorem dX7_move_13 : decode cX7_move 13 = .ok (.iload_n 1, 1) := by decide +kernel
theorem dX7_move_14 : decode cX7_move 14 = .ok (.iconst 4, 1) := by decide +kernel
theorem dX7_move_15 : decode cX7_move 15 = .ok (.irem, 1) := by decide +kernel
theorem dX7_move_16 : decode cX7_move 16 = .ok (.iload_n 1, 1) := by decide +kernel
theorem dX7_move_17 : decode cX7_move 17 = .ok (.iconst 4, 1) := by decide +kernel
theorem dX7_move_18 : decode cX7_move 18 = .ok (.idiv, 1) := by decide +kernel
theorem dX7_move_19 : decode cX7_move 19 = .ok (.bipush 6, 2) := by decide +kernel
theorem dX7_move_21 : decode cX7_move 21 = .ok (.irem, 1) := by decide +kernel
theorem dX7_move_22 : decode cX7_move 22 = .ok (.iload_n 1, 1) := by decide +kernel
theorem dX7_move_23 : decode cX7_move 23 = .ok (.bipush 32, 2) := by decide +kernel
theorem dX7_move_25 : decode cX7_move 25 = .ok (.idiv, 1) := by decide +kernel
theorem dX7_move_26 : decode cX7_move 26 = .ok (.iconst 2, 1) := by decide +kernel
theorem dX7_move_27 : decode cX7_move 27 = .ok (.irem, 1) := by decide +kernel
theorem dX7_move_28 : decode cX7_move 28 = .ok (.invokestatic 127, 3) := by decide +kernel
theorem dX7_move_31 : decode cX7_move 31 = .ok (.ifCond .eq 29, 3) := by decide +kernel
theorem dX7_move_34 : decode cX7_move 34 = .ok (.aload_n 0, 1) := by decide +kernel
theorem dX7_move_35 : decode cX7_move 35 = .ok (.getfield 16, 3) := by decide +kernel
theorem dX7_move_38 : decode cX7_move 38 = .ok (.iload_n 1, 1) := by decide +kernel
theorem dX7_move_39 : decode cX7_move 39 = .ok (.iconst 4, 1) := by decide +kernel
theorem dX7_move_40 : decode cX7_move 40 = .ok (.irem, 1) := by decide +kernel
theorem dX7_move_41 : decode cX7_move 41 = .ok (.iload_n 1, 1) := by decide +kernel
theorem dX7_move_42 : decode cX7_move 42 = .ok (.iconst 4, 1) := by decide +kernel
theorem dX7_move_43 : decode cX7_move 43 = .ok (.idiv, 1) := by decide +kernel
theorem dX7_move_44 : decode cX7_move 44 = .ok (.bipush 6, 2) := by decide +kernel
theorem dX7_move_46 : decode cX7_move 46 = .ok (.irem, 1) := by decide +kernel
theorem dX7_move_47 : decode cX7_move 47 = .ok (.iload_n 1, 1) := by decide +kernel
theorem dX7_move_48 : decode cX7_move 48 = .ok (.bipush 32, 2) := by decide +kernel
theorem dX7_move_50 : decode cX7_move 50 = .ok (.idiv, 1) := by decide +kernel
theorem dX7_move_51 : decode cX7_move 51 = .ok (.iconst 2, 1) := by decide +kernel
theorem dX7_move_52 : decode cX7_move 52 = .ok (.irem, 1) := by decide +kernel
theorem dX7_move_53 : decode cX7_move 53 = .ok (.invokestatic 143, 3) := by decide +kernel
theorem dX7_move_56 : decode cX7_move 56 = .ok (.pop, 1) := by decide +kernel
theorem dX7_move_57 : decode cX7_move 57 = .ok (.goto 84, 3) := by decide +kernel
theorem dX7_move_60 : decode cX7_move 60 = .ok (.aload_n 0, 1) := by decide +kernel
theorem dX7_move_61 : decode cX7_move 61 = .ok (.aload_n 0, 1) := by decide +kernel
theorem dX7_move_62 : decode cX7_move 62 = .ok (.getfield 16, 3) := by decide +kernel
theorem dX7_move_65 : decode cX7_move 65 = .ok (.invokevirtual 217, 3) := by decide +kernel
theorem dX7_move_68 : decode cX7_move 68 = .ok (.pop, 1) := by decide +kernel
theorem dX7_move_69 : decode cX7_move 69 = .ok (.goto 72, 3) := by decide +kernel
theorem dX7_move_72 : decode cX7_move 72 = .ok (.iload_n 1, 1) := by decide +kernel
theorem dX7_move_73 : decode cX7_move 73 = .ok (.bipush 8, 2) := by decide +kernel
theorem dX7_move_75 : decode cX7_move 75 = .ok (.irem, 1) := by decide +kernel
theorem dX7_move_76 : decode cX7_move 76 = .ok (.ifCond .ne 21, 3) := by decide +kernel
theorem dX7_move_79 : decode cX7_move 79 = .ok (.aload_n 0, 1) := by decide +kernel
theorem dX7_move_80 : decode cX7_move 80 = .ok (.getfield 16, 3) := by decide +kernel
theorem dX7_move_83 : decode cX7_move 83 = .ok (.iload_n 1, 1) := by decide +kernel
theorem dX7_move_84 : decode cX7_move 84 = .ok (.bipush 8, 2) := by decide +kernel
theorem dX7_move_86 : decode cX7_move 86 = .ok (.idiv, 1) := by decide +kernel
theorem dX7_move_87 : decode cX7_move 87 = .ok (.bipush 6, 2) := by decide +kernel
theorem dX7_move_89 : decode cX7_move 89 = .ok (.irem, 1) := by decide +kernel
theorem dX7_move_90 : decode cX7_move 90 = .ok (.invokestatic 189, 3) := by decide +kernel
theorem dX7_move_93 : decode cX7_move 93 = .ok (.pop, 1) := by decide +kernel
theorem dX7_move_94 : decode cX7_move 94 = .ok (.goto 47, 3) := by decide +kernel
theorem dX7_move_97 : decode cX7_move 97 = .ok (.aload_n 0, 1) := by decide +kernel
theorem dX7_move_98 : decode cX7_move 98 = .ok (.getfield 16, 3) := by decide +kernel
theorem dX7_move_101 : decode cX7_move 101 = .ok (.iload_n 1, 1) := by decide +kernel
theorem dX7_move_102 : decode cX7_move 102 = .ok (.bipush 8, 2) := by decide +kernel
theorem dX7_move_104 : decode cX7_move 104 = .ok (.idiv, 1) := by decide +kernel
theorem dX7_move_105 : decode cX7_move 105 = .ok (.bipush 9, 2) := by decide +kernel
theorem dX7_move_107 : decode cX7_move 107 = .ok (.irem, 1) := by decide +kernel
theorem dX7_move_108 : decode cX7_move 108 = .ok (.invokestatic 183, 3) := by decide +kernel
theorem dX7_move_111 : decode cX7_move 111 = .ok (.ifCond .eq 21, 3) := by decide +kernel
theorem dX7_move_114 : decode cX7_move 114 = .ok (.aload_n 0, 1) := by decide +kernel
theorem dX7_move_115 : decode cX7_move 115 = .ok (.getfield 16, 3) := by decide +kernel
theorem dX7_move_118 : decode cX7_move 118 = .ok (.iload_n 1, 1) := by decide +kernel
theorem dX7_move_119 : decode cX7_move 119 = .ok (.bipush 8, 2) := by decide +kernel
theorem dX7_move_121 : decode cX7_move 121 = .ok (.idiv, 1) := by decide +kernel
theorem dX7_move_122 : decode cX7_move 122 = .ok (.bipush 9, 2) := by decide +kernel
theorem dX7_move_124 : decode cX7_move 124 = .ok (.irem, 1) := by decide +kernel
theorem dX7_move_125 : decode cX7_move 125 = .ok (.invokestatic 149, 3) := by decide +kernel
theorem dX7_move_128 : decode cX7_move 128 = .ok (.pop, 1) := by decide +kernel
theorem dX7_move_129 : decode cX7_move 129 = .ok (.goto 12, 3) := by decide +kernel
theorem dX7_move_132 : decode cX7_move 132 = .ok (.aload_n 0, 1) := by decide +kernel
theorem dX7_move_133 : decode cX7_move 133 = .ok (.aload_n 0, 1) := by decide +kernel
theorem dX7_move_134 : decode cX7_move 134 = .ok (.getfield 16, 3) := by decide +kernel
theorem dX7_move_137 : decode cX7_move 137 = .ok (.invokevirtual 217, 3) := by decide +kernel
theorem dX7_move_140 : decode cX7_move 140 = .ok (.pop, 1) := by decide +kernel
theorem dX7_move_141 : decode cX7_move 141 = .ok (.return_, 1) := by decide +kernel
set_option maxRecDepth 20000 in
theorem ggX7_simulate_X7_in : GoodIn wsX7_simulate wsX7_in := goodIn_r _ [9] (by decide +kernel) (by decide +kernel)
set_option maxRecDepth 20000 in
theorem gX7_simulate_X7_in : GoodIn wsX7_simulate (va_wsS RX7 40 yX7_in wsX7_in) := goodIn_app (goodIn_of _ (by decide +kernel)) ggX7_simulate_X7_in
set_option maxRecDepth 20000 in
theorem ggX7_simulate_X7_refused : GoodIn wsX7_simulate wsX7_refused := goodIn_r _ [13, 14, 107, 108, 109, 110, 111, 112, 113, 114, 115, 116, 117, 118, 119, 120, 121, 122] (by decide +kernel) (by decide +kernel)
set_option maxRecDepth 20000 in
theorem gX7_simulate_X7_refused : GoodIn wsX7_simulate (wsV RX7 163 RX7 yX7_refused wsX7_refused) := goodIn_app (goodIn_of _ (by decide +kernel)) ggX7_simulate_X7_refused
set_option maxRecDepth 20000 in
theorem ggX7_simulate_X7_copyState : GoodIn wsX7_simulate wsX7_copyState := goodIn_r _ [17] (by decide +kernel) (by decide +kernel)
set_option maxRecDepth 20000 in
theorem gX7_simulate_X7_copyState : GoodIn wsX7_simulate (va_wsS RX7 117 yX7_copyState wsX7_copyState) := goodIn_app (goodIn_of _ (by decide +kernel)) ggX7_simulate_X7_copyState
set_option maxRecDepth 20000 in
theorem ggX7_simulate_X7_isOn : GoodIn wsX7_simulate wsX7_isOn := goodIn_r _ [20] (by decide +kernel) (by decide +kernel)
set_option maxRecDepth 20000 in
theorem gX7_simulate_X7_isOn : GoodIn wsX7_simulate (va_wsS RX7 96 yX7_isOn wsX7_isOn) := goodIn_app (goodIn_of _ (by decide +kernel)) ggX7_simulate_X7_isOn
set_option maxRecDepth 20000 in
theorem ggX7_simulate_X7_move : GoodIn wsX7_simulate wsX7_move := goodIn_r _ [24, 3, 25, 26, 8, 27, 18, 19, 20, 28, 29, 30, 6, 7, 9, 31, 32, 33, 34, 35, 36, 37, 38, 39, 40, 41, 42, 43, 44, 45, 46, 47, 48, 49, 50, 51, 52, 53, 54, 55, 56, 57, 58, 59, 60, 61, 62, 63, 64, 65, 66, 67, 68, 69, 70, 71, 72, 73, 74, 75, 76, 77, 78, 79, 15, 16, 17, 80, 81, 82, 83, 84, 85, 86, 87, 88, 89, 90, 91, 92, 93, 94, 95, 96, 97, 98, 99, 100, 101, 102, 103, 107, 108, 109, 110, 111, 112, 113, 114, 115, 116, 117, 118, 119, 120, 121, 122] (by decide +kernel) (by decide +kernel)
set_option maxRecDepth 20000 in
theorem gX7_simulate_X7_move : GoodIn wsX7_simulate (wsV RX7 237 RX7 yX7_move wsX7_move) := goodIn_app (goodIn_of _ (by decide +kernel)) ggX7_simulate_X7_move
set_option maxRecDepth 20000 in
theorem ggX7_simulate_X7_takenByAll : GoodIn wsX7_simulate wsX7_takenByAll := goodIn_r _ [106, 34, 35, 8, 36] (by decide +kernel) (by decide +kernel)
set_option maxRecDepth 20000 in
theorem gX7_simulate_X7_takenByAll : GoodIn wsX7_simulate (va_wsS RX7 224 yX7_takenByAll wsX7_takenByAll) := goodIn_app (goodIn_of _ (by decide +kernel)) ggX7_simulate_X7_takenByAll
theorem dX7_simulate_0 : decode cX7_simulate 0 = .ok (.aload_n 0, 1) := by decide +kernel
theorem dX7_simulate_1 : decode cX7_simulate 1 = .ok (.iload_n 3, 1) := by decide +kernel
theorem dX7_simulate_2 : decode cX7_simulate 2 = .ok (.i2l, 1) := by decide +kernel
theorem dX7_simulate_3 : decode cX7_simulate 3 = .ok (.lconst 1, 1) := by decide +kernel
theorem dX7_simulate_4 : decode cX7_simulate 4 = .ok (.ldc2_w 235, 3) := by decide +kernel
theorem dX7_simulate_7 : decode cX7_simulate 7 = .ok (.invokestatic 40, 3) := by decide +kernel
theorem dX7_simulate_10 : decode cX7_simulate 10 = .ok (.ifCond .eq 7, 3) := by decide +kernel
theorem dX7_simulate_13 : decode cX7_simulate 13 = .ok (.iconst 0, 1) := by decide +kernel
theorem dX7_simulate_14 : decode cX7_simulate 14 = .ok (.goto 4, 3) := by decide +kernel
theorem dX7_simulate_17 : decode cX7_simulate 17 = .ok (.iconst 1, 1) := by decide +kernel
theorem dX7_simulate_18 : decode cX7_simulate 18 = .ok (.invokevirtual 163, 3) := by decide +kernel
theorem dX7_simulate_21 : decode cX7_simulate 21 = .ok (.ifCond .eq 5, 3) := by decide +kernel
theorem dX7_simulate_24 : decode cX7_simulate 24 = .ok (.iconst 0, 1) := by decide +kernel
theorem dX7_simulate_25 : decode cX7_simulate 25 = .ok (.ireturn, 1) := by decide +kernel
theorem dX7_simulate_26 : decode cX7_simulate 26 = .ok (.aload_n 0, 1) := by decide +kernel
theorem dX7_simulate_27 : decode cX7_simulate 27 = .ok (.getfield 13, 3) := by decide +kernel
theorem dX7_simulate_30 : decode cX7_simulate 30 = .ok (.iconst 0, 1) := by decide +kernel
theorem dX7_simulate_31 : decode cX7_simulate 31 = .ok (.aload_n 0, 1) := by decide +kernel
theorem dX7_simulate_32 : decode cX7_simulate 32 = .ok (.getfield 16, 3) := by decide +kernel
theorem dX7_simulate_35 : decode cX7_simulate 35 = .ok (.iconst 0, 1) := by decide +kernel
theorem dX7_simulate_36 : decode cX7_simulate 36 = .ok (.invokestatic 117, 3) := by decide +kernel
theorem dX7_simulate_39 : decode cX7_simulate 39 = .ok (.lload_n 1, 1) := by decide +kernel
theorem dX7_simulate_40 : decode cX7_simulate 40 = .ok (.lstore 4, 2) := by decide +kernel
theorem dX7_simulate_42 : decode cX7_simulate 42 = .ok (.iconst 0, 1) := by decide +kernel
theorem dX7_simulate_43 : decode cX7_simulate 43 = .ok (.istore 6, 2) := by decide +kernel
theorem dX7_simulate_45 : decode cX7_simulate 45 = .ok (.iload 6, 2) := by decide +kernel
theorem dX7_simulate_47 : decode cX7_simulate 47 = .ok (.iload_n 3, 1) := by decide +kernel
theorem dX7_simulate_48 : decode cX7_simulate 48 = .ok (.if_icmp .ge 41, 3) := by decide +kernel
theorem dX7_simulate_51 : decode cX7_simulate 51 = .ok (.aload_n 0, 1) := by decide +kernel
theorem dX7_simulate_52 : decode cX7_simulate 52 = .ok (.getfield 16, 3) := by decide +kernel
theorem dX7_simulate_55 : decode cX7_simulate 55 = .ok (.invokestatic 96, 3) := by decide +kernel
theorem dX7_simulate_58 : decode cX7_simulate 58 = .ok (.ifCond .eq 31, 3) := by decide +kernel
theorem dX7_simulate_61 : decode cX7_simulate 61 = .ok (.lload 4, 2) := by decide +kernel
theorem dX7_simulate_63 : decode cX7_simulate 63 = .ok (.ldc2_w 52, 3) := by decide +kernel
theorem dX7_simulate_66 : decode cX7_simulate 66 = .ok (.lmul, 1) := by decide +kernel
theorem dX7_simulate_67 : decode cX7_simulate 67 = .ok (.ldc2_w 54, 3) := by decide +kernel
theorem dX7_simulate_70 : decode cX7_simulate 70 = .ok (.ladd, 1) := by decide +kernel
theorem dX7_simulate_71 : decode cX7_simulate 71 = .ok (.lstore 4, 2) := by decide +kernel
theorem dX7_simulate_73 : decode cX7_simulate 73 = .ok (.aload_n 0, 1) := by decide +kernel
theorem dX7_simulate_74 : decode cX7_simulate 74 = .ok (.lload 4, 2) := by decide +kernel
theorem dX7_simulate_76 : decode cX7_simulate 76 = .ok (.bipush 33, 2) := by decide +kernel
theorem dX7_simulate_78 : decode cX7_simulate 78 = .ok (.lushr, 1) := by decide +kernel
theorem dX7_simulate_79 : decode cX7_simulate 79 = .ok (.l2i, 1) := by decide +kernel
theorem dX7_simulate_80 : decode cX7_simulate 80 = .ok (.invokevirtual 237, 3) := by decide +kernel
theorem dX7_simulate_83 : decode cX7_simulate 83 = .ok (.iinc 6 1, 3) := by decide +kernel
theorem dX7_simulate_86 : decode cX7_simulate 86 = .ok (.goto (-41), 3) := by decide +kernel
theorem dX7_simulate_89 : decode cX7_simulate 89 = .ok (.aload_n 0, 1) := by decide +kernel
theorem dX7_simulate_90 : decode cX7_simulate 90 = .ok (.getfield 16, 3) := by decide +kernel
theorem dX7_simulate_93 : decode cX7_simulate 93 = .ok (.iconst 0, 1) := by decide +kernel
theorem dX7_simulate_94 : decode cX7_simulate 94 = .ok (.iaload, 1) := by decide +kernel
theorem dX7_simulate_95 : decode cX7_simulate 95 = .ok (.ifCond .ne 7, 3) := by decide +kernel
theorem dX7_simulate_98 : decode cX7_simulate 98 = .ok (.iconst 0, 1) := by decide +kernel
theorem dX7_simulate_99 : decode cX7_simulate 99 = .ok (.goto 21, 3) := by decide +kernel
theorem dX7_simulate_102 : decode cX7_simulate 102 = .ok (.sipush 1000, 3) := by decide +kernel
theorem dX7_simulate_105 : decode cX7_simulate 105 = .ok (.aload_n 0, 1) := by decide +kernel
theorem dX7_simulate_106 : decode cX7_simulate 106 = .ok (.getfield 16, 3) := by decide +kernel
theorem dX7_simulate_109 : decode cX7_simulate 109 = .ok (.invokestatic 224, 3) := by decide +kernel
theorem dX7_simulate_112 : decode cX7_simulate 112 = .ok (.imul, 1) := by decide +kernel
theorem dX7_simulate_113 : decode cX7_simulate 113 = .ok (.aload_n 0, 1) := by decide +kernel
theorem dX7_simulate_114 : decode cX7_simulate 114 = .ok (.getfield 16, 3) := by decide +kernel
theorem dX7_simulate_117 : decode cX7_simulate 117 = .ok (.iconst 3, 1) := by decide +kernel
theorem dX7_simulate_118 : decode cX7_simulate 118 = .ok (.iaload, 1) := by decide +kernel
theorem dX7_simulate_119 : decode cX7_simulate 119 = .ok (.iadd, 1) := by decide +kernel
theorem dX7_simulate_120 : decode cX7_simulate 120 = .ok (.ireturn, 1) := by decide +kernel
set_option maxRecDepth 20000 in
theorem ggX7_save_X7_in : GoodIn wsX7_save wsX7_in := goodIn_r _ [7] (by decide +kernel) (by decide +kernel)
set_option maxRecDepth 20000 in
theorem gX7_save_X7_in : GoodIn wsX7_save (va_wsS RX7 40 yX7_in wsX7_in) := goodIn_app (goodIn_of _ (by decide +kernel)) ggX7_save_X7_in
set_option maxRecDepth 20000 in
theorem ggX7_save_X7_refused : GoodIn wsX7_save wsX7_refused := goodIn_r _ [11, 12, 16, 17, 18, 19, 20, 21, 22, 23, 24, 25, 26, 27, 28, 29, 30, 31] (by decide +kernel) (by decide +kernel)
set_option maxRecDepth 20000 in
theorem gX7_save_X7_refused : GoodIn wsX7_save (wsV RX7 163 RX7 yX7_refused wsX7_refused) := goodIn_app (goodIn_of _ (by decide +kernel)) ggX7_save_X7_refused
set_option maxRecDepth 20000 in
theorem ggX7_save_X7_copyState : GoodIn wsX7_save wsX7_copyState := goodIn_r _ [15] (by decide +kernel) (by decide +kernel)
set_option maxRecDepth 20000 in
theorem gX7_save_X7_copyState : GoodIn wsX7_save (va_wsS RX7 117 yX7_copyState wsX7_copyState) := goodIn_app (goodIn_of _ (by decide +kernel)) ggX7_save_X7_copyState
theorem dX7_save_0 : decode cX7_save 0 = .ok (.aload_n 0, 1) := by decide +kernel
theorem dX7_save_1 : decode cX7_save 1 = .ok (.iload_n 1, 1) := by decide +kernel
theorem dX7_save_2 : decode cX7_save 2 = .ok (.i2l, 1) := by decide +kernel
theorem dX7_save_3 : decode cX7_save 3 = .ok (.lconst 0, 1) := by decide +kernel
theorem dX7_save_4 : decode cX7_save 4 = .ok (.lconst 1, 1) := by decide +kernel
theorem dX7_save_5 : decode cX7_save 5 = .ok (.invokestatic 40, 3) := by decide +kernel
theorem dX7_save_8 : decode cX7_save 8 = .ok (.ifCond .eq 7, 3) := by decide +kernel
theorem dX7_save_11 : decode cX7_save 11 = .ok (.iconst 0, 1) := by decide +kernel
theorem dX7_save_12 : decode cX7_save 12 = .ok (.goto 4, 3) := by decide +kernel
theorem dX7_save_15 : decode cX7_save 15 = .ok (.iconst 1, 1) := by decide +kernel
theorem dX7_save_16 : decode cX7_save 16 = .ok (.invokevirtual 163, 3) := by decide +kernel
theorem dX7_save_19 : decode cX7_save 19 = .ok (.ifCond .eq 5, 3) := by decide +kernel
theorem dX7_save_22 : decode cX7_save 22 = .ok (.iconst 0, 1) := by decide +kernel
theorem dX7_save_23 : decode cX7_save 23 = .ok (.ireturn, 1) := by decide +kernel
theorem dX7_save_24 : decode cX7_save 24 = .ok (.aload_n 0, 1) := by decide +kernel
theorem dX7_save_25 : decode cX7_save 25 = .ok (.getfield 13, 3) := by decide +kernel
theorem dX7_save_28 : decode cX7_save 28 = .ok (.iconst 0, 1) := by decide +kernel
theorem dX7_save_29 : decode cX7_save 29 = .ok (.aload_n 0, 1) := by decide +kernel
theorem dX7_save_30 : decode cX7_save 30 = .ok (.getfield 25, 3) := by decide +kernel
theorem dX7_save_33 : decode cX7_save 33 = .ok (.bipush 121, 2) := by decide +kernel
theorem dX7_save_35 : decode cX7_save 35 = .ok (.iload_n 1, 1) := by decide +kernel
theorem dX7_save_36 : decode cX7_save 36 = .ok (.imul, 1) := by decide +kernel
theorem dX7_save_37 : decode cX7_save 37 = .ok (.invokestatic 117, 3) := by decide +kernel
theorem dX7_save_40 : decode cX7_save 40 = .ok (.aload_n 0, 1) := by decide +kernel
theorem dX7_save_41 : decode cX7_save 41 = .ok (.getfield 28, 3) := by decide +kernel
theorem dX7_save_44 : decode cX7_save 44 = .ok (.iload_n 1, 1) := by decide +kernel
theorem dX7_save_45 : decode cX7_save 45 = .ok (.iconst 1, 1) := by decide +kernel
theorem dX7_save_46 : decode cX7_save 46 = .ok (.bastore, 1) := by decide +kernel
theorem dX7_save_47 : decode cX7_save 47 = .ok (.aload_n 0, 1) := by decide +kernel
theorem dX7_save_48 : decode cX7_save 48 = .ok (.getfield 13, 3) := by decide +kernel
theorem dX7_save_51 : decode cX7_save 51 = .ok (.iconst 0, 1) := by decide +kernel
theorem dX7_save_52 : decode cX7_save 52 = .ok (.iaload, 1) := by decide +kernel
theorem dX7_save_53 : decode cX7_save 53 = .ok (.ireturn, 1) := by decide +kernel
set_option maxRecDepth 20000 in
theorem ggX7_restore_X7_in : GoodIn wsX7_restore wsX7_in := goodIn_r _ [8] (by decide +kernel) (by decide +kernel)
set_option maxRecDepth 20000 in
theorem gX7_restore_X7_in : GoodIn wsX7_restore (va_wsS RX7 40 yX7_in wsX7_in) := goodIn_app (goodIn_of _ (by decide +kernel)) ggX7_restore_X7_in
set_option maxRecDepth 20000 in
theorem ggX7_restore_X7_refused : GoodIn wsX7_restore wsX7_refused := goodIn_r _ [12, 13, 17, 18, 19, 20, 21, 22, 23, 24, 25, 26, 27, 28, 29, 30, 31, 32] (by decide +kernel) (by decide +kernel)
set_option maxRecDepth 20000 in
theorem gX7_restore_X7_refused : GoodIn wsX7_restore (wsV RX7 163 RX7 yX7_refused wsX7_refused) := goodIn_app (goodIn_of _ (by decide +kernel)) ggX7_restore_X7_refused
set_option maxRecDepth 20000 in
theorem ggX7_restore_X7_copyState : GoodIn wsX7_restore wsX7_copyState := goodIn_r _ [16] (by decide +kernel) (by decide +kernel)
set_option maxRecDepth 20000 in
theorem gX7_restore_X7_copyState : GoodIn wsX7_restore (va_wsS RX7 117 yX7_copyState wsX7_copyState) := goodIn_app (goodIn_of _ (by decide +kernel)) ggX7_restore_X7_copyState
theorem dX7_restore_0 : decode cX7_restore 0 = .ok (.aload_n 0, 1) := by decide +kernel
theorem dX7_restore_1 : decode cX7_restore 1 = .ok (.iload_n 1, 1) := by decide +kernel
theorem dX7_restore_2 : decode cX7_restore 2 = .ok (.i2l, 1) := by decide +kernel
theorem dX7_restore_3 : decode cX7_restore 3 = .ok (.lconst 0, 1) := by decide +kernel
theorem dX7_restore_4 : decode cX7_restore 4 = .ok (.lconst 1, 1) := by decide +kernel
theorem dX7_restore_5 : decode cX7_restore 5 = .ok (.invokestatic 40, 3) := by decide +kernel
theorem dX7_restore_8 : decode cX7_restore 8 = .ok (.ifCond .ne 7, 3) := by decide +kernel
theorem dX7_restore_11 : decode cX7_restore 11 = .ok (.iconst 1, 1) := by decide +kernel
theorem dX7_restore_12 : decode cX7_restore 12 = .ok (.goto 17, 3) := by decide +kernel
theorem dX7_restore_15 : decode cX7_restore 15 = .ok (.aload_n 0, 1) := by decide +kernel
theorem dX7_restore_16 : decode cX7_restore 16 = .ok (.getfield 28, 3) := by decide +kernel
theorem dX7_restore_19 : decode cX7_restore 19 = .ok (.iload_n 1, 1) := by decide +kernel
theorem dX7_restore_20 : decode cX7_restore 20 = .ok (.baload, 1) := by decide +kernel
theorem dX7_restore_21 : decode cX7_restore 21 = .ok (.ifCond .ne 7, 3) := by decide +kernel
theorem dX7_restore_24 : decode cX7_restore 24 = .ok (.iconst 2, 1) := by decide +kernel
theorem dX7_restore_25 : decode cX7_restore 25 = .ok (.goto 4, 3) := by decide +kernel
theorem dX7_restore_28 : decode cX7_restore 28 = .ok (.iconst 0, 1) := by decide +kernel
theorem dX7_restore_29 : decode cX7_restore 29 = .ok (.invokevirtual 163, 3) := by decide +kernel
theorem dX7_restore_32 : decode cX7_restore 32 = .ok (.ifCond .eq 5, 3) := by decide +kernel
theorem dX7_restore_35 : decode cX7_restore 35 = .ok (.iconst 0, 1) := by decide +kernel
theorem dX7_restore_36 : decode cX7_restore 36 = .ok (.ireturn, 1) := by decide +kernel
theorem dX7_restore_37 : decode cX7_restore 37 = .ok (.aload_n 0, 1) := by decide +kernel
theorem dX7_restore_38 : decode cX7_restore 38 = .ok (.getfield 25, 3) := by decide +kernel
theorem dX7_restore_41 : decode cX7_restore 41 = .ok (.bipush 121, 2) := by decide +kernel
theorem dX7_restore_43 : decode cX7_restore 43 = .ok (.iload_n 1, 1) := by decide +kernel
theorem dX7_restore_44 : decode cX7_restore 44 = .ok (.imul, 1) := by decide +kernel
theorem dX7_restore_45 : decode cX7_restore 45 = .ok (.aload_n 0, 1) := by decide +kernel
theorem dX7_restore_46 : decode cX7_restore 46 = .ok (.getfield 13, 3) := by decide +kernel
theorem dX7_restore_49 : decode cX7_restore 49 = .ok (.iconst 0, 1) := by decide +kernel
theorem dX7_restore_50 : decode cX7_restore 50 = .ok (.invokestatic 117, 3) := by decide +kernel
theorem dX7_restore_53 : decode cX7_restore 53 = .ok (.aload_n 0, 1) := by decide +kernel
theorem dX7_restore_54 : decode cX7_restore 54 = .ok (.iconst 0, 1) := by decide +kernel
theorem dX7_restore_55 : decode cX7_restore 55 = .ok (.putfield 203, 3) := by decide +kernel
theorem dX7_restore_58 : decode cX7_restore 58 = .ok (.aload_n 0, 1) := by decide +kernel
theorem dX7_restore_59 : decode cX7_restore 59 = .ok (.getfield 13, 3) := by decide +kernel
theorem dX7_restore_62 : decode cX7_restore 62 = .ok (.iconst 0, 1) := by decide +kernel
theorem dX7_restore_63 : decode cX7_restore 63 = .ok (.iaload, 1) := by decide +kernel
theorem dX7_restore_64 : decode cX7_restore 64 = .ok (.ireturn, 1) := by decide +kernel
