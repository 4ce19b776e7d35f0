set_option maxRecDepth 20000 in
theorem ggX6_init_X5_init : GoodIn wsX6_init wsX5_init := goodIn_r _ [30, 31, 2, 3, 32, 33, 73, 74] (by decide +kernel) (by decide +kernel)
set_option maxRecDepth 20000 in
theorem gX6_init_X5_init : GoodIn wsX6_init (wsX5_init) := ggX6_init_X5_init
set_option maxRecDepth 20000 in
theorem ggX6_init_X2_init : GoodIn wsX6_init wsX2_init := goodIn_r _ [36, 37, 2, 3, 38, 39, 40, 41, 42, 43, 44, 45, 46, 47, 48, 49, 50, 51, 52, 53, 54, 55, 83, 84, 85, 86, 87, 88, 89, 90, 100, 101, 102, 103, 104, 105, 106, 107] (by decide +kernel) (by decide +kernel)
set_option maxRecDepth 20000 in
theorem gX6_init_X2_init : GoodIn wsX6_init (wsX2_init) := ggX6_init_X2_init
set_option maxRecDepth 20000 in
theorem ggX6_init_X4_init : GoodIn wsX6_init wsX4_init := goodIn_r _ [58, 59, 2, 3, 60, 46, 47, 61, 62, 50, 51, 52, 38, 53, 54, 55, 100, 101, 102, 103, 104, 105, 106, 107, 91, 92, 93, 94, 95] (by decide +kernel) (by decide +kernel)
set_option maxRecDepth 20000 in
theorem gX6_init_X4_init : GoodIn wsX6_init (wsX4_init) := ggX6_init_X4_init
set_option maxRecDepth 20000 in
theorem ggX6_init_X1_init : GoodIn wsX6_init wsX1_init := goodIn_r _ [64, 65, 2, 3] (by decide +kernel) (by decide +kernel)
set_option maxRecDepth 20000 in
theorem gX6_init_X1_init_n35 : GoodIn wsX6_init (wsX1_init) := ggX6_init_X1_init
set_option maxRecDepth 20000 in
theorem ggX6_init_X3_init : GoodIn wsX6_init wsX3_init := goodIn_r _ [68, 69, 2, 3, 70, 71, 9, 10, 72, 35, 36, 37, 38, 39, 40, 41, 42, 43, 44, 45, 46, 47, 48, 49, 50, 51, 52, 53, 54, 55, 97, 98, 99, 83, 84, 85, 86, 87, 88, 89, 90, 100, 101, 102, 103, 104, 105, 106, 107] (by decide +kernel) (by decide +kernel)
set_option maxRecDepth 20000 in
theorem gX6_init_X3_init : GoodIn wsX6_init (wsX3_init) := ggX6_init_X3_init
theorem dX6_init_0 : decode cX6_init 0 = .ok (.aload_n 0, 1) := by decide +kernel
theorem dX6_init_1 : decode cX6_init 1 = .ok (.invokespecial 1, 3) := by decide +kernel
theorem dX6_init_4 : decode cX6_init 4 = .ok (.aload_n 0, 1) := by decide +kernel
theorem dX6_init_5 : decode cX6_init 5 = .ok (.new 7, 3) := by decide +kernel
theorem dX6_init_8 : decode cX6_init 8 = .ok (.dup, 1) := by decide +kernel
theorem dX6_init_9 : decode cX6_init 9 = .ok (.invokespecial 9, 3) := by decide +kernel
theorem dX6_init_12 : decode cX6_init 12 = .ok (.putfield 10, 3) := by decide +kernel
theorem dX6_init_15 : decode cX6_init 15 = .ok (.aload_n 0, 1) := by decide +kernel
theorem dX6_init_16 : decode cX6_init 16 = .ok (.new 16, 3) := by decide +kernel
theorem dX6_init_19 : decode cX6_init 19 = .ok (.dup, 1) := by decide +kernel
theorem dX6_init_20 : decode cX6_init 20 = .ok (.invokespecial 18, 3) := by decide +kernel
theorem dX6_init_23 : decode cX6_init 23 = .ok (.putfield 19, 3) := by decide +kernel
theorem dX6_init_26 : decode cX6_init 26 = .ok (.aload_n 0, 1) := by decide +kernel
theorem dX6_init_27 : decode cX6_init 27 = .ok (.new 16, 3) := by decide +kernel
theorem dX6_init_30 : decode cX6_init 30 = .ok (.dup, 1) := by decide +kernel
theorem dX6_init_31 : decode cX6_init 31 = .ok (.invokespecial 18, 3) := by decide +kernel
theorem dX6_init_34 : decode cX6_init 34 = .ok (.putfield 23, 3) := by decide +kernel
theorem dX6_init_37 : decode cX6_init 37 = .ok (.aload_n 0, 1) := by decide +kernel
theorem dX6_init_38 : decode cX6_init 38 = .ok (.new 26, 3) := by decide +kernel
theorem dX6_init_41 : decode cX6_init 41 = .ok (.dup, 1) := by decide +kernel
theorem dX6_init_42 : decode cX6_init 42 = .ok (.invokespecial 28, 3) := by decide +kernel
theorem dX6_init_45 : decode cX6_init 45 = .ok (.putfield 29, 3) := by decide +kernel
theorem dX6_init_48 : decode cX6_init 48 = .ok (.aload_n 0, 1) := by decide +kernel
theorem dX6_init_49 : decode cX6_init 49 = .ok (.new 33, 3) := by decide +kernel
theorem dX6_init_52 : decode cX6_init 52 = .ok (.dup, 1) := by decide +kernel
theorem dX6_init_53 : decode cX6_init 53 = .ok (.invokespecial 35, 3) := by decide +kernel
theorem dX6_init_56 : decode cX6_init 56 = .ok (.putfield 36, 3) := by decide +kernel
theorem dX6_init_59 : decode cX6_init 59 = .ok (.aload_n 0, 1) := by decide +kernel
theorem dX6_init_60 : decode cX6_init 60 = .ok (.new 40, 3) := by decide +kernel
theorem dX6_init_63 : decode cX6_init 63 = .ok (.dup, 1) := by decide +kernel
theorem dX6_init_64 : decode cX6_init 64 = .ok (.invokespecial 42, 3) := by decide +kernel
theorem dX6_init_67 : decode cX6_init 67 = .ok (.putfield 43, 3) := by decide +kernel
theorem dX6_init_70 : decode cX6_init 70 = .ok (.aload_n 0, 1) := by decide +kernel
theorem dX6_init_71 : decode cX6_init 71 = .ok (.iconst 2, 1) := by decide +kernel
theorem dX6_init_72 : decode cX6_init 72 = .ok (.anewarray 16, 3) := by decide +kernel
theorem dX6_init_75 : decode cX6_init 75 = .ok (.putfield 47, 3) := by decide +kernel
theorem dX6_init_78 : decode cX6_init 78 = .ok (.aload_n 0, 1) := by decide +kernel
theorem dX6_init_79 : decode cX6_init 79 = .ok (.iconst 2, 1) := by decide +kernel
theorem dX6_init_80 : decode cX6_init 80 = .ok (.newarray .boolean, 2) := by decide +kernel
theorem dX6_init_82 : decode cX6_init 82 = .ok (.putfield 51, 3) := by decide +kernel
theorem dX6_init_85 : decode cX6_init 85 = .ok (.iconst 0, 1) := by decide +kernel
theorem dX6_init_86 : decode cX6_init 86 = .ok (.istore_n 1, 1) := by decide +kernel
theorem dX6_init_87 : decode cX6_init 87 = .ok (.iload_n 1, 1) := by decide +kernel
theorem dX6_init_88 : decode cX6_init 88 = .ok (.iconst 2, 1) := by decide +kernel
theorem dX6_init_89 : decode cX6_init 89 = .ok (.if_icmp .ge 22, 3) := by decide +kernel
theorem dX6_init_92 : decode cX6_init 92 = .ok (.aload_n 0, 1) := by decide +kernel
theorem dX6_init_93 : decode cX6_init 93 = .ok (.getfield 47, 3) := by decide +kernel
theorem dX6_init_96 : decode cX6_init 96 = .ok (.iload_n 1, 1) := by decide +kernel
theorem dX6_init_97 : decode cX6_init 97 = .ok (.new 16, 3) := by decide +kernel
theorem dX6_init_100 : decode cX6_init 100 = .ok (.dup, 1) := by decide +kernel
theorem dX6_init_101 : decode cX6_init 101 = .ok (.invokespecial 18, 3) := by decide +kernel
theorem dX6_init_104 : decode cX6_init 104 = .ok (.aastore, 1) := by decide +kernel
theorem dX6_init_105 : decode cX6_init 105 = .ok (.iinc 1 1, 3) := by decide +kernel
theorem dX6_init_108 : decode cX6_init 108 = .ok (.goto (-21), 3) := by decide +kernel
theorem dX6_init_111 : decode cX6_init 111 = .ok (.return_, 1) := by decide +kernel
set_option maxRecDepth 20000 in
theorem ggX6_append_X5_isFull : GoodIn wsX6_append wsX5_isFull := goodIn_r _ [10, 11, 25, 26] (by decide +kernel) (by decide +kernel)
set_option maxRecDepth 20000 in
theorem gX6_append_X5_isFull : GoodIn wsX6_append (wsV RX6 62 RX5 yX5_isFull wsX5_isFull) := goodIn_app (goodIn_of _ (by decide +kernel)) ggX6_append_X5_isFull
set_option maxRecDepth 20000 in
theorem ggX6_append_X5_add : GoodIn wsX6_append wsX5_add := goodIn_r _ [15, 11, 16, 25, 26] (by decide +kernel) (by decide +kernel)
set_option maxRecDepth 20000 in
theorem gX6_append_X5_add : GoodIn wsX6_append (wsV RX6 71 RX5 yX5_add wsX5_add) := goodIn_app (goodIn_of _ (by decide +kernel)) ggX6_append_X5_add
theorem dX6_append_0 : decode cX6_append 0 = .ok (.iload_n 1, 1) := by decide +kernel
theorem dX6_append_1 : decode cX6_append 1 = .ok (.ifCond .lt 10, 3) := by decide +kernel
theorem dX6_append_4 : decode cX6_append 4 = .ok (.iload_n 1, 1) := by decide +kernel
theorem dX6_append_5 : decode cX6_append 5 = .ok (.sipush 255, 3) := by decide +kernel
theorem dX6_append_8 : decode cX6_append 8 = .ok (.if_icmp .le 13, 3) := by decide +kernel
theorem dX6_append_11 : decode cX6_append 11 = .ok (.new 55, 3) := by decide +kernel
theorem dX6_append_14 : decode cX6_append 14 = .ok (.dup, 1) := by decide +kernel
theorem dX6_append_15 : decode cX6_append 15 = .ok (.ldc 57, 2) := by decide +kernel
theorem dX6_append_17 : decode cX6_append 17 = .ok (.invokespecial 59, 3) := by decide +kernel
theorem dX6_append_20 : decode cX6_append 20 = .ok (.athrow, 1) := by decide +kernel
theorem dX6_append_21 : decode cX6_append 21 = .ok (.aload_n 0, 1) := by decide +kernel
theorem dX6_append_22 : decode cX6_append 22 = .ok (.getfield 10, 3) := by decide +kernel
theorem dX6_append_25 : decode cX6_append 25 = .ok (.invokevirtual 62, 3) := by decide +kernel
theorem dX6_append_28 : decode cX6_append 28 = .ok (.ifCond .eq 13, 3) := by decide +kernel
theorem dX6_append_31 : decode cX6_append 31 = .ok (.new 66, 3) := by decide +kernel
theorem dX6_append_34 : decode cX6_append 34 = .ok (.dup, 1) := by decide +kernel
theorem dX6_append_35 : decode cX6_append 35 = .ok (.ldc 68, 2) := by decide +kernel
theorem dX6_append_37 : decode cX6_append 37 = .ok (.invokespecial 70, 3) := by decide +kernel
theorem dX6_append_40 : decode cX6_append 40 = .ok (.athrow, 1) := by decide +kernel
theorem dX6_append_41 : decode cX6_append 41 = .ok (.aload_n 0, 1) := by decide +kernel
theorem dX6_append_42 : decode cX6_append 42 = .ok (.getfield 10, 3) := by decide +kernel
theorem dX6_append_45 : decode cX6_append 45 = .ok (.iload_n 1, 1) := by decide +kernel
theorem dX6_append_46 : decode cX6_append 46 = .ok (.i2c, 1) := by decide +kernel
theorem dX6_append_47 : decode cX6_append 47 = .ok (.invokevirtual 71, 3) := by decide +kernel
theorem dX6_append_50 : decode cX6_append 50 = .ok (.ireturn, 1) := by decide +kernel
set_option maxRecDepth 20000 in
theorem ggX6_clearText_X5_empty : GoodIn wsX6_clearText wsX5_empty := goodIn_r _ [6, 7, 16, 17] (by decide +kernel) (by decide +kernel)
set_option maxRecDepth 20000 in
theorem gX6_clearText_X5_empty : GoodIn wsX6_clearText (wsV RX6 75 RX5 yX5_empty wsX5_empty) := goodIn_app (goodIn_of _ (by decide +kernel)) ggX6_clearText_X5_empty
theorem dX6_clearText_0 : decode cX6_clearText 0 = .ok (.aload_n 0, 1) := by decide +kernel
theorem dX6_clearText_1 : decode cX6_clearText 1 = .ok (.getfield 10, 3) := by decide +kernel
theorem dX6_clearText_4 : decode cX6_clearText 4 = .ok (.invokevirtual 75, 3) := by decide +kernel
theorem dX6_clearText_7 : decode cX6_clearText 7 = .ok (.ireturn, 1) := by decide +kernel
set_option maxRecDepth 20000 in
theorem ggX6_errorPosition_X5_wrongAt : GoodIn wsX6_errorPosition wsX5_wrongAt := goodIn_r _ [6, 7, 8, 9, 10, 5, 11, 12, 13, 14, 15, 16, 17, 18, 27, 28] (by decide +kernel) (by decide +kernel)
set_option maxRecDepth 20000 in
theorem gX6_errorPosition_X5_wrongAt : GoodIn wsX6_errorPosition (wsV RX6 79 RX5 yX5_wrongAt wsX5_wrongAt) := goodIn_app (goodIn_of _ (by decide +kernel)) ggX6_errorPosition_X5_wrongAt
theorem dX6_errorPosition_0 : decode cX6_errorPosition 0 = .ok (.aload_n 0, 1) := by decide +kernel
theorem dX6_errorPosition_1 : decode cX6_errorPosition 1 = .ok (.getfield 10, 3) := by decide +kernel
theorem dX6_errorPosition_4 : decode cX6_errorPosition 4 = .ok (.invokevirtual 79, 3) := by decide +kernel
theorem dX6_errorPosition_7 : decode cX6_errorPosition 7 = .ok (.ireturn, 1) := by decide +kernel
set_option maxRecDepth 20000 in
theorem ggX6_load_X5_wrongAt : GoodIn wsX6_load wsX5_wrongAt := goodIn_r _ [12, 13, 14, 15, 16, 11, 17, 18, 19, 20, 21, 22, 23, 24, 245, 246] (by decide +kernel) (by decide +kernel)
set_option maxRecDepth 20000 in
theorem gX6_load_X5_wrongAt : GoodIn wsX6_load (wsV RX6 79 RX5 yX5_wrongAt wsX5_wrongAt) := goodIn_app (goodIn_of _ (by decide +kernel)) ggX6_load_X5_wrongAt
set_option maxRecDepth 20000 in
theorem ggX6_load_X2_resetSettings : GoodIn wsX6_load wsX2_resetSettings := goodIn_r _ [29, 30, 31, 32, 33, 34, 247, 248, 249, 250, 251, 252, 253, 254] (by decide +kernel) (by decide +kernel)
set_option maxRecDepth 20000 in
theorem gX6_load_X2_resetSettings : GoodIn wsX6_load (wsV RX6 84 RX2 yX2_resetSettings wsX2_resetSettings) := goodIn_app (goodIn_of _ (by decide +kernel)) ggX6_load_X2_resetSettings
set_option maxRecDepth 20000 in
theorem ggX6_load_X5_seed : GoodIn wsX6_load wsX5_seed := goodIn_r _ [38, 39, 40, 41, 11, 42, 14, 15, 16, 17, 13, 18, 245, 246] (by decide +kernel) (by decide +kernel)
set_option maxRecDepth 20000 in
theorem gX6_load_X5_seed : GoodIn wsX6_load (wsV RX6 87 RX5 yX5_seed wsX5_seed) := goodIn_app (goodIn_of _ (by decide +kernel)) ggX6_load_X5_seed
set_option maxRecDepth 20000 in
theorem ggX6_load_X1_startWith : GoodIn wsX6_load wsX1_startWith := goodIn_r _ [47, 48, 255] (by decide +kernel) (by decide +kernel)
set_option maxRecDepth 20000 in
theorem gX6_load_X1_startWith : GoodIn wsX6_load (wsV RX6 90 RX1 yX1_startWith wsX1_startWith) := goodIn_app (goodIn_of _ (by decide +kernel)) ggX6_load_X1_startWith
set_option maxRecDepth 20000 in
theorem ggX6_load_X5_players : GoodIn wsX6_load wsX5_players := goodIn_r _ [52, 39, 40, 41, 11, 42, 14, 15, 16, 17, 13, 18, 245, 246] (by decide +kernel) (by decide +kernel)
set_option maxRecDepth 20000 in
theorem gX6_load_X5_players : GoodIn wsX6_load (wsV RX6 94 RX5 yX5_players wsX5_players) := goodIn_app (goodIn_of _ (by decide +kernel)) ggX6_load_X5_players
set_option maxRecDepth 20000 in
theorem ggX6_load_X2_deal : GoodIn wsX6_load wsX2_deal := goodIn_r _ [56, 57, 58, 59, 60, 61, 62, 63, 64, 65, 66, 67, 68, 69, 70, 71, 72, 73, 74, 75, 76, 77, 78, 79, 46, 80, 81, 82, 83, 84, 48, 85, 86, 87, 88, 89, 90, 91, 92, 93, 94, 95, 96, 97, 247, 248, 249, 250, 251, 252, 253, 254, 256, 257, 258, 259, 260, 261, 262, 263, 255] (by decide +kernel) (by decide +kernel)
set_option maxRecDepth 20000 in
theorem gX6_load_X2_deal : GoodIn wsX6_load (wsV RX6 97 RX2 yX2_deal wsX2_deal) := goodIn_app (goodIn_of _ (by decide +kernel)) ggX6_load_X2_deal
set_option maxRecDepth 20000 in
theorem ggX6_load_X5_length : GoodIn wsX6_load wsX5_length := goodIn_r _ [101, 13, 245, 246] (by decide +kernel) (by decide +kernel)
set_option maxRecDepth 20000 in
theorem gX6_load_X5_length : GoodIn wsX6_load (wsV RX6 101 RX5 yX5_length wsX5_length) := goodIn_app (goodIn_of _ (by decide +kernel)) ggX6_load_X5_length
set_option maxRecDepth 20000 in
theorem ggX6_load_X5_isMoveAt : GoodIn wsX6_load wsX5_isMoveAt := goodIn_r _ [105, 14, 15, 16, 11, 17, 13, 18, 245, 246] (by decide +kernel) (by decide +kernel)
set_option maxRecDepth 20000 in
theorem gX6_load_X5_isMoveAt : GoodIn wsX6_load (wsV RX6 104 RX5 yX5_isMoveAt wsX5_isMoveAt) := goodIn_app (goodIn_of _ (by decide +kernel)) ggX6_load_X5_isMoveAt
set_option maxRecDepth 20000 in
theorem ggX6_load_X6_doMoveAt : GoodIn wsX6_load wsX6_doMoveAt := goodIn_r _ [109, 3, 4, 110, 15, 16, 11, 17, 13, 18, 111, 40, 41, 42, 14, 112, 113, 114, 28, 115, 116, 117, 118, 119, 59, 58, 120, 121, 122, 123, 57, 61, 124, 125, 126, 127, 128, 92, 129, 130, 131, 132, 133, 134, 135, 63, 136, 137, 138, 67, 139, 74, 75, 76, 140, 141, 142, 143, 144, 145, 146, 147, 69, 70, 148, 149, 150, 151, 152, 153, 154, 72, 155, 156, 157, 158, 159, 160, 161, 162, 163, 164, 165, 166, 167, 168, 169, 170, 171, 172, 173, 174, 30, 175, 176, 177, 178, 179, 180, 181, 182, 183, 184, 185, 186, 187, 188, 189, 190, 191, 192, 193, 194, 91, 93, 195, 196, 197, 198, 199, 200, 201, 202, 73, 203, 204, 205, 206, 71, 207, 208, 209, 210, 60, 62, 211, 212, 213, 214, 215, 216, 217, 218, 219, 220, 221, 222, 223, 224, 225, 226, 227, 228, 229, 230, 237, 238, 239, 240, 241, 242, 243, 244, 245, 246, 247, 248, 249, 250, 251, 252, 253, 254, 256, 257, 258, 259, 260, 261, 262, 263] (by decide +kernel) (by decide +kernel)
set_option maxRecDepth 20000 in
theorem gX6_load_X6_doMoveAt : GoodIn wsX6_load (wsV RX6 108 RX6 yX6_doMoveAt wsX6_doMoveAt) := goodIn_app (goodIn_of _ (by decide +kernel)) ggX6_load_X6_doMoveAt
set_option maxRecDepth 20000 in
theorem ggX6_load_X3_forget : GoodIn wsX6_load wsX3_forget := goodIn_r _ [235, 236, 264, 265, 266] (by decide +kernel) (by decide +kernel)
set_option maxRecDepth 20000 in
theorem gX6_load_X3_forget : GoodIn wsX6_load (wsV RX6 111 RX3 yX3_forget wsX3_forget) := goodIn_app (goodIn_of _ (by decide +kernel)) ggX6_load_X3_forget
theorem dX6_load_0 : decode cX6_load 0 = .ok (.aload_n 0, 1) := by decide +kernel
theorem dX6_load_1 : decode cX6_load 1 = .ok (.getfield 10, 3) := by decide +kernel
theorem dX6_load_4 : decode cX6_load 4 = .ok (.invokevirtual 79, 3) := by decide +kernel
theorem dX6_load_7 : decode cX6_load 7 = .ok (.iconst (-1), 1) := by decide +kernel
theorem dX6_load_8 : decode cX6_load 8 = .ok (.if_icmp .eq 13, 3) := by decide +kernel
theorem dX6_load_11 : decode cX6_load 11 = .ok (.new 66, 3) := by decide +kernel
theorem dX6_load_14 : decode cX6_load 14 = .ok (.dup, 1) := by decide +kernel
theorem dX6_load_15 : decode cX6_load 15 = .ok (.ldc 82, 2) := by decide +kernel
theorem dX6_load_17 : decode cX6_load 17 = .ok (.invokespecial 70, 3) := by decide +kernel
theorem dX6_load_20 : decode cX6_load 20 = .ok (.athrow, 1) := by decide +kernel
theorem dX6_load_21 : decode cX6_load 21 = .ok (.aload_n 0, 1) := by decide +kernel
theorem dX6_load_22 : decode cX6_load 22 = .ok (.getfield 19, 3) := by decide +kernel
theorem dX6_load_25 : decode cX6_load 25 = .ok (.invokevirtual 84, 3) := by decide +kernel
theorem dX6_load_28 : decode cX6_load 28 = .ok (.aload_n 0, 1) := by decide +kernel
theorem dX6_load_29 : decode cX6_load 29 = .ok (.getfield 36, 3) := by decide +kernel
theorem dX6_load_32 : decode cX6_load 32 = .ok (.aload_n 0, 1) := by decide +kernel
theorem dX6_load_33 : decode cX6_load 33 = .ok (.getfield 10, 3) := by decide +kernel
theorem dX6_load_36 : decode cX6_load 36 = .ok (.invokevirtual 87, 3) := by decide +kernel
theorem dX6_load_39 : decode cX6_load 39 = .ok (.i2l, 1) := by decide +kernel
theorem dX6_load_40 : decode cX6_load 40 = .ok (.invokevirtual 90, 3) := by decide +kernel
theorem dX6_load_43 : decode cX6_load 43 = .ok (.aload_n 0, 1) := by decide +kernel
theorem dX6_load_44 : decode cX6_load 44 = .ok (.getfield 19, 3) := by decide +kernel
theorem dX6_load_47 : decode cX6_load 47 = .ok (.aload_n 0, 1) := by decide +kernel
theorem dX6_load_48 : decode cX6_load 48 = .ok (.getfield 10, 3) := by decide +kernel
theorem dX6_load_51 : decode cX6_load 51 = .ok (.invokevirtual 94, 3) := by decide +kernel
theorem dX6_load_54 : decode cX6_load 54 = .ok (.aload_n 0, 1) := by decide +kernel
theorem dX6_load_55 : decode cX6_load 55 = .ok (.getfield 36, 3) := by decide +kernel
theorem dX6_load_58 : decode cX6_load 58 = .ok (.invokevirtual 97, 3) := by decide +kernel
theorem dX6_load_61 : decode cX6_load 61 = .ok (.iconst 0, 1) := by decide +kernel
theorem dX6_load_62 : decode cX6_load 62 = .ok (.istore_n 1, 1) := by decide +kernel
theorem dX6_load_63 : decode cX6_load 63 = .ok (.iconst 0, 1) := by decide +kernel
theorem dX6_load_64 : decode cX6_load 64 = .ok (.istore_n 2, 1) := by decide +kernel
theorem dX6_load_65 : decode cX6_load 65 = .ok (.iload_n 2, 1) := by decide +kernel
theorem dX6_load_66 : decode cX6_load 66 = .ok (.aload_n 0, 1) := by decide +kernel
theorem dX6_load_67 : decode cX6_load 67 = .ok (.getfield 10, 3) := by decide +kernel
theorem dX6_load_70 : decode cX6_load 70 = .ok (.invokevirtual 101, 3) := by decide +kernel
theorem dX6_load_73 : decode cX6_load 73 = .ok (.if_icmp .ge 31, 3) := by decide +kernel
theorem dX6_load_76 : decode cX6_load 76 = .ok (.aload_n 0, 1) := by decide +kernel
theorem dX6_load_77 : decode cX6_load 77 = .ok (.getfield 10, 3) := by decide +kernel
theorem dX6_load_80 : decode cX6_load 80 = .ok (.iload_n 2, 1) := by decide +kernel
theorem dX6_load_81 : decode cX6_load 81 = .ok (.invokevirtual 104, 3) := by decide +kernel
theorem dX6_load_84 : decode cX6_load 84 = .ok (.ifCond .eq 14, 3) := by decide +kernel
theorem dX6_load_87 : decode cX6_load 87 = .ok (.aload_n 0, 1) := by decide +kernel
theorem dX6_load_88 : decode cX6_load 88 = .ok (.iload_n 2, 1) := by decide +kernel
theorem dX6_load_89 : decode cX6_load 89 = .ok (.invokevirtual 108, 3) := by decide +kernel
theorem dX6_load_92 : decode cX6_load 92 = .ok (.ifCond .ne 6, 3) := by decide +kernel
theorem dX6_load_95 : decode cX6_load 95 = .ok (.iinc 1 1, 3) := by decide +kernel
theorem dX6_load_98 : decode cX6_load 98 = .ok (.iinc 2 1, 3) := by decide +kernel
theorem dX6_load_101 : decode cX6_load 101 = .ok (.goto (-36), 3) := by decide +kernel
theorem dX6_load_104 : decode cX6_load 104 = .ok (.aload_n 0, 1) := by decide +kernel
theorem dX6_load_105 : decode cX6_load 105 = .ok (.getfield 43, 3) := by decide +kernel
theorem dX6_load_108 : decode cX6_load 108 = .ok (.invokevirtual 111, 3) := by decide +kernel
theorem dX6_load_111 : decode cX6_load 111 = .ok (.iconst 0, 1) := by decide +kernel
theorem dX6_load_112 : decode cX6_load 112 = .ok (.istore_n 2, 1) := by decide +kernel
theorem dX6_load_113 : decode cX6_load 113 = .ok (.iload_n 2, 1) := by decide +kernel
theorem dX6_load_114 : decode cX6_load 114 = .ok (.iconst 2, 1) := by decide +kernel
theorem dX6_load_115 : decode cX6_load 115 = .ok (.if_icmp .ge 16, 3) := by decide +kernel
theorem dX6_load_118 : decode cX6_load 118 = .ok (.aload_n 0, 1) := by decide +kernel
theorem dX6_load_119 : decode cX6_load 119 = .ok (.getfield 51, 3) := by decide +kernel
theorem dX6_load_122 : decode cX6_load 122 = .ok (.iload_n 2, 1) := by decide +kernel
theorem dX6_load_123 : decode cX6_load 123 = .ok (.iconst 0, 1) := by decide +kernel
theorem dX6_load_124 : decode cX6_load 124 = .ok (.bastore, 1) := by decide +kernel
theorem dX6_load_125 : decode cX6_load 125 = .ok (.iinc 2 1, 3) := by decide +kernel
theorem dX6_load_128 : decode cX6_load 128 = .ok (.goto (-15), 3) := by decide +kernel
theorem dX6_load_131 : decode cX6_load 131 = .ok (.iload_n 1, 1) := by decide +kernel
theorem dX6_load_132 : decode cX6_load 132 = .ok (.ireturn, 1) := by decide +kernel
set_option maxRecDepth 20000 in
theorem ggX6_doMoveAt_X5_signAt : GoodIn wsX6_doMoveAt wsX5_signAt := goodIn_r _ [7, 8, 9, 163, 164] (by decide +kernel) (by decide +kernel)
set_option maxRecDepth 20000 in
theorem gX6_doMoveAt_X5_signAt : GoodIn wsX6_doMoveAt (wsV RX6 114 RX5 yX5_signAt wsX5_signAt) := goodIn_app (goodIn_of _ (by decide +kernel)) ggX6_doMoveAt_X5_signAt
set_option maxRecDepth 20000 in
theorem ggX6_doMoveAt_X5_digitAt : GoodIn wsX6_doMoveAt wsX5_digitAt := goodIn_r _ [13, 14, 4, 5, 6, 7, 8, 9, 163, 164] (by decide +kernel) (by decide +kernel)
set_option maxRecDepth 20000 in
theorem gX6_doMoveAt_X5_digitAt : GoodIn wsX6_doMoveAt (wsV RX6 118 RX5 yX5_digitAt wsX5_digitAt) := goodIn_app (goodIn_of _ (by decide +kernel)) ggX6_doMoveAt_X5_digitAt
set_option maxRecDepth 20000 in
theorem ggX6_doMoveAt_X2_tryShift : GoodIn wsX6_doMoveAt wsX2_tryShift := goodIn_r _ [19, 20, 21, 22, 18, 23, 24, 25, 26, 27, 28, 29, 30, 31, 32, 33, 34, 35, 36, 37, 38, 39, 40, 41, 42, 43, 44, 45, 46, 47, 48, 49, 50, 51, 52, 53, 54, 55, 56, 57, 58, 59, 60, 61, 62, 63, 64, 65, 66, 67, 68, 69, 70, 71, 165, 166, 167, 168, 169, 170, 171, 172, 173, 174, 175, 176, 177, 178, 179, 180] (by decide +kernel) (by decide +kernel)
set_option maxRecDepth 20000 in
theorem gX6_doMoveAt_X2_tryShift : GoodIn wsX6_doMoveAt (wsV RX6 122 RX2 yX2_tryShift wsX2_tryShift) := goodIn_app (goodIn_of _ (by decide +kernel)) ggX6_doMoveAt_X2_tryShift
set_option maxRecDepth 20000 in
theorem ggX6_doMoveAt_X2_tryGo : GoodIn wsX6_doMoveAt wsX2_tryGo := goodIn_r _ [75, 76, 77, 78, 18, 79, 25, 80, 81, 82, 83, 24, 26, 27, 28, 29, 30, 31, 84, 85, 86, 87, 32, 33, 34, 35, 41, 42, 43, 44, 45, 88, 89, 90, 91, 92, 93, 37, 94, 95, 96, 97, 49, 98, 71, 99, 100, 101, 102, 62, 103, 104, 105, 106, 107, 108, 109, 110, 111, 112, 113, 114, 115, 116, 117, 118, 119, 120, 121, 122, 63, 123, 124, 125, 126, 127, 128, 129, 130, 131, 132, 133, 134, 135, 136, 137, 138, 139, 140, 141, 142, 51, 165, 166, 167, 168, 169, 170, 171, 172, 173, 174, 175, 176, 177, 178, 179, 180] (by decide +kernel) (by decide +kernel)
set_option maxRecDepth 20000 in
theorem gX6_doMoveAt_X2_tryGo : GoodIn wsX6_doMoveAt (wsV RX6 126 RX2 yX2_tryGo wsX2_tryGo) := goodIn_app (goodIn_of _ (by decide +kernel)) ggX6_doMoveAt_X2_tryGo
set_option maxRecDepth 20000 in
theorem ggX6_doMoveAt_X2_tryLock : GoodIn wsX6_doMoveAt wsX2_tryLock := goodIn_r _ [146, 80, 81, 82, 18, 83, 24, 26, 27, 28, 29, 30, 31, 36, 37, 38, 147, 148, 149, 150, 25, 41, 42, 43, 44, 45, 151, 152, 153, 49, 154, 51, 129, 130, 131, 132, 133, 134, 135, 136, 137, 138, 123, 88, 89, 90, 91, 92, 93, 94, 139, 140, 141, 142, 165, 166, 167, 168, 169, 170, 171, 172, 173, 174, 175, 176, 177, 178, 179, 180] (by decide +kernel) (by decide +kernel)
set_option maxRecDepth 20000 in
theorem gX6_doMoveAt_X2_tryLock : GoodIn wsX6_doMoveAt (wsV RX6 129 RX2 yX2_tryLock wsX2_tryLock) := goodIn_app (goodIn_of _ (by decide +kernel)) ggX6_doMoveAt_X2_tryLock
theorem dX6_doMoveAt_0 : decode cX6_doMoveAt 0 = .ok (.aload_n 0, 1) := by decide +kernel
theorem dX6_doMoveAt_1 : decode cX6_doMoveAt 1 = .ok (.getfield 10, 3) := by decide +kernel
theorem dX6_doMoveAt_4 : decode cX6_doMoveAt 4 = .ok (.iload_n 1, 1) := by decide +kernel
theorem dX6_doMoveAt_5 : decode cX6_doMoveAt 5 = .ok (.invokevirtual 114, 3) := by decide +kernel
theorem dX6_doMoveAt_8 : decode cX6_doMoveAt 8 = .ok (.istore_n 2, 1) := by decide +kernel
theorem dX6_doMoveAt_9 : decode cX6_doMoveAt 9 = .ok (.aload_n 0, 1) := by decide +kernel
theorem dX6_doMoveAt_10 : decode cX6_doMoveAt 10 = .ok (.getfield 10, 3) := by decide +kernel
theorem dX6_doMoveAt_13 : decode cX6_doMoveAt 13 = .ok (.iload_n 1, 1) := by decide +kernel
theorem dX6_doMoveAt_14 : decode cX6_doMoveAt 14 = .ok (.iconst 1, 1) := by decide +kernel
theorem dX6_doMoveAt_15 : decode cX6_doMoveAt 15 = .ok (.iadd, 1) := by decide +kernel
theorem dX6_doMoveAt_16 : decode cX6_doMoveAt 16 = .ok (.invokevirtual 118, 3) := by decide +kernel
theorem dX6_doMoveAt_19 : decode cX6_doMoveAt 19 = .ok (.istore_n 3, 1) := by decide +kernel
theorem dX6_doMoveAt_20 : decode cX6_doMoveAt 20 = .ok (.iload_n 2, 1) := by decide +kernel
theorem dX6_doMoveAt_21 : decode cX6_doMoveAt 21 = .ok (.bipush 115, 2) := by decide +kernel
theorem dX6_doMoveAt_23 : decode cX6_doMoveAt 23 = .ok (.if_icmp .ne 46, 3) := by decide +kernel
theorem dX6_doMoveAt_26 : decode cX6_doMoveAt 26 = .ok (.aload_n 0, 1) := by decide +kernel
theorem dX6_doMoveAt_27 : decode cX6_doMoveAt 27 = .ok (.getfield 10, 3) := by decide +kernel
theorem dX6_doMoveAt_30 : decode cX6_doMoveAt 30 = .ok (.iload_n 1, 1) := by decide +kernel
theorem dX6_doMoveAt_31 : decode cX6_doMoveAt 31 = .ok (.iconst 3, 1) := by decide +kernel
theorem dX6_doMoveAt_32 : decode cX6_doMoveAt 32 = .ok (.iadd, 1) := by decide +kernel
theorem dX6_doMoveAt_33 : decode cX6_doMoveAt 33 = .ok (.invokevirtual 114, 3) := by decide +kernel
theorem dX6_doMoveAt_36 : decode cX6_doMoveAt 36 = .ok (.bipush 43, 2) := by decide +kernel
theorem dX6_doMoveAt_38 : decode cX6_doMoveAt 38 = .ok (.if_icmp .ne 7, 3) := by decide +kernel
theorem dX6_doMoveAt_41 : decode cX6_doMoveAt 41 = .ok (.iconst 1, 1) := by decide +kernel
theorem dX6_doMoveAt_42 : decode cX6_doMoveAt 42 = .ok (.goto 4, 3) := by decide +kernel
theorem dX6_doMoveAt_45 : decode cX6_doMoveAt 45 = .ok (.iconst 0, 1) := by decide +kernel
theorem dX6_doMoveAt_46 : decode cX6_doMoveAt 46 = .ok (.istore 4, 2) := by decide +kernel
theorem dX6_doMoveAt_48 : decode cX6_doMoveAt 48 = .ok (.aload_n 0, 1) := by decide +kernel
theorem dX6_doMoveAt_49 : decode cX6_doMoveAt 49 = .ok (.getfield 19, 3) := by decide +kernel
theorem dX6_doMoveAt_52 : decode cX6_doMoveAt 52 = .ok (.iload_n 3, 1) := by decide +kernel
theorem dX6_doMoveAt_53 : decode cX6_doMoveAt 53 = .ok (.aload_n 0, 1) := by decide +kernel
theorem dX6_doMoveAt_54 : decode cX6_doMoveAt 54 = .ok (.getfield 10, 3) := by decide +kernel
theorem dX6_doMoveAt_57 : decode cX6_doMoveAt 57 = .ok (.iload_n 1, 1) := by decide +kernel
theorem dX6_doMoveAt_58 : decode cX6_doMoveAt 58 = .ok (.iconst 2, 1) := by decide +kernel
theorem dX6_doMoveAt_59 : decode cX6_doMoveAt 59 = .ok (.iadd, 1) := by decide +kernel
theorem dX6_doMoveAt_60 : decode cX6_doMoveAt 60 = .ok (.invokevirtual 118, 3) := by decide +kernel
theorem dX6_doMoveAt_63 : decode cX6_doMoveAt 63 = .ok (.iload 4, 2) := by decide +kernel
theorem dX6_doMoveAt_65 : decode cX6_doMoveAt 65 = .ok (.invokevirtual 122, 3) := by decide +kernel
theorem dX6_doMoveAt_68 : decode cX6_doMoveAt 68 = .ok (.ireturn, 1) := by decide +kernel
theorem dX6_doMoveAt_69 : decode cX6_doMoveAt 69 = .ok (.iload_n 2, 1) := by decide +kernel
theorem dX6_doMoveAt_70 : decode cX6_doMoveAt 70 = .ok (.bipush 103, 2) := by decide +kernel
theorem dX6_doMoveAt_72 : decode cX6_doMoveAt 72 = .ok (.if_icmp .ne 14, 3) := by decide +kernel
theorem dX6_doMoveAt_75 : decode cX6_doMoveAt 75 = .ok (.aload_n 0, 1) := by decide +kernel
theorem dX6_doMoveAt_76 : decode cX6_doMoveAt 76 = .ok (.getfield 19, 3) := by decide +kernel
theorem dX6_doMoveAt_79 : decode cX6_doMoveAt 79 = .ok (.iload_n 3, 1) := by decide +kernel
theorem dX6_doMoveAt_80 : decode cX6_doMoveAt 80 = .ok (.invokevirtual 126, 3) := by decide +kernel
theorem dX6_doMoveAt_83 : decode cX6_doMoveAt 83 = .ok (.goto 11, 3) := by decide +kernel
theorem dX6_doMoveAt_86 : decode cX6_doMoveAt 86 = .ok (.aload_n 0, 1) := by decide +kernel
theorem dX6_doMoveAt_87 : decode cX6_doMoveAt 87 = .ok (.getfield 19, 3) := by decide +kernel
theorem dX6_doMoveAt_90 : decode cX6_doMoveAt 90 = .ok (.iload_n 3, 1) := by decide +kernel
theorem dX6_doMoveAt_91 : decode cX6_doMoveAt 91 = .ok (.invokevirtual 129, 3) := by decide +kernel
theorem dX6_doMoveAt_94 : decode cX6_doMoveAt 94 = .ok (.ireturn, 1) := by decide +kernel
set_option maxRecDepth 20000 in
theorem ggX6_about_X2_players : GoodIn wsX6_about wsX2_players := goodIn_r _ [8, 9, 43, 44, 45, 46, 47, 48, 49, 50] (by decide +kernel) (by decide +kernel)
set_option maxRecDepth 20000 in
theorem gX6_about_X2_players : GoodIn wsX6_about (wsV RX6 132 RX2 yX2_players wsX2_players) := goodIn_app (goodIn_of _ (by decide +kernel)) ggX6_about_X2_players
set_option maxRecDepth 20000 in
theorem ggX6_about_X2_whoseTurn : GoodIn wsX6_about wsX2_whoseTurn := goodIn_r _ [13, 14, 15, 43, 44, 45, 46, 47, 48, 49, 50] (by decide +kernel) (by decide +kernel)
set_option maxRecDepth 20000 in
theorem gX6_about_X2_whoseTurn : GoodIn wsX6_about (wsV RX6 133 RX2 yX2_whoseTurn wsX2_whoseTurn) := goodIn_app (goodIn_of _ (by decide +kernel)) ggX6_about_X2_whoseTurn
set_option maxRecDepth 20000 in
theorem ggX6_about_X2_isShifted : GoodIn wsX6_about wsX2_isShifted := goodIn_r _ [19, 20, 43, 44, 45, 46, 47, 48, 49, 50] (by decide +kernel) (by decide +kernel)
set_option maxRecDepth 20000 in
theorem gX6_about_X2_isShifted : GoodIn wsX6_about (wsV RX6 136 RX2 yX2_isShifted wsX2_isShifted) := goodIn_app (goodIn_of _ (by decide +kernel)) ggX6_about_X2_isShifted
set_option maxRecDepth 20000 in
theorem ggX6_about_X2_ended : GoodIn wsX6_about wsX2_ended := goodIn_r _ [24, 25, 43, 44, 45, 46, 47, 48, 49, 50] (by decide +kernel) (by decide +kernel)
set_option maxRecDepth 20000 in
theorem gX6_about_X2_ended : GoodIn wsX6_about (wsV RX6 139 RX2 yX2_ended wsX2_ended) := goodIn_app (goodIn_of _ (by decide +kernel)) ggX6_about_X2_ended
set_option maxRecDepth 20000 in
theorem ggX6_about_X2_isOver : GoodIn wsX6_about wsX2_isOver := goodIn_r _ [29, 14, 43, 44, 45, 46, 47, 48, 49, 50] (by decide +kernel) (by decide +kernel)
set_option maxRecDepth 20000 in
theorem gX6_about_X2_isOver : GoodIn wsX6_about (wsV RX6 142 RX2 yX2_isOver wsX2_isOver) := goodIn_app (goodIn_of _ (by decide +kernel)) ggX6_about_X2_isOver
set_option maxRecDepth 20000 in
theorem ggX6_about_X2_winner : GoodIn wsX6_about wsX2_winner := goodIn_r _ [33, 34, 43, 44, 45, 46, 47, 48, 49, 50] (by decide +kernel) (by decide +kernel)
set_option maxRecDepth 20000 in
theorem gX6_about_X2_winner : GoodIn wsX6_about (wsV RX6 145 RX2 yX2_winner wsX2_winner) := goodIn_app (goodIn_of _ (by decide +kernel)) ggX6_about_X2_winner
theorem dX6_about_0 : decode cX6_about 0 = .ok (.iload_n 1, 1) := by decide +kernel
theorem dX6_about_1 : decode cX6_about 1 = .ok (.tableswitch 103 0 5 #[39, 47, 55, 71, 79, 95], 39) := by decide +kernel
theorem dX6_about_40 : decode cX6_about 40 = .ok (.aload_n 0, 1) := by decide +kernel
theorem dX6_about_41 : decode cX6_about 41 = .ok (.getfield 19, 3) := by decide +kernel
theorem dX6_about_44 : decode cX6_about 44 = .ok (.invokevirtual 132, 3) := by decide +kernel
theorem dX6_about_47 : decode cX6_about 47 = .ok (.ireturn, 1) := by decide +kernel
theorem dX6_about_48 : decode cX6_about 48 = .ok (.aload_n 0, 1) := by decide +kernel
theorem dX6_about_49 : decode cX6_about 49 = .ok (.getfield 19, 3) := by decide +kernel
theorem dX6_about_52 : decode cX6_about 52 = .ok (.invokevirtual 133, 3) := by decide +kernel
theorem dX6_about_55 : decode cX6_about 55 = .ok (.ireturn, 1) := by decide +kernel
theorem dX6_about_56 : decode cX6_about 56 = .ok (.aload_n 0, 1) := by decide +kernel
theorem dX6_about_57 : decode cX6_about 57 = .ok (.getfield 19, 3) := by decide +kernel
theorem dX6_about_60 : decode cX6_about 60 = .ok (.invokevirtual 136, 3) := by decide +kernel
theorem dX6_about_63 : decode cX6_about 63 = .ok (.ifCond .eq 7, 3) := by decide +kernel
theorem dX6_about_66 : decode cX6_about 66 = .ok (.iconst 1, 1) := by decide +kernel
theorem dX6_about_67 : decode cX6_about 67 = .ok (.goto 4, 3) := by decide +kernel
theorem dX6_about_70 : decode cX6_about 70 = .ok (.iconst 0, 1) := by decide +kernel
theorem dX6_about_71 : decode cX6_about 71 = .ok (.ireturn, 1) := by decide +kernel
theorem dX6_about_72 : decode cX6_about 72 = .ok (.aload_n 0, 1) := by decide +kernel
theorem dX6_about_73 : decode cX6_about 73 = .ok (.getfield 19, 3) := by decide +kernel
theorem dX6_about_76 : decode cX6_about 76 = .ok (.invokevirtual 139, 3) := by decide +kernel
theorem dX6_about_79 : decode cX6_about 79 = .ok (.ireturn, 1) := by decide +kernel
theorem dX6_about_80 : decode cX6_about 80 = .ok (.aload_n 0, 1) := by decide +kernel
theorem dX6_about_81 : decode cX6_about 81 = .ok (.getfield 19, 3) := by decide +kernel
theorem dX6_about_84 : decode cX6_about 84 = .ok (.invokevirtual 142, 3) := by decide +kernel
theorem dX6_about_87 : decode cX6_about 87 = .ok (.ifCond .eq 7, 3) := by decide +kernel
theorem dX6_about_90 : decode cX6_about 90 = .ok (.iconst 1, 1) := by decide +kernel
theorem dX6_about_91 : decode cX6_about 91 = .ok (.goto 4, 3) := by decide +kernel
theorem dX6_about_94 : decode cX6_about 94 = .ok (.iconst 0, 1) := by decide +kernel
theorem dX6_about_95 : decode cX6_about 95 = .ok (.ireturn, 1) := by decide +kernel
theorem dX6_about_96 : decode cX6_about 96 = .ok (.aload_n 0, 1) := by decide +kernel
theorem dX6_about_97 : decode cX6_about 97 = .ok (.getfield 19, 3) := by decide +kernel
theorem dX6_about_100 : decode cX6_about 100 = .ok (.invokevirtual 145, 3) := by decide +kernel
theorem dX6_about_103 : decode cX6_about 103 = .ok (.ireturn, 1) := by decide +kernel
theorem dX6_about_104 : decode cX6_about 104 = .ok (.new 55, 3) := by decide +kernel
theorem dX6_about_107 : decode cX6_about 107 = .ok (.dup, 1) := by decide +kernel
theorem dX6_about_108 : decode cX6_about 108 = .ok (.ldc 148, 2) := by decide +kernel
theorem dX6_about_110 : decode cX6_about 110 = .ok (.invokespecial 59, 3) := by decide +kernel
theorem dX6_about_113 : decode cX6_about 113 = .ok (.athrow, 1) := by decide +kernel
set_option maxRecDepth 20000 in
theorem ggX6_tile_X2_hasPlayer : GoodIn wsX6_tile wsX2_hasPlayer := goodIn_r _ [10, 11, 45, 46, 47, 48, 49, 50, 51, 52] (by decide +kernel) (by decide +kernel)
set_option maxRecDepth 20000 in
theorem gX6_tile_X2_hasPlayer : GoodIn wsX6_tile (wsV RX6 150 RX2 yX2_hasPlayer wsX2_hasPlayer) := goodIn_app (goodIn_of _ (by decide +kernel)) ggX6_tile_X2_hasPlayer
set_option maxRecDepth 20000 in
theorem ggX6_tile_X6_isPlace : GoodIn wsX6_tile wsX6_isPlace := goodIn_r _ [15] (by decide +kernel) (by decide +kernel)
set_option maxRecDepth 20000 in
theorem gX6_tile_X6_isPlace : GoodIn wsX6_tile (va_wsS RX6 153 yX6_isPlace wsX6_isPlace) := goodIn_app (goodIn_of _ (by decide +kernel)) ggX6_tile_X6_isPlace
set_option maxRecDepth 20000 in
theorem ggX6_tile_X2_boardOf : GoodIn wsX6_tile wsX2_boardOf := goodIn_r _ [19, 20, 45, 46, 47, 48, 49, 50, 51, 52] (by decide +kernel) (by decide +kernel)
set_option maxRecDepth 20000 in
theorem gX6_tile_X2_boardOf : GoodIn wsX6_tile (wsV RX6 161 RX2 yX2_boardOf wsX2_boardOf) := goodIn_app (goodIn_of _ (by decide +kernel)) ggX6_tile_X2_boardOf
set_option maxRecDepth 20000 in
theorem ggX6_tile_X0_openingsAt : GoodIn wsX6_tile wsX0_openingsAt := goodIn_r _ [25, 26, 13, 14, 15, 53, 54, 55, 56, 57, 58, 59, 60] (by decide +kernel) (by decide +kernel)
set_option maxRecDepth 20000 in
theorem gX6_tile_X0_openingsAt : GoodIn wsX6_tile (wsV RX6 165 RX0 yX0_openingsAt wsX0_openingsAt) := goodIn_app (goodIn_of _ (by decide +kernel)) ggX6_tile_X0_openingsAt
set_option maxRecDepth 20000 in
theorem ggX6_tile_X0_treasureAt : GoodIn wsX6_tile wsX0_treasureAt := goodIn_r _ [30, 31, 13, 14, 15, 53, 54, 55, 56, 57, 58, 59, 60] (by decide +kernel) (by decide +kernel)
set_option maxRecDepth 20000 in
theorem gX6_tile_X0_treasureAt : GoodIn wsX6_tile (wsV RX6 170 RX0 yX0_treasureAt wsX0_treasureAt) := goodIn_app (goodIn_of _ (by decide +kernel)) ggX6_tile_X0_treasureAt
set_option maxRecDepth 20000 in
theorem ggX6_tile_X0_ship : GoodIn wsX6_tile wsX0_ship := goodIn_r _ [35, 36, 53, 54, 55, 56, 57, 58, 59, 60] (by decide +kernel) (by decide +kernel)
set_option maxRecDepth 20000 in
theorem gX6_tile_X0_ship : GoodIn wsX6_tile (wsV RX6 173 RX0 yX0_ship wsX0_ship) := goodIn_app (goodIn_of _ (by decide +kernel)) ggX6_tile_X0_ship
theorem dX6_tile_0 : decode cX6_tile 0 = .ok (.aload_n 0, 1) := by decide +kernel
theorem dX6_tile_1 : decode cX6_tile 1 = .ok (.getfield 19, 3) := by decide +kernel
theorem dX6_tile_4 : decode cX6_tile 4 = .ok (.iload_n 1, 1) := by decide +kernel
theorem dX6_tile_5 : decode cX6_tile 5 = .ok (.invokevirtual 150, 3) := by decide +kernel
theorem dX6_tile_8 : decode cX6_tile 8 = .ok (.ifCond .eq 10, 3) := by decide +kernel
theorem dX6_tile_11 : decode cX6_tile 11 = .ok (.iload_n 2, 1) := by decide +kernel
theorem dX6_tile_12 : decode cX6_tile 12 = .ok (.invokestatic 153, 3) := by decide +kernel
theorem dX6_tile_15 : decode cX6_tile 15 = .ok (.ifCond .ne 13, 3) := by decide +kernel
theorem dX6_tile_18 : decode cX6_tile 18 = .ok (.new 156, 3) := by decide +kernel
theorem dX6_tile_21 : decode cX6_tile 21 = .ok (.dup, 1) := by decide +kernel
theorem dX6_tile_22 : decode cX6_tile 22 = .ok (.ldc 158, 2) := by decide +kernel
theorem dX6_tile_24 : decode cX6_tile 24 = .ok (.invokespecial 160, 3) := by decide +kernel
theorem dX6_tile_27 : decode cX6_tile 27 = .ok (.athrow, 1) := by decide +kernel
theorem dX6_tile_28 : decode cX6_tile 28 = .ok (.aload_n 0, 1) := by decide +kernel
theorem dX6_tile_29 : decode cX6_tile 29 = .ok (.getfield 19, 3) := by decide +kernel
theorem dX6_tile_32 : decode cX6_tile 32 = .ok (.iload_n 1, 1) := by decide +kernel
theorem dX6_tile_33 : decode cX6_tile 33 = .ok (.invokevirtual 161, 3) := by decide +kernel
theorem dX6_tile_36 : decode cX6_tile 36 = .ok (.astore 4, 2) := by decide +kernel
theorem dX6_tile_38 : decode cX6_tile 38 = .ok (.iload_n 3, 1) := by decide +kernel
theorem dX6_tile_39 : decode cX6_tile 39 = .ok (.tableswitch 54 0 2 #[25, 32, 39], 25) := by decide +kernel
theorem dX6_tile_64 : decode cX6_tile 64 = .ok (.aload 4, 2) := by decide +kernel
theorem dX6_tile_66 : decode cX6_tile 66 = .ok (.iload_n 2, 1) := by decide +kernel
theorem dX6_tile_67 : decode cX6_tile 67 = .ok (.invokevirtual 165, 3) := by decide +kernel
theorem dX6_tile_70 : decode cX6_tile 70 = .ok (.ireturn, 1) := by decide +kernel
theorem dX6_tile_71 : decode cX6_tile 71 = .ok (.aload 4, 2) := by decide +kernel
theorem dX6_tile_73 : decode cX6_tile 73 = .ok (.iload_n 2, 1) := by decide +kernel
theorem dX6_tile_74 : decode cX6_tile 74 = .ok (.invokevirtual 170, 3) := by decide +kernel
theorem dX6_tile_77 : decode cX6_tile 77 = .ok (.ireturn, 1) := by decide +kernel
theorem dX6_tile_78 : decode cX6_tile 78 = .ok (.aload 4, 2) := by decide +kernel
theorem dX6_tile_80 : decode cX6_tile 80 = .ok (.invokevirtual 173, 3) := by decide +kernel
theorem dX6_tile_83 : decode cX6_tile 83 = .ok (.iload_n 2, 1) := by decide +kernel
theorem dX6_tile_84 : decode cX6_tile 84 = .ok (.if_icmp .ne 7, 3) := by decide +kernel
theorem dX6_tile_87 : decode cX6_tile 87 = .ok (.iconst 1, 1) := by decide +kernel
theorem dX6_tile_88 : decode cX6_tile 88 = .ok (.goto 4, 3) := by decide +kernel
theorem dX6_tile_91 : decode cX6_tile 91 = .ok (.iconst 0, 1) := by decide +kernel
theorem dX6_tile_92 : decode cX6_tile 92 = .ok (.ireturn, 1) := by decide +kernel
theorem dX6_tile_93 : decode cX6_tile 93 = .ok (.new 55, 3) := by decide +kernel
theorem dX6_tile_96 : decode cX6_tile 96 = .ok (.dup, 1) := by decide +kernel
theorem dX6_tile_97 : decode cX6_tile 97 = .ok (.ldc 176, 2) := by decide +kernel
theorem dX6_tile_99 : decode cX6_tile 99 = .ok (.invokespecial 59, 3) := by decide +kernel
theorem dX6_tile_102 : decode cX6_tile 102 = .ok (.athrow, 1) := by decide +kernel
set_option maxRecDepth 20000 in
theorem ggX6_player_X2_hasPlayer : GoodIn wsX6_player wsX2_hasPlayer := goodIn_r _ [10, 11, 92, 93, 94, 95, 96, 97, 98, 99] (by decide +kernel) (by decide +kernel)
set_option maxRecDepth 20000 in
theorem gX6_player_X2_hasPlayer : GoodIn wsX6_player (wsV RX6 150 RX2 yX2_hasPlayer wsX2_hasPlayer) := goodIn_app (goodIn_of _ (by decide +kernel)) ggX6_player_X2_hasPlayer
set_option maxRecDepth 20000 in
theorem ggX6_player_X2_boardOf : GoodIn wsX6_player wsX2_boardOf := goodIn_r _ [15, 16, 92, 93, 94, 95, 96, 97, 98, 99] (by decide +kernel) (by decide +kernel)
set_option maxRecDepth 20000 in
theorem gX6_player_X2_boardOf : GoodIn wsX6_player (wsV RX6 161 RX2 yX2_boardOf wsX2_boardOf) := goodIn_app (goodIn_of _ (by decide +kernel)) ggX6_player_X2_boardOf
set_option maxRecDepth 20000 in
theorem ggX6_player_X0_ship : GoodIn wsX6_player wsX0_ship := goodIn_r _ [21, 22, 100, 101, 102, 103, 104, 105, 106, 107] (by decide +kernel) (by decide +kernel)
set_option maxRecDepth 20000 in
theorem gX6_player_X0_ship : GoodIn wsX6_player (wsV RX6 173 RX0 yX0_ship wsX0_ship) := goodIn_app (goodIn_of _ (by decide +kernel)) ggX6_player_X0_ship
set_option maxRecDepth 20000 in
theorem ggX6_player_X0_taken : GoodIn wsX6_player wsX0_taken := goodIn_r _ [26, 27, 100, 101, 102, 103, 104, 105, 106, 107] (by decide +kernel) (by decide +kernel)
set_option maxRecDepth 20000 in
theorem gX6_player_X0_taken : GoodIn wsX6_player (wsV RX6 180 RX0 yX0_taken wsX0_taken) := goodIn_app (goodIn_of _ (by decide +kernel)) ggX6_player_X0_taken
set_option maxRecDepth 20000 in
theorem ggX6_player_X0_sought : GoodIn wsX6_player wsX0_sought := goodIn_r _ [31, 27, 32, 100, 101, 102, 103, 104, 105, 106, 107] (by decide +kernel) (by decide +kernel)
set_option maxRecDepth 20000 in
theorem gX6_player_X0_sought : GoodIn wsX6_player (wsV RX6 183 RX0 yX0_sought wsX0_sought) := goodIn_app (goodIn_of _ (by decide +kernel)) ggX6_player_X0_sought
set_option maxRecDepth 20000 in
theorem ggX6_player_X0_soughtPlace : GoodIn wsX6_player wsX0_soughtPlace := goodIn_r _ [36, 37, 38, 29, 30, 20, 31, 27, 32, 100, 101, 102, 103, 104, 105, 106, 107] (by decide +kernel) (by decide +kernel)
set_option maxRecDepth 20000 in
theorem gX6_player_X0_soughtPlace : GoodIn wsX6_player (wsV RX6 186 RX0 yX0_soughtPlace wsX0_soughtPlace) := goodIn_app (goodIn_of _ (by decide +kernel)) ggX6_player_X0_soughtPlace
set_option maxRecDepth 20000 in
theorem ggX6_player_X0_lockedLine : GoodIn wsX6_player wsX0_lockedLine := goodIn_r _ [42, 43, 100, 101, 102, 103, 104, 105, 106, 107] (by decide +kernel) (by decide +kernel)
set_option maxRecDepth 20000 in
theorem gX6_player_X0_lockedLine : GoodIn wsX6_player (wsV RX6 189 RX0 yX0_lockedLine wsX0_lockedLine) := goodIn_app (goodIn_of _ (by decide +kernel)) ggX6_player_X0_lockedLine
set_option maxRecDepth 20000 in
theorem ggX6_player_X0_lastLine : GoodIn wsX6_player wsX0_lastLine := goodIn_r _ [47, 48, 100, 101, 102, 103, 104, 105, 106, 107] (by decide +kernel) (by decide +kernel)
set_option maxRecDepth 20000 in
theorem gX6_player_X0_lastLine : GoodIn wsX6_player (wsV RX6 192 RX0 yX0_lastLine wsX0_lastLine) := goodIn_app (goodIn_of _ (by decide +kernel)) ggX6_player_X0_lastLine
set_option maxRecDepth 20000 in
theorem ggX6_player_X0_lastDirection : GoodIn wsX6_player wsX0_lastDirection := goodIn_r _ [52, 53, 100, 101, 102, 103, 104, 105, 106, 107] (by decide +kernel) (by decide +kernel)
set_option maxRecDepth 20000 in
theorem gX6_player_X0_lastDirection : GoodIn wsX6_player (wsV RX6 195 RX0 yX0_lastDirection wsX0_lastDirection) := goodIn_app (goodIn_of _ (by decide +kernel)) ggX6_player_X0_lastDirection
set_option maxRecDepth 20000 in
theorem ggX6_player_X2_settingOf : GoodIn wsX6_player wsX2_settingOf := goodIn_r _ [57, 58, 59, 60, 61, 92, 93, 94, 95, 96, 97, 98, 99] (by decide +kernel) (by decide +kernel)
set_option maxRecDepth 20000 in
theorem gX6_player_X2_settingOf : GoodIn wsX6_player (wsV RX6 198 RX2 yX2_settingOf wsX2_settingOf) := goodIn_app (goodIn_of _ (by decide +kernel)) ggX6_player_X2_settingOf
set_option maxRecDepth 20000 in
theorem ggX6_player_X0_reach : GoodIn wsX6_player wsX0_reach := goodIn_r _ [65, 22, 66, 67, 68, 20, 69, 70, 71, 72, 73, 74, 75, 76, 77, 100, 101, 102, 103, 104, 105, 106, 107] (by decide +kernel) (by decide +kernel)
set_option maxRecDepth 20000 in
theorem gX6_player_X0_reach : GoodIn wsX6_player (wsV RX6 201 RX0 yX0_reach wsX0_reach) := goodIn_app (goodIn_of _ (by decide +kernel)) ggX6_player_X0_reach
set_option maxRecDepth 20000 in
theorem ggX6_player_X6_isIn : GoodIn wsX6_player wsX6_isIn := goodIn_r _ [80, 81, 82, 60, 83] (by decide +kernel) (by decide +kernel)
set_option maxRecDepth 20000 in
theorem gX6_player_X6_isIn : GoodIn wsX6_player (va_wsS RX6 204 yX6_isIn wsX6_isIn) := goodIn_app (goodIn_of _ (by decide +kernel)) ggX6_player_X6_isIn
theorem dX6_player_0 : decode cX6_player 0 = .ok (.aload_n 0, 1) := by decide +kernel
theorem dX6_player_1 : decode cX6_player 1 = .ok (.getfield 19, 3) := by decide +kernel
theorem dX6_player_4 : decode cX6_player 4 = .ok (.iload_n 1, 1) := by decide +kernel
theorem dX6_player_5 : decode cX6_player 5 = .ok (.invokevirtual 150, 3) := by decide +kernel
theorem dX6_player_8 : decode cX6_player 8 = .ok (.ifCond .ne 13, 3) := by decide +kernel
theorem dX6_player_11 : decode cX6_player 11 = .ok (.new 156, 3) := by decide +kernel
theorem dX6_player_14 : decode cX6_player 14 = .ok (.dup, 1) := by decide +kernel
theorem dX6_player_15 : decode cX6_player 15 = .ok (.ldc 178, 2) := by decide +kernel
theorem dX6_player_17 : decode cX6_player 17 = .ok (.invokespecial 160, 3) := by decide +kernel
theorem dX6_player_20 : decode cX6_player 20 = .ok (.athrow, 1) := by decide +kernel
theorem dX6_player_21 : decode cX6_player 21 = .ok (.aload_n 0, 1) := by decide +kernel
theorem dX6_player_22 : decode cX6_player 22 = .ok (.getfield 19, 3) := by decide +kernel
theorem dX6_player_25 : decode cX6_player 25 = .ok (.iload_n 1, 1) := by decide +kernel
theorem dX6_player_26 : decode cX6_player 26 = .ok (.invokevirtual 161, 3) := by decide +kernel
theorem dX6_player_29 : decode cX6_player 29 = .ok (.astore_n 3, 1) := by decide +kernel
theorem dX6_player_30 : decode cX6_player 30 = .ok (.iload_n 2, 1) := by decide +kernel
theorem dX6_player_31 : decode cX6_player 31 = .ok (.tableswitch 125 0 8 #[49, 54, 59, 64, 69, 74, 79, 84, 97], 49) := by decide +kernel
theorem dX6_player_80 : decode cX6_player 80 = .ok (.aload_n 3, 1) := by decide +kernel
theorem dX6_player_81 : decode cX6_player 81 = .ok (.invokevirtual 173, 3) := by decide +kernel
theorem dX6_player_84 : decode cX6_player 84 = .ok (.ireturn, 1) := by decide +kernel
theorem dX6_player_85 : decode cX6_player 85 = .ok (.aload_n 3, 1) := by decide +kernel
theorem dX6_player_86 : decode cX6_player 86 = .ok (.invokevirtual 180, 3) := by decide +kernel
theorem dX6_player_89 : decode cX6_player 89 = .ok (.ireturn, 1) := by decide +kernel
theorem dX6_player_90 : decode cX6_player 90 = .ok (.aload_n 3, 1) := by decide +kernel
theorem dX6_player_91 : decode cX6_player 91 = .ok (.invokevirtual 183, 3) := by decide +kernel
theorem dX6_player_94 : decode cX6_player 94 = .ok (.ireturn, 1) := by decide +kernel
theorem dX6_player_95 : decode cX6_player 95 = .ok (.aload_n 3, 1) := by decide +kernel
theorem dX6_player_96 : decode cX6_player 96 = .ok (.invokevirtual 186, 3) := by decide +kernel
theorem dX6_player_99 : decode cX6_player 99 = .ok (.ireturn, 1) := by decide +kernel
theorem dX6_player_100 : decode cX6_player 100 = .ok (.aload_n 3, 1) := by decide +kernel
theorem dX6_player_101 : decode cX6_player 101 = .ok (.invokevirtual 189, 3) := by decide +kernel
theorem dX6_player_104 : decode cX6_player 104 = .ok (.ireturn, 1) := by decide +kernel
theorem dX6_player_105 : decode cX6_player 105 = .ok (.aload_n 3, 1) := by decide +kernel
theorem dX6_player_106 : decode cX6_player 106 = .ok (.invokevirtual 192, 3) := by decide +kernel
theorem dX6_player_109 : decode cX6_player 109 = .ok (.ireturn, 1) := by decide +kernel
theorem dX6_player_110 : decode cX6_player 110 = .ok (.aload_n 3, 1) := by decide +kernel
theorem dX6_player_111 : decode cX6_player 111 = .ok (.invokevirtual 195, 3) := by decide +kernel
theorem dX6_player_114 : decode cX6_player 114 = .ok (.ireturn, 1) := by decide +kernel
theorem dX6_player_115 : decode cX6_player 115 = .ok (.aload_n 3, 1) := by decide +kernel
theorem dX6_player_116 : decode cX6_player 116 = .ok (.aload_n 0, 1) := by decide +kernel
theorem dX6_player_117 : decode cX6_player 117 = .ok (.getfield 19, 3) := by decide +kernel
theorem dX6_player_120 : decode cX6_player 120 = .ok (.iconst 0, 1) := by decide +kernel
theorem dX6_player_121 : decode cX6_player 121 = .ok (.invokevirtual 198, 3) := by decide +kernel
theorem dX6_player_124 : decode cX6_player 124 = .ok (.invokevirtual 201, 3) := by decide +kernel
theorem dX6_player_127 : decode cX6_player 127 = .ok (.ireturn, 1) := by decide +kernel
theorem dX6_player_128 : decode cX6_player 128 = .ok (.aload_n 3, 1) := by decide +kernel
theorem dX6_player_129 : decode cX6_player 129 = .ok (.aload_n 0, 1) := by decide +kernel
theorem dX6_player_130 : decode cX6_player 130 = .ok (.getfield 19, 3) := by decide +kernel
theorem dX6_player_133 : decode cX6_player 133 = .ok (.iconst 0, 1) := by decide +kernel
theorem dX6_player_134 : decode cX6_player 134 = .ok (.invokevirtual 198, 3) := by decide +kernel
theorem dX6_player_137 : decode cX6_player 137 = .ok (.invokevirtual 201, 3) := by decide +kernel
theorem dX6_player_140 : decode cX6_player 140 = .ok (.aload_n 3, 1) := by decide +kernel
theorem dX6_player_141 : decode cX6_player 141 = .ok (.invokevirtual 186, 3) := by decide +kernel
theorem dX6_player_144 : decode cX6_player 144 = .ok (.invokestatic 204, 3) := by decide +kernel
theorem dX6_player_147 : decode cX6_player 147 = .ok (.ifCond .eq 7, 3) := by decide +kernel
theorem dX6_player_150 : decode cX6_player 150 = .ok (.iconst 1, 1) := by decide +kernel
theorem dX6_player_151 : decode cX6_player 151 = .ok (.goto 4, 3) := by decide +kernel
theorem dX6_player_154 : decode cX6_player 154 = .ok (.iconst 0, 1) := by decide +kernel
theorem dX6_player_155 : decode cX6_player 155 = .ok (.ireturn, 1) := by decide +kernel
theorem dX6_player_156 : decode cX6_player 156 = .ok (.new 55, 3) := by decide +kernel
theorem dX6_player_159 : decode cX6_player 159 = .ok (.dup, 1) := by decide +kernel
theorem dX6_player_160 : decode cX6_player 160 = .ok (.ldc 208, 2) := by decide +kernel
theorem dX6_player_162 : decode cX6_player 162 = .ok (.invokespecial 59, 3) := by decide +kernel
theorem dX6_player_165 : decode cX6_player 165 = .ok (.athrow, 1) := by decide +kernel
set_option maxRecDepth 20000 in
theorem ggX6_setting_X6_isSetting : GoodIn wsX6_setting wsX6_isSetting := goodIn_r _ [7] (by decide +kernel) (by decide +kernel)
set_option maxRecDepth 20000 in
theorem gX6_setting_X6_isSetting : GoodIn wsX6_setting (va_wsS RX6 210 yX6_isSetting wsX6_isSetting) := goodIn_app (goodIn_of _ (by decide +kernel)) ggX6_setting_X6_isSetting
set_option maxRecDepth 20000 in
theorem ggX6_setting_X2_settingOf : GoodIn wsX6_setting wsX2_settingOf := goodIn_r _ [12, 13, 5, 6, 7, 22, 23, 24, 25, 26, 27, 28, 29] (by decide +kernel) (by decide +kernel)
set_option maxRecDepth 20000 in
theorem gX6_setting_X2_settingOf : GoodIn wsX6_setting (wsV RX6 198 RX2 yX2_settingOf wsX2_settingOf) := goodIn_app (goodIn_of _ (by decide +kernel)) ggX6_setting_X2_settingOf
theorem dX6_setting_0 : decode cX6_setting 0 = .ok (.iload_n 1, 1) := by decide +kernel
theorem dX6_setting_1 : decode cX6_setting 1 = .ok (.invokestatic 210, 3) := by decide +kernel
theorem dX6_setting_4 : decode cX6_setting 4 = .ok (.ifCond .ne 13, 3) := by decide +kernel
theorem dX6_setting_7 : decode cX6_setting 7 = .ok (.new 55, 3) := by decide +kernel
theorem dX6_setting_10 : decode cX6_setting 10 = .ok (.dup, 1) := by decide +kernel
theorem dX6_setting_11 : decode cX6_setting 11 = .ok (.ldc 176, 2) := by decide +kernel
theorem dX6_setting_13 : decode cX6_setting 13 = .ok (.invokespecial 59, 3) := by decide +kernel
theorem dX6_setting_16 : decode cX6_setting 16 = .ok (.athrow, 1) := by decide +kernel
theorem dX6_setting_17 : decode cX6_setting 17 = .ok (.aload_n 0, 1) := by decide +kernel
theorem dX6_setting_18 : decode cX6_setting 18 = .ok (.getfield 19, 3) := by decide +kernel
theorem dX6_setting_21 : decode cX6_setting 21 = .ok (.iload_n 1, 1) := by decide +kernel
theorem dX6_setting_22 : decode cX6_setting 22 = .ok (.invokevirtual 198, 3) := by decide +kernel
theorem dX6_setting_25 : decode cX6_setting 25 = .ok (.ireturn, 1) := by decide +kernel
set_option maxRecDepth 20000 in
theorem ggX6_begin_X3_remember : GoodIn wsX6_begin wsX3_remember := goodIn_r _ [10, 11, 12, 13, 14, 15, 16, 17, 18, 19, 20, 21, 22, 23, 24, 25, 26, 27, 28, 29, 30, 31, 32, 33, 34, 35, 36, 37, 38, 39, 40, 41, 42, 43, 44, 45, 46, 47, 48, 100, 101, 102, 103, 104, 105, 106, 107, 108, 109, 110, 111, 112, 113, 114, 115, 116, 117, 118] (by decide +kernel) (by decide +kernel)
set_option maxRecDepth 20000 in
theorem gX6_begin_X3_remember : GoodIn wsX6_begin (wsV RX6 215 RX3 yX3_remember wsX3_remember) := goodIn_app (goodIn_of _ (by decide +kernel)) ggX6_begin_X3_remember
set_option maxRecDepth 20000 in
theorem ggX6_begin_X1_startWith : GoodIn wsX6_begin wsX1_startWith := goodIn_r _ [53, 54, 119] (by decide +kernel) (by decide +kernel)
set_option maxRecDepth 20000 in
theorem gX6_begin_X1_startWith : GoodIn wsX6_begin (wsV RX6 90 RX1 yX1_startWith wsX1_startWith) := goodIn_app (goodIn_of _ (by decide +kernel)) ggX6_begin_X1_startWith
set_option maxRecDepth 20000 in
theorem ggX6_begin_X2_deal : GoodIn wsX6_begin wsX2_deal := goodIn_r _ [58, 29, 30, 31, 32, 33, 34, 28, 59, 60, 61, 38, 62, 40, 42, 43, 44, 45, 46, 47, 48, 63, 64, 65, 52, 66, 67, 68, 69, 70, 54, 71, 72, 73, 74, 75, 76, 77, 78, 79, 80, 81, 82, 83, 103, 104, 105, 106, 107, 108, 109, 110, 111, 112, 113, 114, 115, 116, 117, 118, 119] (by decide +kernel) (by decide +kernel)
set_option maxRecDepth 20000 in
theorem gX6_begin_X2_deal : GoodIn wsX6_begin (wsV RX6 97 RX2 yX2_deal wsX2_deal) := goodIn_app (goodIn_of _ (by decide +kernel)) ggX6_begin_X2_deal
set_option maxRecDepth 20000 in
theorem ggX6_begin_X2_boardOf : GoodIn wsX6_begin wsX2_boardOf := goodIn_r _ [87, 28, 103, 104, 105, 106, 107, 108, 109, 110] (by decide +kernel) (by decide +kernel)
set_option maxRecDepth 20000 in
theorem gX6_begin_X2_boardOf : GoodIn wsX6_begin (wsV RX6 161 RX2 yX2_boardOf wsX2_boardOf) := goodIn_app (goodIn_of _ (by decide +kernel)) ggX6_begin_X2_boardOf
set_option maxRecDepth 20000 in
theorem ggX6_begin_X0_sought : GoodIn wsX6_begin wsX0_sought := goodIn_r _ [91, 45, 43, 111, 112, 113, 114, 115, 116, 117, 118] (by decide +kernel) (by decide +kernel)
set_option maxRecDepth 20000 in
theorem gX6_begin_X0_sought : GoodIn wsX6_begin (wsV RX6 183 RX0 yX0_sought wsX0_sought) := goodIn_app (goodIn_of _ (by decide +kernel)) ggX6_begin_X0_sought
theorem dX6_begin_0 : decode cX6_begin 0 = .ok (.iload_n 1, 1) := by decide +kernel
theorem dX6_begin_1 : decode cX6_begin 1 = .ok (.iconst 2, 1) := by decide +kernel
theorem dX6_begin_2 : decode cX6_begin 2 = .ok (.if_icmp .lt 8, 3) := by decide +kernel
theorem dX6_begin_5 : decode cX6_begin 5 = .ok (.iload_n 1, 1) := by decide +kernel
theorem dX6_begin_6 : decode cX6_begin 6 = .ok (.iconst 4, 1) := by decide +kernel
theorem dX6_begin_7 : decode cX6_begin 7 = .ok (.if_icmp .le 13, 3) := by decide +kernel
theorem dX6_begin_10 : decode cX6_begin 10 = .ok (.new 55, 3) := by decide +kernel
theorem dX6_begin_13 : decode cX6_begin 13 = .ok (.dup, 1) := by decide +kernel
theorem dX6_begin_14 : decode cX6_begin 14 = .ok (.ldc 213, 2) := by decide +kernel
theorem dX6_begin_16 : decode cX6_begin 16 = .ok (.invokespecial 59, 3) := by decide +kernel
theorem dX6_begin_19 : decode cX6_begin 19 = .ok (.athrow, 1) := by decide +kernel
theorem dX6_begin_20 : decode cX6_begin 20 = .ok (.aload_n 0, 1) := by decide +kernel
theorem dX6_begin_21 : decode cX6_begin 21 = .ok (.getfield 43, 3) := by decide +kernel
theorem dX6_begin_24 : decode cX6_begin 24 = .ok (.aload_n 0, 1) := by decide +kernel
theorem dX6_begin_25 : decode cX6_begin 25 = .ok (.getfield 19, 3) := by decide +kernel
theorem dX6_begin_28 : decode cX6_begin 28 = .ok (.invokevirtual 215, 3) := by decide +kernel
theorem dX6_begin_31 : decode cX6_begin 31 = .ok (.aload_n 0, 1) := by decide +kernel
theorem dX6_begin_32 : decode cX6_begin 32 = .ok (.getfield 36, 3) := by decide +kernel
theorem dX6_begin_35 : decode cX6_begin 35 = .ok (.lload_n 2, 1) := by decide +kernel
theorem dX6_begin_36 : decode cX6_begin 36 = .ok (.invokevirtual 90, 3) := by decide +kernel
theorem dX6_begin_39 : decode cX6_begin 39 = .ok (.aload_n 0, 1) := by decide +kernel
theorem dX6_begin_40 : decode cX6_begin 40 = .ok (.getfield 19, 3) := by decide +kernel
theorem dX6_begin_43 : decode cX6_begin 43 = .ok (.iload_n 1, 1) := by decide +kernel
theorem dX6_begin_44 : decode cX6_begin 44 = .ok (.aload_n 0, 1) := by decide +kernel
theorem dX6_begin_45 : decode cX6_begin 45 = .ok (.getfield 36, 3) := by decide +kernel
theorem dX6_begin_48 : decode cX6_begin 48 = .ok (.invokevirtual 97, 3) := by decide +kernel
theorem dX6_begin_51 : decode cX6_begin 51 = .ok (.aload_n 0, 1) := by decide +kernel
theorem dX6_begin_52 : decode cX6_begin 52 = .ok (.getfield 19, 3) := by decide +kernel
theorem dX6_begin_55 : decode cX6_begin 55 = .ok (.iconst 0, 1) := by decide +kernel
theorem dX6_begin_56 : decode cX6_begin 56 = .ok (.invokevirtual 161, 3) := by decide +kernel
theorem dX6_begin_59 : decode cX6_begin 59 = .ok (.invokevirtual 183, 3) := by decide +kernel
theorem dX6_begin_62 : decode cX6_begin 62 = .ok (.ireturn, 1) := by decide +kernel
set_option maxRecDepth 20000 in
theorem ggX6_shift_X2_hasPlayer : GoodIn wsX6_shift wsX2_hasPlayer := goodIn_r _ [13, 14, 132, 133, 134, 135, 136, 137, 138, 139] (by decide +kernel) (by decide +kernel)
set_option maxRecDepth 20000 in
theorem gX6_shift_X2_hasPlayer : GoodIn wsX6_shift (wsV RX6 150 RX2 yX2_hasPlayer wsX2_hasPlayer) := goodIn_app (goodIn_of _ (by decide +kernel)) ggX6_shift_X2_hasPlayer
set_option maxRecDepth 20000 in
theorem ggX6_shift_X6_isLine : GoodIn wsX6_shift wsX6_isLine := goodIn_r _ [18] (by decide +kernel) (by decide +kernel)
set_option maxRecDepth 20000 in
theorem gX6_shift_X6_isLine : GoodIn wsX6_shift (va_wsS RX6 219 yX6_isLine wsX6_isLine) := goodIn_app (goodIn_of _ (by decide +kernel)) ggX6_shift_X6_isLine
set_option maxRecDepth 20000 in
theorem ggX6_shift_X6_isDirection : GoodIn wsX6_shift wsX6_isDirection := goodIn_r _ [21] (by decide +kernel) (by decide +kernel)
set_option maxRecDepth 20000 in
theorem gX6_shift_X6_isDirection : GoodIn wsX6_shift (va_wsS RX6 224 yX6_isDirection wsX6_isDirection) := goodIn_app (goodIn_of _ (by decide +kernel)) ggX6_shift_X6_isDirection
set_option maxRecDepth 20000 in
theorem ggX6_shift_X2_mayShift : GoodIn wsX6_shift wsX2_mayShift := goodIn_r _ [25, 26, 27, 28, 29, 30, 12, 31, 14, 32, 33, 10, 11, 13, 16, 17, 18, 20, 21, 34, 35, 36, 37, 38, 39, 40, 41, 42, 43, 44, 45, 46, 132, 133, 134, 135, 136, 137, 138, 139, 140, 141, 142, 143, 144, 145, 146, 147] (by decide +kernel) (by decide +kernel)
set_option maxRecDepth 20000 in
theorem gX6_shift_X2_mayShift : GoodIn wsX6_shift (wsV RX6 229 RX2 yX2_mayShift wsX2_mayShift) := goodIn_app (goodIn_of _ (by decide +kernel)) ggX6_shift_X2_mayShift
set_option maxRecDepth 20000 in
theorem ggX6_shift_X3_remember : GoodIn wsX6_shift wsX3_remember := goodIn_r _ [51, 52, 53, 54, 55, 56, 57, 58, 59, 60, 61, 12, 62, 63, 64, 65, 66, 67, 38, 14, 27, 26, 68, 32, 69, 70, 71, 72, 42, 73, 74, 75, 76, 77, 78, 79, 44, 45, 46, 148, 149, 150, 132, 133, 134, 135, 136, 137, 138, 139, 140, 141, 142, 143, 144, 145, 146, 147] (by decide +kernel) (by decide +kernel)
set_option maxRecDepth 20000 in
theorem gX6_shift_X3_remember : GoodIn wsX6_shift (wsV RX6 215 RX3 yX3_remember wsX3_remember) := goodIn_app (goodIn_of _ (by decide +kernel)) ggX6_shift_X3_remember
set_option maxRecDepth 20000 in
theorem ggX6_shift_X2_shiftLine : GoodIn wsX6_shift wsX2_shiftLine := goodIn_r _ [83, 26, 34, 35, 36, 12, 37, 38, 84, 85, 86, 42, 87, 74, 76, 45, 46, 16, 17, 18, 88, 89, 90, 91, 92, 93, 94, 78, 132, 133, 134, 135, 136, 137, 138, 139, 140, 141, 142, 143, 144, 145, 146, 147] (by decide +kernel) (by decide +kernel)
set_option maxRecDepth 20000 in
theorem gX6_shift_X2_shiftLine : GoodIn wsX6_shift (wsV RX6 234 RX2 yX2_shiftLine wsX2_shiftLine) := goodIn_app (goodIn_of _ (by decide +kernel)) ggX6_shift_X2_shiftLine
set_option maxRecDepth 20000 in
theorem ggX6_shift_X2_boardOf : GoodIn wsX6_shift wsX2_boardOf := goodIn_r _ [37, 38, 132, 133, 134, 135, 136, 137, 138, 139] (by decide +kernel) (by decide +kernel)
set_option maxRecDepth 20000 in
theorem gX6_shift_X2_boardOf : GoodIn wsX6_shift (wsV RX6 161 RX2 yX2_boardOf wsX2_boardOf) := goodIn_app (goodIn_of _ (by decide +kernel)) ggX6_shift_X2_boardOf
set_option maxRecDepth 20000 in
theorem ggX6_shift_X2_settingOf : GoodIn wsX6_shift wsX2_settingOf := goodIn_r _ [99, 63, 100, 17, 101, 132, 133, 134, 135, 136, 137, 138, 139] (by decide +kernel) (by decide +kernel)
set_option maxRecDepth 20000 in
theorem gX6_shift_X2_settingOf : GoodIn wsX6_shift (wsV RX6 198 RX2 yX2_settingOf wsX2_settingOf) := goodIn_app (goodIn_of _ (by decide +kernel)) ggX6_shift_X2_settingOf
set_option maxRecDepth 20000 in
theorem ggX6_shift_X0_reach : GoodIn wsX6_shift wsX0_reach := goodIn_r _ [105, 78, 106, 107, 108, 42, 109, 74, 110, 111, 112, 113, 114, 115, 116, 140, 141, 142, 143, 144, 145, 146, 147] (by decide +kernel) (by decide +kernel)
set_option maxRecDepth 20000 in
theorem gX6_shift_X0_reach : GoodIn wsX6_shift (wsV RX6 201 RX0 yX0_reach wsX0_reach) := goodIn_app (goodIn_of _ (by decide +kernel)) ggX6_shift_X0_reach
set_option maxRecDepth 20000 in
theorem ggX6_shift_J6_bitCount_0f7a4 : GoodIn wsX6_shift wsJ6_bitCount_0f7a4 := goodIn_r _ [120, 121, 122, 123] (by decide +kernel) (by decide +kernel)
set_option maxRecDepth 20000 in
theorem gX6_shift_J6_bitCount_0f7a4 : GoodIn wsX6_shift (va_wsS RX6 238 yJ6_bitCount_0f7a4 wsJ6_bitCount_0f7a4) := goodIn_app (goodIn_of _ (by decide +kernel)) ggX6_shift_J6_bitCount_0f7a4
theorem dX6_shift_0 : decode cX6_shift 0 = .ok (.aload_n 0, 1) := by decide +kernel
theorem dX6_shift_1 : decode cX6_shift 1 = .ok (.getfield 19, 3) := by decide +kernel
theorem dX6_shift_4 : decode cX6_shift 4 = .ok (.iload_n 1, 1) := by decide +kernel
theorem dX6_shift_5 : decode cX6_shift 5 = .ok (.invokevirtual 150, 3) := by decide +kernel
theorem dX6_shift_8 : decode cX6_shift 8 = .ok (.ifCond .eq 10, 3) := by decide +kernel
theorem dX6_shift_11 : decode cX6_shift 11 = .ok (.iload_n 2, 1) := by decide +kernel
theorem dX6_shift_12 : decode cX6_shift 12 = .ok (.invokestatic 219, 3) := by decide +kernel
theorem dX6_shift_15 : decode cX6_shift 15 = .ok (.ifCond .ne 13, 3) := by decide +kernel
theorem dX6_shift_18 : decode cX6_shift 18 = .ok (.new 156, 3) := by decide +kernel
theorem dX6_shift_21 : decode cX6_shift 21 = .ok (.dup, 1) := by decide +kernel
theorem dX6_shift_22 : decode cX6_shift 22 = .ok (.ldc 222, 2) := by decide +kernel
theorem dX6_shift_24 : decode cX6_shift 24 = .ok (.invokespecial 160, 3) := by decide +kernel
theorem dX6_shift_27 : decode cX6_shift 27 = .ok (.athrow, 1) := by decide +kernel
theorem dX6_shift_28 : decode cX6_shift 28 = .ok (.iload_n 3, 1) := by decide +kernel
theorem dX6_shift_29 : decode cX6_shift 29 = .ok (.invokestatic 224, 3) := by decide +kernel
theorem dX6_shift_32 : decode cX6_shift 32 = .ok (.ifCond .ne 13, 3) := by decide +kernel
theorem dX6_shift_35 : decode cX6_shift 35 = .ok (.new 55, 3) := by decide +kernel
theorem dX6_shift_38 : decode cX6_shift 38 = .ok (.dup, 1) := by decide +kernel
theorem dX6_shift_39 : decode cX6_shift 39 = .ok (.ldc 227, 2) := by decide +kernel
theorem dX6_shift_41 : decode cX6_shift 41 = .ok (.invokespecial 59, 3) := by decide +kernel
theorem dX6_shift_44 : decode cX6_shift 44 = .ok (.athrow, 1) := by decide +kernel
theorem dX6_shift_45 : decode cX6_shift 45 = .ok (.aload_n 0, 1) := by decide +kernel
theorem dX6_shift_46 : decode cX6_shift 46 = .ok (.getfield 19, 3) := by decide +kernel
theorem dX6_shift_49 : decode cX6_shift 49 = .ok (.iload_n 1, 1) := by decide +kernel
theorem dX6_shift_50 : decode cX6_shift 50 = .ok (.iload_n 2, 1) := by decide +kernel
theorem dX6_shift_51 : decode cX6_shift 51 = .ok (.iload_n 3, 1) := by decide +kernel
theorem dX6_shift_52 : decode cX6_shift 52 = .ok (.invokevirtual 229, 3) := by decide +kernel
theorem dX6_shift_55 : decode cX6_shift 55 = .ok (.ifCond .ne 13, 3) := by decide +kernel
theorem dX6_shift_58 : decode cX6_shift 58 = .ok (.new 66, 3) := by decide +kernel
theorem dX6_shift_61 : decode cX6_shift 61 = .ok (.dup, 1) := by decide +kernel
theorem dX6_shift_62 : decode cX6_shift 62 = .ok (.ldc 232, 2) := by decide +kernel
theorem dX6_shift_64 : decode cX6_shift 64 = .ok (.invokespecial 70, 3) := by decide +kernel
theorem dX6_shift_67 : decode cX6_shift 67 = .ok (.athrow, 1) := by decide +kernel
theorem dX6_shift_68 : decode cX6_shift 68 = .ok (.aload_n 0, 1) := by decide +kernel
theorem dX6_shift_69 : decode cX6_shift 69 = .ok (.getfield 43, 3) := by decide +kernel
theorem dX6_shift_72 : decode cX6_shift 72 = .ok (.aload_n 0, 1) := by decide +kernel
theorem dX6_shift_73 : decode cX6_shift 73 = .ok (.getfield 19, 3) := by decide +kernel
theorem dX6_shift_76 : decode cX6_shift 76 = .ok (.invokevirtual 215, 3) := by decide +kernel
theorem dX6_shift_79 : decode cX6_shift 79 = .ok (.aload_n 0, 1) := by decide +kernel
theorem dX6_shift_80 : decode cX6_shift 80 = .ok (.getfield 19, 3) := by decide +kernel
theorem dX6_shift_83 : decode cX6_shift 83 = .ok (.iload_n 1, 1) := by decide +kernel
theorem dX6_shift_84 : decode cX6_shift 84 = .ok (.iload_n 2, 1) := by decide +kernel
theorem dX6_shift_85 : decode cX6_shift 85 = .ok (.iload_n 3, 1) := by decide +kernel
theorem dX6_shift_86 : decode cX6_shift 86 = .ok (.invokevirtual 234, 3) := by decide +kernel
theorem dX6_shift_89 : decode cX6_shift 89 = .ok (.aload_n 0, 1) := by decide +kernel
theorem dX6_shift_90 : decode cX6_shift 90 = .ok (.getfield 19, 3) := by decide +kernel
theorem dX6_shift_93 : decode cX6_shift 93 = .ok (.iload_n 1, 1) := by decide +kernel
theorem dX6_shift_94 : decode cX6_shift 94 = .ok (.invokevirtual 161, 3) := by decide +kernel
theorem dX6_shift_97 : decode cX6_shift 97 = .ok (.aload_n 0, 1) := by decide +kernel
theorem dX6_shift_98 : decode cX6_shift 98 = .ok (.getfield 19, 3) := by decide +kernel
theorem dX6_shift_101 : decode cX6_shift 101 = .ok (.iconst 0, 1) := by decide +kernel
theorem dX6_shift_102 : decode cX6_shift 102 = .ok (.invokevirtual 198, 3) := by decide +kernel
theorem dX6_shift_105 : decode cX6_shift 105 = .ok (.invokevirtual 201, 3) := by decide +kernel
theorem dX6_shift_108 : decode cX6_shift 108 = .ok (.invokestatic 238, 3) := by decide +kernel
theorem dX6_shift_111 : decode cX6_shift 111 = .ok (.ireturn, 1) := by decide +kernel
set_option maxRecDepth 20000 in
theorem ggX6_go_X6_isPlace : GoodIn wsX6_go wsX6_isPlace := goodIn_r _ [10] (by decide +kernel) (by decide +kernel)
set_option maxRecDepth 20000 in
theorem gX6_go_X6_isPlace : GoodIn wsX6_go (va_wsS RX6 153 yX6_isPlace wsX6_isPlace) := goodIn_app (goodIn_of _ (by decide +kernel)) ggX6_go_X6_isPlace
set_option maxRecDepth 20000 in
theorem ggX6_go_X2_mayGo : GoodIn wsX6_go wsX2_mayGo := goodIn_r _ [15, 16, 17, 18, 19, 14, 20, 21, 22, 23, 24, 25, 26, 27, 28, 29, 30, 31, 32, 33, 34, 35, 36, 37, 38, 39, 40, 41, 42, 43, 44, 45, 46, 9, 47, 48, 49, 50, 51, 52, 53, 54, 55, 56, 57, 58, 59, 60, 61, 62, 63, 64, 65, 66, 67, 7, 8, 10, 133, 134, 135, 136, 137, 138, 139, 140, 141, 142, 143, 144, 145, 146, 147, 148] (by decide +kernel) (by decide +kernel)
set_option maxRecDepth 20000 in
theorem gX6_go_X2_mayGo : GoodIn wsX6_go (wsV RX6 245 RX2 yX2_mayGo wsX2_mayGo) := goodIn_app (goodIn_of _ (by decide +kernel)) ggX6_go_X2_mayGo
set_option maxRecDepth 20000 in
theorem ggX6_go_X3_remember : GoodIn wsX6_go wsX3_remember := goodIn_r _ [72, 73, 74, 75, 76, 77, 78, 79, 80, 81, 82, 14, 83, 45, 84, 85, 86, 87, 40, 26, 16, 21, 88, 27, 89, 90, 91, 92, 51, 93, 58, 94, 95, 96, 53, 97, 98, 99, 100, 149, 150, 151, 133, 134, 135, 136, 137, 138, 139, 140, 141, 142, 143, 144, 145, 146, 147, 148] (by decide +kernel) (by decide +kernel)
set_option maxRecDepth 20000 in
theorem gX6_go_X3_remember : GoodIn wsX6_go (wsV RX6 215 RX3 yX3_remember wsX3_remember) := goodIn_app (goodIn_of _ (by decide +kernel)) ggX6_go_X3_remember
set_option maxRecDepth 20000 in
theorem ggX6_go_X2_goTo : GoodIn wsX6_go wsX2_goTo := goodIn_r _ [104, 16, 36, 37, 38, 14, 39, 40, 105, 106, 107, 51, 108, 53, 95, 97, 8, 9, 10, 109, 110, 111, 112, 96, 113, 114, 115, 116, 21, 88, 27, 89, 26, 117, 118, 119, 120, 41, 42, 43, 44, 45, 46, 47, 121, 122, 123, 124, 98, 133, 134, 135, 136, 137, 138, 139, 140, 141, 142, 143, 144, 145, 146, 147, 148] (by decide +kernel) (by decide +kernel)
set_option maxRecDepth 20000 in
theorem gX6_go_X2_goTo : GoodIn wsX6_go (wsV RX6 250 RX2 yX2_goTo wsX2_goTo) := goodIn_app (goodIn_of _ (by decide +kernel)) ggX6_go_X2_goTo
theorem dX6_go_0 : decode cX6_go 0 = .ok (.iload_n 1, 1) := by decide +kernel
theorem dX6_go_1 : decode cX6_go 1 = .ok (.invokestatic 153, 3) := by decide +kernel
theorem dX6_go_4 : decode cX6_go 4 = .ok (.ifCond .ne 13, 3) := by decide +kernel
theorem dX6_go_7 : decode cX6_go 7 = .ok (.new 156, 3) := by decide +kernel
theorem dX6_go_10 : decode cX6_go 10 = .ok (.dup, 1) := by decide +kernel
theorem dX6_go_11 : decode cX6_go 11 = .ok (.ldc 243, 2) := by decide +kernel
theorem dX6_go_13 : decode cX6_go 13 = .ok (.invokespecial 160, 3) := by decide +kernel
theorem dX6_go_16 : decode cX6_go 16 = .ok (.athrow, 1) := by decide +kernel
theorem dX6_go_17 : decode cX6_go 17 = .ok (.aload_n 0, 1) := by decide +kernel
theorem dX6_go_18 : decode cX6_go 18 = .ok (.getfield 19, 3) := by decide +kernel
theorem dX6_go_21 : decode cX6_go 21 = .ok (.iload_n 1, 1) := by decide +kernel
theorem dX6_go_22 : decode cX6_go 22 = .ok (.invokevirtual 245, 3) := by decide +kernel
theorem dX6_go_25 : decode cX6_go 25 = .ok (.ifCond .ne 13, 3) := by decide +kernel
theorem dX6_go_28 : decode cX6_go 28 = .ok (.new 66, 3) := by decide +kernel
theorem dX6_go_31 : decode cX6_go 31 = .ok (.dup, 1) := by decide +kernel
theorem dX6_go_32 : decode cX6_go 32 = .ok (.ldc 248, 2) := by decide +kernel
theorem dX6_go_34 : decode cX6_go 34 = .ok (.invokespecial 70, 3) := by decide +kernel
theorem dX6_go_37 : decode cX6_go 37 = .ok (.athrow, 1) := by decide +kernel
theorem dX6_go_38 : decode cX6_go 38 = .ok (.aload_n 0, 1) := by decide +kernel
theorem dX6_go_39 : decode cX6_go 39 = .ok (.getfield 43, 3) := by decide +kernel
theorem dX6_go_42 : decode cX6_go 42 = .ok (.aload_n 0, 1) := by decide +kernel
theorem dX6_go_43 : decode cX6_go 43 = .ok (.getfield 19, 3) := by decide +kernel
theorem dX6_go_46 : decode cX6_go 46 = .ok (.invokevirtual 215, 3) := by decide +kernel
theorem dX6_go_49 : decode cX6_go 49 = .ok (.aload_n 0, 1) := by decide +kernel
theorem dX6_go_50 : decode cX6_go 50 = .ok (.getfield 19, 3) := by decide +kernel
theorem dX6_go_53 : decode cX6_go 53 = .ok (.iload_n 1, 1) := by decide +kernel
theorem dX6_go_54 : decode cX6_go 54 = .ok (.invokevirtual 250, 3) := by decide +kernel
theorem dX6_go_57 : decode cX6_go 57 = .ok (.ireturn, 1) := by decide +kernel
set_option maxRecDepth 20000 in
theorem ggX6_lock_X6_isLine : GoodIn wsX6_lock wsX6_isLine := goodIn_r _ [10] (by decide +kernel) (by decide +kernel)
set_option maxRecDepth 20000 in
theorem gX6_lock_X6_isLine : GoodIn wsX6_lock (va_wsS RX6 219 yX6_isLine wsX6_isLine) := goodIn_app (goodIn_of _ (by decide +kernel)) ggX6_lock_X6_isLine
set_option maxRecDepth 20000 in
theorem ggX6_lock_X2_mayEndTurn : GoodIn wsX6_lock wsX2_mayEndTurn := goodIn_r _ [15, 16, 17, 18, 19, 14, 20, 21, 22, 104, 105, 106, 107, 108, 109, 110, 111] (by decide +kernel) (by decide +kernel)
set_option maxRecDepth 20000 in
theorem gX6_lock_X2_mayEndTurn : GoodIn wsX6_lock (wsV RX6 255 RX2 yX2_mayEndTurn wsX2_mayEndTurn) := goodIn_app (goodIn_of _ (by decide +kernel)) ggX6_lock_X2_mayEndTurn
set_option maxRecDepth 20000 in
theorem ggX6_lock_X3_remember : GoodIn wsX6_lock wsX3_remember := goodIn_r _ [27, 28, 29, 30, 31, 32, 33, 34, 35, 36, 37, 14, 38, 39, 40, 41, 42, 43, 44, 21, 45, 16, 46, 22, 47, 48, 49, 50, 51, 52, 53, 54, 55, 56, 57, 58, 59, 60, 61, 112, 113, 114, 104, 105, 106, 107, 108, 109, 110, 111, 115, 116, 117, 118, 119, 120, 121, 122] (by decide +kernel) (by decide +kernel)
set_option maxRecDepth 20000 in
theorem gX6_lock_X3_remember : GoodIn wsX6_lock (wsV RX6 215 RX3 yX3_remember wsX3_remember) := goodIn_app (goodIn_of _ (by decide +kernel)) ggX6_lock_X3_remember
set_option maxRecDepth 20000 in
theorem ggX6_lock_X2_lockLine : GoodIn wsX6_lock wsX2_lockLine := goodIn_r _ [65, 45, 66, 67, 68, 14, 69, 44, 70, 71, 72, 51, 73, 59, 74, 75, 76, 77, 16, 46, 22, 47, 21, 78, 79, 80, 81, 58, 82, 83, 84, 85, 39, 86, 9, 87, 88, 89, 90, 91, 104, 105, 106, 107, 108, 109, 110, 111, 115, 116, 117, 118, 119, 120, 121, 122] (by decide +kernel) (by decide +kernel)
set_option maxRecDepth 20000 in
theorem gX6_lock_X2_lockLine : GoodIn wsX6_lock (wsV RX6 260 RX2 yX2_lockLine wsX2_lockLine) := goodIn_app (goodIn_of _ (by decide +kernel)) ggX6_lock_X2_lockLine
set_option maxRecDepth 20000 in
theorem ggX6_lock_X2_whoseTurn : GoodIn wsX6_lock wsX2_whoseTurn := goodIn_r _ [95, 22, 45, 104, 105, 106, 107, 108, 109, 110, 111] (by decide +kernel) (by decide +kernel)
set_option maxRecDepth 20000 in
theorem gX6_lock_X2_whoseTurn : GoodIn wsX6_lock (wsV RX6 133 RX2 yX2_whoseTurn wsX2_whoseTurn) := goodIn_app (goodIn_of _ (by decide +kernel)) ggX6_lock_X2_whoseTurn
theorem dX6_lock_0 : decode cX6_lock 0 = .ok (.iload_n 1, 1) := by decide +kernel
theorem dX6_lock_1 : decode cX6_lock 1 = .ok (.invokestatic 219, 3) := by decide +kernel
theorem dX6_lock_4 : decode cX6_lock 4 = .ok (.ifCond .ne 13, 3) := by decide +kernel
theorem dX6_lock_7 : decode cX6_lock 7 = .ok (.new 156, 3) := by decide +kernel
theorem dX6_lock_10 : decode cX6_lock 10 = .ok (.dup, 1) := by decide +kernel
theorem dX6_lock_11 : decode cX6_lock 11 = .ok (.ldc 253, 2) := by decide +kernel
theorem dX6_lock_13 : decode cX6_lock 13 = .ok (.invokespecial 160, 3) := by decide +kernel
theorem dX6_lock_16 : decode cX6_lock 16 = .ok (.athrow, 1) := by decide +kernel
theorem dX6_lock_17 : decode cX6_lock 17 = .ok (.aload_n 0, 1) := by decide +kernel
theorem dX6_lock_18 : decode cX6_lock 18 = .ok (.getfield 19, 3) := by decide +kernel
theorem dX6_lock_21 : decode cX6_lock 21 = .ok (.invokevirtual 255, 3) := by decide +kernel
theorem dX6_lock_24 : decode cX6_lock 24 = .ok (.ifCond .ne 14, 3) := by decide +kernel
theorem dX6_lock_27 : decode cX6_lock 27 = .ok (.new 66, 3) := by decide +kernel
theorem dX6_lock_30 : decode cX6_lock 30 = .ok (.dup, 1) := by decide +kernel
theorem dX6_lock_31 : decode cX6_lock 31 = .ok (.ldc_w 258, 3) := by decide +kernel
theorem dX6_lock_34 : decode cX6_lock 34 = .ok (.invokespecial 70, 3) := by decide +kernel
theorem dX6_lock_37 : decode cX6_lock 37 = .ok (.athrow, 1) := by decide +kernel
theorem dX6_lock_38 : decode cX6_lock 38 = .ok (.aload_n 0, 1) := by decide +kernel
theorem dX6_lock_39 : decode cX6_lock 39 = .ok (.getfield 43, 3) := by decide +kernel
theorem dX6_lock_42 : decode cX6_lock 42 = .ok (.aload_n 0, 1) := by decide +kernel
theorem dX6_lock_43 : decode cX6_lock 43 = .ok (.getfield 19, 3) := by decide +kernel
theorem dX6_lock_46 : decode cX6_lock 46 = .ok (.invokevirtual 215, 3) := by decide +kernel
theorem dX6_lock_49 : decode cX6_lock 49 = .ok (.aload_n 0, 1) := by decide +kernel
theorem dX6_lock_50 : decode cX6_lock 50 = .ok (.getfield 19, 3) := by decide +kernel
theorem dX6_lock_53 : decode cX6_lock 53 = .ok (.iload_n 1, 1) := by decide +kernel
theorem dX6_lock_54 : decode cX6_lock 54 = .ok (.invokevirtual 260, 3) := by decide +kernel
theorem dX6_lock_57 : decode cX6_lock 57 = .ok (.aload_n 0, 1) := by decide +kernel
theorem dX6_lock_58 : decode cX6_lock 58 = .ok (.getfield 19, 3) := by decide +kernel
theorem dX6_lock_61 : decode cX6_lock 61 = .ok (.invokevirtual 133, 3) := by decide +kernel
theorem dX6_lock_64 : decode cX6_lock 64 = .ok (.ireturn, 1) := by decide +kernel
set_option maxRecDepth 20000 in
theorem ggX6_play_X2_isRunning : GoodIn wsX6_play wsX2_isRunning := goodIn_r _ [10, 11, 12, 201, 202, 203, 204, 205, 206, 207, 208] (by decide +kernel) (by decide +kernel)
set_option maxRecDepth 20000 in
theorem gX6_play_X2_isRunning : GoodIn wsX6_play (wsV RX6 264 RX2 yX2_isRunning wsX2_isRunning) := goodIn_app (goodIn_of _ (by decide +kernel)) ggX6_play_X2_isRunning
set_option maxRecDepth 20000 in
theorem ggX6_play_X3_remember : GoodIn wsX6_play wsX3_remember := goodIn_r _ [17, 18, 19, 20, 21, 22, 23, 24, 25, 26, 27, 9, 28, 29, 30, 31, 32, 33, 34, 11, 35, 36, 37, 12, 38, 39, 40, 41, 42, 43, 44, 45, 46, 47, 48, 49, 50, 51, 52, 209, 210, 211, 201, 202, 203, 204, 205, 206, 207, 208, 212, 213, 214, 215, 216, 217, 218, 219] (by decide +kernel) (by decide +kernel)
set_option maxRecDepth 20000 in
theorem gX6_play_X3_remember : GoodIn wsX6_play (wsV RX6 215 RX3 yX3_remember wsX3_remember) := goodIn_app (goodIn_of _ (by decide +kernel)) ggX6_play_X3_remember
set_option maxRecDepth 20000 in
theorem ggX6_play_X4_finishTurn : GoodIn wsX6_play wsX4_finishTurn := goodIn_r _ [57, 58, 59, 60, 61, 7, 8, 9, 10, 11, 12, 62, 63, 64, 56, 65, 66, 67, 68, 69, 70, 71, 72, 73, 74, 75, 76, 77, 78, 79, 36, 35, 80, 81, 82, 83, 84, 85, 86, 87, 88, 89, 90, 91, 92, 93, 34, 94, 95, 96, 42, 97, 50, 51, 52, 98, 99, 40, 41, 43, 44, 45, 31, 32, 33, 46, 47, 48, 49, 100, 101, 102, 103, 104, 105, 106, 107, 108, 109, 110, 111, 112, 113, 114, 29, 115, 116, 117, 118, 119, 120, 121, 122, 123, 124, 125, 126, 127, 128, 129, 130, 131, 132, 133, 134, 135, 136, 137, 138, 139, 140, 141, 142, 143, 144, 145, 146, 147, 148, 149, 150, 151, 152, 153, 154, 155, 156, 157, 158, 159, 160, 161, 162, 23, 163, 164, 165, 166, 167, 168, 169, 170, 171, 172, 173, 174, 175, 176, 177, 178, 179, 180, 181, 182, 183, 37, 38, 184, 185, 186, 187, 188, 189, 190, 191, 192, 220, 221, 222, 223, 224, 201, 202, 203, 204, 205, 206, 207, 208, 212, 213, 214, 215, 216, 217, 218, 219] (by decide +kernel) (by decide +kernel)
set_option maxRecDepth 20000 in
theorem gX6_play_X4_finishTurn : GoodIn wsX6_play (wsV RX6 269 RX4 yX4_finishTurn wsX4_finishTurn) := goodIn_app (goodIn_of _ (by decide +kernel)) ggX6_play_X4_finishTurn
theorem dX6_play_0 : decode cX6_play 0 = .ok (.aload_n 0, 1) := by decide +kernel
theorem dX6_play_1 : decode cX6_play 1 = .ok (.getfield 19, 3) := by decide +kernel
theorem dX6_play_4 : decode cX6_play 4 = .ok (.invokevirtual 264, 3) := by decide +kernel
theorem dX6_play_7 : decode cX6_play 7 = .ok (.ifCond .ne 14, 3) := by decide +kernel
theorem dX6_play_10 : decode cX6_play 10 = .ok (.new 66, 3) := by decide +kernel
theorem dX6_play_13 : decode cX6_play 13 = .ok (.dup, 1) := by decide +kernel
theorem dX6_play_14 : decode cX6_play 14 = .ok (.ldc_w 267, 3) := by decide +kernel
theorem dX6_play_17 : decode cX6_play 17 = .ok (.invokespecial 70, 3) := by decide +kernel
theorem dX6_play_20 : decode cX6_play 20 = .ok (.athrow, 1) := by decide +kernel
theorem dX6_play_21 : decode cX6_play 21 = .ok (.aload_n 0, 1) := by decide +kernel
theorem dX6_play_22 : decode cX6_play 22 = .ok (.getfield 43, 3) := by decide +kernel
theorem dX6_play_25 : decode cX6_play 25 = .ok (.aload_n 0, 1) := by decide +kernel
theorem dX6_play_26 : decode cX6_play 26 = .ok (.getfield 19, 3) := by decide +kernel
theorem dX6_play_29 : decode cX6_play 29 = .ok (.invokevirtual 215, 3) := by decide +kernel
theorem dX6_play_32 : decode cX6_play 32 = .ok (.aload_n 0, 1) := by decide +kernel
theorem dX6_play_33 : decode cX6_play 33 = .ok (.getfield 29, 3) := by decide +kernel
theorem dX6_play_36 : decode cX6_play 36 = .ok (.aload_n 0, 1) := by decide +kernel
theorem dX6_play_37 : decode cX6_play 37 = .ok (.getfield 19, 3) := by decide +kernel
theorem dX6_play_40 : decode cX6_play 40 = .ok (.invokevirtual 269, 3) := by decide +kernel
theorem dX6_play_43 : decode cX6_play 43 = .ok (.ireturn, 1) := by decide +kernel
set_option maxRecDepth 20000 in
theorem ggX6_set_X6_isSetting : GoodIn wsX6_set wsX6_isSetting := goodIn_r _ [10] (by decide +kernel) (by decide +kernel)
set_option maxRecDepth 20000 in
theorem gX6_set_X6_isSetting : GoodIn wsX6_set (va_wsS RX6 210 yX6_isSetting wsX6_isSetting) := goodIn_app (goodIn_of _ (by decide +kernel)) ggX6_set_X6_isSetting
set_option maxRecDepth 20000 in
theorem ggX6_set_X3_remember : GoodIn wsX6_set wsX3_remember := goodIn_r _ [15, 16, 17, 18, 19, 20, 21, 22, 23, 24, 25, 26, 27, 28, 29, 30, 31, 32, 33, 34, 35, 36, 37, 38, 39, 40, 41, 42, 43, 44, 45, 46, 47, 48, 49, 50, 51, 52, 53, 66, 67, 68, 69, 70, 71, 72, 73, 74, 75, 76, 77, 78, 79, 80, 81, 82, 83, 84] (by decide +kernel) (by decide +kernel)
set_option maxRecDepth 20000 in
theorem gX6_set_X3_remember : GoodIn wsX6_set (wsV RX6 215 RX3 yX3_remember wsX3_remember) := goodIn_app (goodIn_of _ (by decide +kernel)) ggX6_set_X3_remember
set_option maxRecDepth 20000 in
theorem ggX6_set_X2_changeSetting : GoodIn wsX6_set wsX2_changeSetting := goodIn_r _ [57, 28, 8, 9, 10, 69, 70, 71, 72, 73, 74, 75, 76] (by decide +kernel) (by decide +kernel)
set_option maxRecDepth 20000 in
theorem gX6_set_X2_changeSetting : GoodIn wsX6_set (wsV RX6 282 RX2 yX2_changeSetting wsX2_changeSetting) := goodIn_app (goodIn_of _ (by decide +kernel)) ggX6_set_X2_changeSetting
theorem dX6_set_0 : decode cX6_set 0 = .ok (.iload_n 1, 1) := by decide +kernel
theorem dX6_set_1 : decode cX6_set 1 = .ok (.invokestatic 210, 3) := by decide +kernel
theorem dX6_set_4 : decode cX6_set 4 = .ok (.ifCond .eq 21, 3) := by decide +kernel
theorem dX6_set_7 : decode cX6_set 7 = .ok (.iload_n 2, 1) := by decide +kernel
theorem dX6_set_8 : decode cX6_set 8 = .ok (.getstatic 273, 3) := by decide +kernel
theorem dX6_set_11 : decode cX6_set 11 = .ok (.iload_n 1, 1) := by decide +kernel
theorem dX6_set_12 : decode cX6_set 12 = .ok (.iaload, 1) := by decide +kernel
theorem dX6_set_13 : decode cX6_set 13 = .ok (.if_icmp .lt 12, 3) := by decide +kernel
theorem dX6_set_16 : decode cX6_set 16 = .ok (.iload_n 2, 1) := by decide +kernel
theorem dX6_set_17 : decode cX6_set 17 = .ok (.getstatic 277, 3) := by decide +kernel
theorem dX6_set_20 : decode cX6_set 20 = .ok (.iload_n 1, 1) := by decide +kernel
theorem dX6_set_21 : decode cX6_set 21 = .ok (.iaload, 1) := by decide +kernel
theorem dX6_set_22 : decode cX6_set 22 = .ok (.if_icmp .le 14, 3) := by decide +kernel
theorem dX6_set_25 : decode cX6_set 25 = .ok (.new 55, 3) := by decide +kernel
theorem dX6_set_28 : decode cX6_set 28 = .ok (.dup, 1) := by decide +kernel
theorem dX6_set_29 : decode cX6_set 29 = .ok (.ldc_w 280, 3) := by decide +kernel
theorem dX6_set_32 : decode cX6_set 32 = .ok (.invokespecial 59, 3) := by decide +kernel
theorem dX6_set_35 : decode cX6_set 35 = .ok (.athrow, 1) := by decide +kernel
theorem dX6_set_36 : decode cX6_set 36 = .ok (.aload_n 0, 1) := by decide +kernel
theorem dX6_set_37 : decode cX6_set 37 = .ok (.getfield 43, 3) := by decide +kernel
theorem dX6_set_40 : decode cX6_set 40 = .ok (.aload_n 0, 1) := by decide +kernel
theorem dX6_set_41 : decode cX6_set 41 = .ok (.getfield 19, 3) := by decide +kernel
theorem dX6_set_44 : decode cX6_set 44 = .ok (.invokevirtual 215, 3) := by decide +kernel
theorem dX6_set_47 : decode cX6_set 47 = .ok (.aload_n 0, 1) := by decide +kernel
theorem dX6_set_48 : decode cX6_set 48 = .ok (.getfield 19, 3) := by decide +kernel
theorem dX6_set_51 : decode cX6_set 51 = .ok (.iload_n 1, 1) := by decide +kernel
theorem dX6_set_52 : decode cX6_set 52 = .ok (.iload_n 2, 1) := by decide +kernel
theorem dX6_set_53 : decode cX6_set 53 = .ok (.invokevirtual 282, 3) := by decide +kernel
theorem dX6_set_56 : decode cX6_set 56 = .ok (.ireturn, 1) := by decide +kernel
set_option maxRecDepth 20000 in
theorem ggX6_undo_X3_count : GoodIn wsX6_undo wsX3_count := goodIn_r _ [9, 10, 56, 57, 58] (by decide +kernel) (by decide +kernel)
set_option maxRecDepth 20000 in
theorem gX6_undo_X3_count : GoodIn wsX6_undo (wsV RX6 286 RX3 yX3_count wsX3_count) := goodIn_app (goodIn_of _ (by decide +kernel)) ggX6_undo_X3_count
set_option maxRecDepth 20000 in
theorem ggX6_undo_X3_recall : GoodIn wsX6_undo wsX3_recall := goodIn_r _ [14, 15, 10, 16, 17, 18, 19, 20, 21, 22, 23, 24, 25, 26, 27, 28, 29, 30, 31, 32, 33, 34, 35, 36, 37, 38, 39, 40, 41, 42, 43, 44, 45, 46, 47, 56, 57, 58, 59, 60, 61, 62, 63, 64, 65, 66, 67, 68, 69, 70, 71, 72, 73, 74] (by decide +kernel) (by decide +kernel)
set_option maxRecDepth 20000 in
theorem gX6_undo_X3_recall : GoodIn wsX6_undo (wsV RX6 291 RX3 yX3_recall wsX3_recall) := goodIn_app (goodIn_of _ (by decide +kernel)) ggX6_undo_X3_recall
theorem dX6_undo_0 : decode cX6_undo 0 = .ok (.aload_n 0, 1) := by decide +kernel
theorem dX6_undo_1 : decode cX6_undo 1 = .ok (.getfield 43, 3) := by decide +kernel
theorem dX6_undo_4 : decode cX6_undo 4 = .ok (.invokevirtual 286, 3) := by decide +kernel
theorem dX6_undo_7 : decode cX6_undo 7 = .ok (.ifCond .ne 14, 3) := by decide +kernel
theorem dX6_undo_10 : decode cX6_undo 10 = .ok (.new 66, 3) := by decide +kernel
theorem dX6_undo_13 : decode cX6_undo 13 = .ok (.dup, 1) := by decide +kernel
theorem dX6_undo_14 : decode cX6_undo 14 = .ok (.ldc_w 289, 3) := by decide +kernel
theorem dX6_undo_17 : decode cX6_undo 17 = .ok (.invokespecial 70, 3) := by decide +kernel
theorem dX6_undo_20 : decode cX6_undo 20 = .ok (.athrow, 1) := by decide +kernel
theorem dX6_undo_21 : decode cX6_undo 21 = .ok (.aload_n 0, 1) := by decide +kernel
theorem dX6_undo_22 : decode cX6_undo 22 = .ok (.getfield 43, 3) := by decide +kernel
theorem dX6_undo_25 : decode cX6_undo 25 = .ok (.aload_n 0, 1) := by decide +kernel
theorem dX6_undo_26 : decode cX6_undo 26 = .ok (.getfield 19, 3) := by decide +kernel
theorem dX6_undo_29 : decode cX6_undo 29 = .ok (.invokevirtual 291, 3) := by decide +kernel
theorem dX6_undo_32 : decode cX6_undo 32 = .ok (.aload_n 0, 1) := by decide +kernel
theorem dX6_undo_33 : decode cX6_undo 33 = .ok (.getfield 43, 3) := by decide +kernel
theorem dX6_undo_36 : decode cX6_undo 36 = .ok (.invokevirtual 286, 3) := by decide +kernel
theorem dX6_undo_39 : decode cX6_undo 39 = .ok (.ireturn, 1) := by decide +kernel
set_option maxRecDepth 20000 in
theorem ggX6_canShift_X2_hasPlayer : GoodIn wsX6_canShift wsX2_hasPlayer := goodIn_r _ [10, 11, 40, 41, 42, 43, 44, 45, 46, 47] (by decide +kernel) (by decide +kernel)
set_option maxRecDepth 20000 in
theorem gX6_canShift_X2_hasPlayer : GoodIn wsX6_canShift (wsV RX6 150 RX2 yX2_hasPlayer wsX2_hasPlayer) := goodIn_app (goodIn_of _ (by decide +kernel)) ggX6_canShift_X2_hasPlayer
set_option maxRecDepth 20000 in
theorem ggX6_canShift_X6_isLine : GoodIn wsX6_canShift wsX6_isLine := goodIn_r _ [15] (by decide +kernel) (by decide +kernel)
set_option maxRecDepth 20000 in
theorem gX6_canShift_X6_isLine : GoodIn wsX6_canShift (va_wsS RX6 219 yX6_isLine wsX6_isLine) := goodIn_app (goodIn_of _ (by decide +kernel)) ggX6_canShift_X6_isLine
set_option maxRecDepth 20000 in
theorem ggX6_canShift_X6_isDirection : GoodIn wsX6_canShift wsX6_isDirection := goodIn_r _ [18] (by decide +kernel) (by decide +kernel)
set_option maxRecDepth 20000 in
theorem gX6_canShift_X6_isDirection : GoodIn wsX6_canShift (va_wsS RX6 224 yX6_isDirection wsX6_isDirection) := goodIn_app (goodIn_of _ (by decide +kernel)) ggX6_canShift_X6_isDirection
set_option maxRecDepth 20000 in
theorem ggX6_canShift_X2_boardOf : GoodIn wsX6_canShift wsX2_boardOf := goodIn_r _ [22, 23, 40, 41, 42, 43, 44, 45, 46, 47] (by decide +kernel) (by decide +kernel)
set_option maxRecDepth 20000 in
theorem gX6_canShift_X2_boardOf : GoodIn wsX6_canShift (wsV RX6 161 RX2 yX2_boardOf wsX2_boardOf) := goodIn_app (goodIn_of _ (by decide +kernel)) ggX6_canShift_X2_boardOf
set_option maxRecDepth 20000 in
theorem ggX6_canShift_X0_allows : GoodIn wsX6_canShift wsX0_allows := goodIn_r _ [28, 29, 30, 31, 48, 49, 50, 51, 52, 53, 54, 55] (by decide +kernel) (by decide +kernel)
set_option maxRecDepth 20000 in
theorem gX6_canShift_X0_allows : GoodIn wsX6_canShift (wsV RX6 294 RX0 yX0_allows wsX0_allows) := goodIn_app (goodIn_of _ (by decide +kernel)) ggX6_canShift_X0_allows
theorem dX6_canShift_0 : decode cX6_canShift 0 = .ok (.aload_n 0, 1) := by decide +kernel
theorem dX6_canShift_1 : decode cX6_canShift 1 = .ok (.getfield 19, 3) := by decide +kernel
theorem dX6_canShift_4 : decode cX6_canShift 4 = .ok (.iload_n 1, 1) := by decide +kernel
theorem dX6_canShift_5 : decode cX6_canShift 5 = .ok (.invokevirtual 150, 3) := by decide +kernel
theorem dX6_canShift_8 : decode cX6_canShift 8 = .ok (.ifCond .eq 10, 3) := by decide +kernel
theorem dX6_canShift_11 : decode cX6_canShift 11 = .ok (.iload_n 2, 1) := by decide +kernel
theorem dX6_canShift_12 : decode cX6_canShift 12 = .ok (.invokestatic 219, 3) := by decide +kernel
theorem dX6_canShift_15 : decode cX6_canShift 15 = .ok (.ifCond .ne 13, 3) := by decide +kernel
theorem dX6_canShift_18 : decode cX6_canShift 18 = .ok (.new 156, 3) := by decide +kernel
theorem dX6_canShift_21 : decode cX6_canShift 21 = .ok (.dup, 1) := by decide +kernel
theorem dX6_canShift_22 : decode cX6_canShift 22 = .ok (.ldc 222, 2) := by decide +kernel
theorem dX6_canShift_24 : decode cX6_canShift 24 = .ok (.invokespecial 160, 3) := by decide +kernel
theorem dX6_canShift_27 : decode cX6_canShift 27 = .ok (.athrow, 1) := by decide +kernel
theorem dX6_canShift_28 : decode cX6_canShift 28 = .ok (.iload_n 3, 1) := by decide +kernel
theorem dX6_canShift_29 : decode cX6_canShift 29 = .ok (.invokestatic 224, 3) := by decide +kernel
theorem dX6_canShift_32 : decode cX6_canShift 32 = .ok (.ifCond .ne 13, 3) := by decide +kernel
theorem dX6_canShift_35 : decode cX6_canShift 35 = .ok (.new 55, 3) := by decide +kernel
theorem dX6_canShift_38 : decode cX6_canShift 38 = .ok (.dup, 1) := by decide +kernel
theorem dX6_canShift_39 : decode cX6_canShift 39 = .ok (.ldc 227, 2) := by decide +kernel
theorem dX6_canShift_41 : decode cX6_canShift 41 = .ok (.invokespecial 59, 3) := by decide +kernel
theorem dX6_canShift_44 : decode cX6_canShift 44 = .ok (.athrow, 1) := by decide +kernel
theorem dX6_canShift_45 : decode cX6_canShift 45 = .ok (.aload_n 0, 1) := by decide +kernel
theorem dX6_canShift_46 : decode cX6_canShift 46 = .ok (.getfield 19, 3) := by decide +kernel
theorem dX6_canShift_49 : decode cX6_canShift 49 = .ok (.iload_n 1, 1) := by decide +kernel
theorem dX6_canShift_50 : decode cX6_canShift 50 = .ok (.invokevirtual 161, 3) := by decide +kernel
theorem dX6_canShift_53 : decode cX6_canShift 53 = .ok (.iload_n 2, 1) := by decide +kernel
theorem dX6_canShift_54 : decode cX6_canShift 54 = .ok (.iload_n 3, 1) := by decide +kernel
theorem dX6_canShift_55 : decode cX6_canShift 55 = .ok (.invokevirtual 294, 3) := by decide +kernel
theorem dX6_canShift_58 : decode cX6_canShift 58 = .ok (.ireturn, 1) := by decide +kernel
set_option maxRecDepth 20000 in
theorem ggX6_ifShifted_X2_hasPlayer : GoodIn wsX6_ifShifted wsX2_hasPlayer := goodIn_r _ [11, 12, 107, 108, 109, 110, 111, 112, 113, 114] (by decide +kernel) (by decide +kernel)
set_option maxRecDepth 20000 in
theorem gX6_ifShifted_X2_hasPlayer : GoodIn wsX6_ifShifted (wsV RX6 150 RX2 yX2_hasPlayer wsX2_hasPlayer) := goodIn_app (goodIn_of _ (by decide +kernel)) ggX6_ifShifted_X2_hasPlayer
set_option maxRecDepth 20000 in
theorem ggX6_ifShifted_X6_isLine : GoodIn wsX6_ifShifted wsX6_isLine := goodIn_r _ [16] (by decide +kernel) (by decide +kernel)
set_option maxRecDepth 20000 in
theorem gX6_ifShifted_X6_isLine : GoodIn wsX6_ifShifted (va_wsS RX6 219 yX6_isLine wsX6_isLine) := goodIn_app (goodIn_of _ (by decide +kernel)) ggX6_ifShifted_X6_isLine
set_option maxRecDepth 20000 in
theorem ggX6_ifShifted_X6_isDirection : GoodIn wsX6_ifShifted wsX6_isDirection := goodIn_r _ [19] (by decide +kernel) (by decide +kernel)
set_option maxRecDepth 20000 in
theorem gX6_ifShifted_X6_isDirection : GoodIn wsX6_ifShifted (va_wsS RX6 224 yX6_isDirection wsX6_isDirection) := goodIn_app (goodIn_of _ (by decide +kernel)) ggX6_ifShifted_X6_isDirection
set_option maxRecDepth 20000 in
theorem ggX6_ifShifted_X2_copyFrom : GoodIn wsX6_ifShifted wsX2_copyFrom := goodIn_r _ [23, 24, 25, 26, 27, 28, 29, 12, 30, 31, 32, 33, 34, 35, 36, 37, 38, 39, 40, 41, 42, 43, 44, 45, 46, 47, 48, 107, 108, 109, 110, 111, 112, 113, 114, 115, 116, 117, 118, 119, 120, 121, 122] (by decide +kernel) (by decide +kernel)
set_option maxRecDepth 20000 in
theorem gX6_ifShifted_X2_copyFrom : GoodIn wsX6_ifShifted (wsV RX6 299 RX2 yX2_copyFrom wsX2_copyFrom) := goodIn_app (goodIn_of _ (by decide +kernel)) ggX6_ifShifted_X2_copyFrom
set_option maxRecDepth 20000 in
theorem ggX6_ifShifted_X2_boardOf : GoodIn wsX6_ifShifted wsX2_boardOf := goodIn_r _ [52, 29, 107, 108, 109, 110, 111, 112, 113, 114] (by decide +kernel) (by decide +kernel)
set_option maxRecDepth 20000 in
theorem gX6_ifShifted_X2_boardOf : GoodIn wsX6_ifShifted (wsV RX6 161 RX2 yX2_boardOf wsX2_boardOf) := goodIn_app (goodIn_of _ (by decide +kernel)) ggX6_ifShifted_X2_boardOf
set_option maxRecDepth 20000 in
theorem ggX6_ifShifted_X0_moveLine : GoodIn wsX6_ifShifted wsX0_moveLine := goodIn_r _ [56, 40, 42, 47, 48, 14, 15, 16, 57, 58, 38, 59, 60, 61, 62, 63, 44, 115, 116, 117, 118, 119, 120, 121, 122] (by decide +kernel) (by decide +kernel)
set_option maxRecDepth 20000 in
theorem gX6_ifShifted_X0_moveLine : GoodIn wsX6_ifShifted (wsV RX6 302 RX0 yX0_moveLine wsX0_moveLine) := goodIn_app (goodIn_of _ (by decide +kernel)) ggX6_ifShifted_X0_moveLine
set_option maxRecDepth 20000 in
theorem ggX6_ifShifted_X2_settingOf : GoodIn wsX6_ifShifted wsX2_settingOf := goodIn_r _ [67, 24, 68, 15, 69, 107, 108, 109, 110, 111, 112, 113, 114] (by decide +kernel) (by decide +kernel)
set_option maxRecDepth 20000 in
theorem gX6_ifShifted_X2_settingOf : GoodIn wsX6_ifShifted (wsV RX6 198 RX2 yX2_settingOf wsX2_settingOf) := goodIn_app (goodIn_of _ (by decide +kernel)) ggX6_ifShifted_X2_settingOf
set_option maxRecDepth 20000 in
theorem ggX6_ifShifted_X0_reach : GoodIn wsX6_ifShifted wsX0_reach := goodIn_r _ [73, 44, 74, 75, 76, 38, 77, 40, 78, 79, 80, 81, 82, 83, 84, 115, 116, 117, 118, 119, 120, 121, 122] (by decide +kernel) (by decide +kernel)
set_option maxRecDepth 20000 in
theorem gX6_ifShifted_X0_reach : GoodIn wsX6_ifShifted (wsV RX6 201 RX0 yX0_reach wsX0_reach) := goodIn_app (goodIn_of _ (by decide +kernel)) ggX6_ifShifted_X0_reach
set_option maxRecDepth 20000 in
theorem ggX6_ifShifted_X0_soughtPlace : GoodIn wsX6_ifShifted wsX0_soughtPlace := goodIn_r _ [88, 42, 89, 90, 91, 38, 92, 45, 43, 115, 116, 117, 118, 119, 120, 121, 122] (by decide +kernel) (by decide +kernel)
set_option maxRecDepth 20000 in
theorem gX6_ifShifted_X0_soughtPlace : GoodIn wsX6_ifShifted (wsV RX6 186 RX0 yX0_soughtPlace wsX0_soughtPlace) := goodIn_app (goodIn_of _ (by decide +kernel)) ggX6_ifShifted_X0_soughtPlace
set_option maxRecDepth 20000 in
theorem ggX6_ifShifted_X6_isIn : GoodIn wsX6_ifShifted wsX6_isIn := goodIn_r _ [95, 96, 97, 15, 98] (by decide +kernel) (by decide +kernel)
set_option maxRecDepth 20000 in
theorem gX6_ifShifted_X6_isIn : GoodIn wsX6_ifShifted (va_wsS RX6 204 yX6_isIn wsX6_isIn) := goodIn_app (goodIn_of _ (by decide +kernel)) ggX6_ifShifted_X6_isIn
theorem dX6_ifShifted_0 : decode cX6_ifShifted 0 = .ok (.aload_n 0, 1) := by decide +kernel
theorem dX6_ifShifted_1 : decode cX6_ifShifted 1 = .ok (.getfield 19, 3) := by decide +kernel
theorem dX6_ifShifted_4 : decode cX6_ifShifted 4 = .ok (.iload_n 1, 1) := by decide +kernel
theorem dX6_ifShifted_5 : decode cX6_ifShifted 5 = .ok (.invokevirtual 150, 3) := by decide +kernel
theorem dX6_ifShifted_8 : decode cX6_ifShifted 8 = .ok (.ifCond .eq 10, 3) := by decide +kernel
theorem dX6_ifShifted_11 : decode cX6_ifShifted 11 = .ok (.iload_n 2, 1) := by decide +kernel
theorem dX6_ifShifted_12 : decode cX6_ifShifted 12 = .ok (.invokestatic 219, 3) := by decide +kernel
theorem dX6_ifShifted_15 : decode cX6_ifShifted 15 = .ok (.ifCond .ne 13, 3) := by decide +kernel
theorem dX6_ifShifted_18 : decode cX6_ifShifted 18 = .ok (.new 156, 3) := by decide +kernel
theorem dX6_ifShifted_21 : decode cX6_ifShifted 21 = .ok (.dup, 1) := by decide +kernel
theorem dX6_ifShifted_22 : decode cX6_ifShifted 22 = .ok (.ldc 222, 2) := by decide +kernel
theorem dX6_ifShifted_24 : decode cX6_ifShifted 24 = .ok (.invokespecial 160, 3) := by decide +kernel
theorem dX6_ifShifted_27 : decode cX6_ifShifted 27 = .ok (.athrow, 1) := by decide +kernel
theorem dX6_ifShifted_28 : decode cX6_ifShifted 28 = .ok (.iload_n 3, 1) := by decide +kernel
theorem dX6_ifShifted_29 : decode cX6_ifShifted 29 = .ok (.invokestatic 224, 3) := by decide +kernel
theorem dX6_ifShifted_32 : decode cX6_ifShifted 32 = .ok (.ifCond .eq 14, 3) := by decide +kernel
theorem dX6_ifShifted_35 : decode cX6_ifShifted 35 = .ok (.iload 4, 2) := by decide +kernel
theorem dX6_ifShifted_37 : decode cX6_ifShifted 37 = .ok (.ifCond .lt 9, 3) := by decide +kernel
theorem dX6_ifShifted_40 : decode cX6_ifShifted 40 = .ok (.iload 4, 2) := by decide +kernel
theorem dX6_ifShifted_42 : decode cX6_ifShifted 42 = .ok (.iconst 1, 1) := by decide +kernel
theorem dX6_ifShifted_43 : decode cX6_ifShifted 43 = .ok (.if_icmp .le 14, 3) := by decide +kernel
theorem dX6_ifShifted_46 : decode cX6_ifShifted 46 = .ok (.new 55, 3) := by decide +kernel
theorem dX6_ifShifted_49 : decode cX6_ifShifted 49 = .ok (.dup, 1) := by decide +kernel
theorem dX6_ifShifted_50 : decode cX6_ifShifted 50 = .ok (.ldc_w 297, 3) := by decide +kernel
theorem dX6_ifShifted_53 : decode cX6_ifShifted 53 = .ok (.invokespecial 59, 3) := by decide +kernel
theorem dX6_ifShifted_56 : decode cX6_ifShifted 56 = .ok (.athrow, 1) := by decide +kernel
theorem dX6_ifShifted_57 : decode cX6_ifShifted 57 = .ok (.aload_n 0, 1) := by decide +kernel
theorem dX6_ifShifted_58 : decode cX6_ifShifted 58 = .ok (.getfield 23, 3) := by decide +kernel
theorem dX6_ifShifted_61 : decode cX6_ifShifted 61 = .ok (.aload_n 0, 1) := by decide +kernel
theorem dX6_ifShifted_62 : decode cX6_ifShifted 62 = .ok (.getfield 19, 3) := by decide +kernel
theorem dX6_ifShifted_65 : decode cX6_ifShifted 65 = .ok (.invokevirtual 299, 3) := by decide +kernel
theorem dX6_ifShifted_68 : decode cX6_ifShifted 68 = .ok (.aload_n 0, 1) := by decide +kernel
theorem dX6_ifShifted_69 : decode cX6_ifShifted 69 = .ok (.getfield 23, 3) := by decide +kernel
theorem dX6_ifShifted_72 : decode cX6_ifShifted 72 = .ok (.iload_n 1, 1) := by decide +kernel
theorem dX6_ifShifted_73 : decode cX6_ifShifted 73 = .ok (.invokevirtual 161, 3) := by decide +kernel
theorem dX6_ifShifted_76 : decode cX6_ifShifted 76 = .ok (.astore 5, 2) := by decide +kernel
theorem dX6_ifShifted_78 : decode cX6_ifShifted 78 = .ok (.aload 5, 2) := by decide +kernel
theorem dX6_ifShifted_80 : decode cX6_ifShifted 80 = .ok (.iload_n 2, 1) := by decide +kernel
theorem dX6_ifShifted_81 : decode cX6_ifShifted 81 = .ok (.iload_n 3, 1) := by decide +kernel
theorem dX6_ifShifted_82 : decode cX6_ifShifted 82 = .ok (.invokevirtual 302, 3) := by decide +kernel
theorem dX6_ifShifted_85 : decode cX6_ifShifted 85 = .ok (.aload 5, 2) := by decide +kernel
theorem dX6_ifShifted_87 : decode cX6_ifShifted 87 = .ok (.aload_n 0, 1) := by decide +kernel
theorem dX6_ifShifted_88 : decode cX6_ifShifted 88 = .ok (.getfield 23, 3) := by decide +kernel
theorem dX6_ifShifted_91 : decode cX6_ifShifted 91 = .ok (.iconst 0, 1) := by decide +kernel
theorem dX6_ifShifted_92 : decode cX6_ifShifted 92 = .ok (.invokevirtual 198, 3) := by decide +kernel
theorem dX6_ifShifted_95 : decode cX6_ifShifted 95 = .ok (.invokevirtual 201, 3) := by decide +kernel
theorem dX6_ifShifted_98 : decode cX6_ifShifted 98 = .ok (.istore 6, 2) := by decide +kernel
theorem dX6_ifShifted_100 : decode cX6_ifShifted 100 = .ok (.iload 4, 2) := by decide +kernel
theorem dX6_ifShifted_102 : decode cX6_ifShifted 102 = .ok (.ifCond .ne 6, 3) := by decide +kernel
theorem dX6_ifShifted_105 : decode cX6_ifShifted 105 = .ok (.iload 6, 2) := by decide +kernel
theorem dX6_ifShifted_107 : decode cX6_ifShifted 107 = .ok (.ireturn, 1) := by decide +kernel
theorem dX6_ifShifted_108 : decode cX6_ifShifted 108 = .ok (.iload 6, 2) := by decide +kernel
theorem dX6_ifShifted_110 : decode cX6_ifShifted 110 = .ok (.aload 5, 2) := by decide +kernel
theorem dX6_ifShifted_112 : decode cX6_ifShifted 112 = .ok (.invokevirtual 186, 3) := by decide +kernel
theorem dX6_ifShifted_115 : decode cX6_ifShifted 115 = .ok (.invokestatic 204, 3) := by decide +kernel
theorem dX6_ifShifted_118 : decode cX6_ifShifted 118 = .ok (.ifCond .eq 7, 3) := by decide +kernel
theorem dX6_ifShifted_121 : decode cX6_ifShifted 121 = .ok (.iconst 1, 1) := by decide +kernel
theorem dX6_ifShifted_122 : decode cX6_ifShifted 122 = .ok (.goto 4, 3) := by decide +kernel
theorem dX6_ifShifted_125 : decode cX6_ifShifted 125 = .ok (.iconst 0, 1) := by decide +kernel
theorem dX6_ifShifted_126 : decode cX6_ifShifted 126 = .ok (.ireturn, 1) := by decide +kernel
set_option maxRecDepth 20000 in
theorem ggX6_worstShift_X4_chooseShift : GoodIn wsX6_worstShift wsX4_chooseShift := goodIn_r _ [9, 10, 11, 12, 13, 14, 15, 16, 17, 18, 19, 20, 21, 22, 8, 23, 24, 25, 26, 27, 28, 29, 30, 31, 32, 33, 34, 35, 36, 37, 38, 39, 40, 41, 42, 43, 44, 45, 46, 47, 48, 49, 50, 51, 52, 53, 54, 55, 56, 57, 58, 59, 60, 61, 62, 63, 64, 65, 66, 67, 68, 69, 70, 71, 72, 73, 74, 75, 76, 77, 78, 79, 80, 81, 82, 83, 84, 85, 86, 87, 88, 89, 90, 91, 92, 93, 94, 95, 96, 97, 98, 99, 100, 101, 102, 103, 104, 105, 106, 107, 108, 109, 110, 111, 112, 113, 114, 115, 116, 117, 118, 119, 120, 121, 122, 123, 124, 145, 146, 147, 148, 149, 150, 151, 152, 153, 154, 155, 156, 157, 158, 159, 160, 161, 162, 163, 164, 165] (by decide +kernel) (by decide +kernel)
set_option maxRecDepth 20000 in
theorem gX6_worstShift_X4_chooseShift : GoodIn wsX6_worstShift (wsV RX6 306 RX4 yX4_chooseShift wsX4_chooseShift) := goodIn_app (goodIn_of _ (by decide +kernel)) ggX6_worstShift_X4_chooseShift
set_option maxRecDepth 20000 in
theorem ggX6_worstShift_X4_chosenPlayer : GoodIn wsX6_worstShift wsX4_chosenPlayer := goodIn_r _ [128, 10, 145, 146, 147, 148, 149] (by decide +kernel) (by decide +kernel)
set_option maxRecDepth 20000 in
theorem gX6_worstShift_X4_chosenPlayer : GoodIn wsX6_worstShift (wsV RX6 310 RX4 yX4_chosenPlayer wsX4_chosenPlayer) := goodIn_app (goodIn_of _ (by decide +kernel)) ggX6_worstShift_X4_chosenPlayer
set_option maxRecDepth 20000 in
theorem ggX6_worstShift_X4_chosenLine : GoodIn wsX6_worstShift wsX4_chosenLine := goodIn_r _ [132, 11, 145, 146, 147, 148, 149] (by decide +kernel) (by decide +kernel)
set_option maxRecDepth 20000 in
theorem gX6_worstShift_X4_chosenLine : GoodIn wsX6_worstShift (wsV RX6 313 RX4 yX4_chosenLine wsX4_chosenLine) := goodIn_app (goodIn_of _ (by decide +kernel)) ggX6_worstShift_X4_chosenLine
set_option maxRecDepth 20000 in
theorem ggX6_worstShift_X4_chosenDirection : GoodIn wsX6_worstShift wsX4_chosenDirection := goodIn_r _ [136, 12, 145, 146, 147, 148, 149] (by decide +kernel) (by decide +kernel)
set_option maxRecDepth 20000 in
theorem gX6_worstShift_X4_chosenDirection : GoodIn wsX6_worstShift (wsV RX6 316 RX4 yX4_chosenDirection wsX4_chosenDirection) := goodIn_app (goodIn_of _ (by decide +kernel)) ggX6_worstShift_X4_chosenDirection
theorem dX6_worstShift_0 : decode cX6_worstShift 0 = .ok (.iload_n 1, 1) := by decide +kernel
theorem dX6_worstShift_1 : decode cX6_worstShift 1 = .ok (.ifCond .lt 8, 3) := by decide +kernel
theorem dX6_worstShift_4 : decode cX6_worstShift 4 = .ok (.iload_n 1, 1) := by decide +kernel
theorem dX6_worstShift_5 : decode cX6_worstShift 5 = .ok (.iconst 2, 1) := by decide +kernel
theorem dX6_worstShift_6 : decode cX6_worstShift 6 = .ok (.if_icmp .le 13, 3) := by decide +kernel
theorem dX6_worstShift_9 : decode cX6_worstShift 9 = .ok (.new 55, 3) := by decide +kernel
theorem dX6_worstShift_12 : decode cX6_worstShift 12 = .ok (.dup, 1) := by decide +kernel
theorem dX6_worstShift_13 : decode cX6_worstShift 13 = .ok (.ldc 176, 2) := by decide +kernel
theorem dX6_worstShift_15 : decode cX6_worstShift 15 = .ok (.invokespecial 59, 3) := by decide +kernel
theorem dX6_worstShift_18 : decode cX6_worstShift 18 = .ok (.athrow, 1) := by decide +kernel
theorem dX6_worstShift_19 : decode cX6_worstShift 19 = .ok (.aload_n 0, 1) := by decide +kernel
theorem dX6_worstShift_20 : decode cX6_worstShift 20 = .ok (.getfield 29, 3) := by decide +kernel
theorem dX6_worstShift_23 : decode cX6_worstShift 23 = .ok (.aload_n 0, 1) := by decide +kernel
theorem dX6_worstShift_24 : decode cX6_worstShift 24 = .ok (.getfield 19, 3) := by decide +kernel
theorem dX6_worstShift_27 : decode cX6_worstShift 27 = .ok (.invokevirtual 306, 3) := by decide +kernel
theorem dX6_worstShift_30 : decode cX6_worstShift 30 = .ok (.pop, 1) := by decide +kernel
theorem dX6_worstShift_31 : decode cX6_worstShift 31 = .ok (.iload_n 1, 1) := by decide +kernel
theorem dX6_worstShift_32 : decode cX6_worstShift 32 = .ok (.lookupswitch 44 #[(0, 28), (1, 36)], 28) := by decide +kernel
theorem dX6_worstShift_60 : decode cX6_worstShift 60 = .ok (.aload_n 0, 1) := by decide +kernel
theorem dX6_worstShift_61 : decode cX6_worstShift 61 = .ok (.getfield 29, 3) := by decide +kernel
theorem dX6_worstShift_64 : decode cX6_worstShift 64 = .ok (.invokevirtual 310, 3) := by decide +kernel
theorem dX6_worstShift_67 : decode cX6_worstShift 67 = .ok (.ireturn, 1) := by decide +kernel
theorem dX6_worstShift_68 : decode cX6_worstShift 68 = .ok (.aload_n 0, 1) := by decide +kernel
theorem dX6_worstShift_69 : decode cX6_worstShift 69 = .ok (.getfield 29, 3) := by decide +kernel
theorem dX6_worstShift_72 : decode cX6_worstShift 72 = .ok (.invokevirtual 313, 3) := by decide +kernel
theorem dX6_worstShift_75 : decode cX6_worstShift 75 = .ok (.ireturn, 1) := by decide +kernel
theorem dX6_worstShift_76 : decode cX6_worstShift 76 = .ok (.aload_n 0, 1) := by decide +kernel
theorem dX6_worstShift_77 : decode cX6_worstShift 77 = .ok (.getfield 29, 3) := by decide +kernel
theorem dX6_worstShift_80 : decode cX6_worstShift 80 = .ok (.invokevirtual 316, 3) := by decide +kernel
theorem dX6_worstShift_83 : decode cX6_worstShift 83 = .ok (.ireturn, 1) := by decide +kernel
set_option maxRecDepth 20000 in
theorem ggX6_steps_X2_hasPlayer : GoodIn wsX6_steps wsX2_hasPlayer := goodIn_r _ [8, 9, 47, 48, 49, 50, 51, 52, 53, 54] (by decide +kernel) (by decide +kernel)
set_option maxRecDepth 20000 in
theorem gX6_steps_X2_hasPlayer : GoodIn wsX6_steps (wsV RX6 150 RX2 yX2_hasPlayer wsX2_hasPlayer) := goodIn_app (goodIn_of _ (by decide +kernel)) ggX6_steps_X2_hasPlayer
set_option maxRecDepth 20000 in
theorem ggX6_steps_X6_isPlace : GoodIn wsX6_steps wsX6_isPlace := goodIn_r _ [13] (by decide +kernel) (by decide +kernel)
set_option maxRecDepth 20000 in
theorem gX6_steps_X6_isPlace : GoodIn wsX6_steps (va_wsS RX6 153 yX6_isPlace wsX6_isPlace) := goodIn_app (goodIn_of _ (by decide +kernel)) ggX6_steps_X6_isPlace
set_option maxRecDepth 20000 in
theorem ggX6_steps_X2_boardOf : GoodIn wsX6_steps wsX2_boardOf := goodIn_r _ [17, 18, 47, 48, 49, 50, 51, 52, 53, 54] (by decide +kernel) (by decide +kernel)
set_option maxRecDepth 20000 in
theorem gX6_steps_X2_boardOf : GoodIn wsX6_steps (wsV RX6 161 RX2 yX2_boardOf wsX2_boardOf) := goodIn_app (goodIn_of _ (by decide +kernel)) ggX6_steps_X2_boardOf
set_option maxRecDepth 20000 in
theorem ggX6_steps_X0_stepsTo : GoodIn wsX6_steps wsX0_stepsTo := goodIn_r _ [23, 24, 25, 26, 27, 22, 28, 29, 30, 31, 32, 33, 34, 12, 35, 10, 11, 13, 36, 37, 38, 55, 56, 57, 58, 59, 60, 61, 62] (by decide +kernel) (by decide +kernel)
set_option maxRecDepth 20000 in
theorem gX6_steps_X0_stepsTo : GoodIn wsX6_steps (wsV RX6 319 RX0 yX0_stepsTo wsX0_stepsTo) := goodIn_app (goodIn_of _ (by decide +kernel)) ggX6_steps_X0_stepsTo
theorem dX6_steps_0 : decode cX6_steps 0 = .ok (.aload_n 0, 1) := by decide +kernel
theorem dX6_steps_1 : decode cX6_steps 1 = .ok (.getfield 19, 3) := by decide +kernel
theorem dX6_steps_4 : decode cX6_steps 4 = .ok (.iload_n 1, 1) := by decide +kernel
theorem dX6_steps_5 : decode cX6_steps 5 = .ok (.invokevirtual 150, 3) := by decide +kernel
theorem dX6_steps_8 : decode cX6_steps 8 = .ok (.ifCond .eq 10, 3) := by decide +kernel
theorem dX6_steps_11 : decode cX6_steps 11 = .ok (.iload_n 2, 1) := by decide +kernel
theorem dX6_steps_12 : decode cX6_steps 12 = .ok (.invokestatic 153, 3) := by decide +kernel
theorem dX6_steps_15 : decode cX6_steps 15 = .ok (.ifCond .ne 13, 3) := by decide +kernel
theorem dX6_steps_18 : decode cX6_steps 18 = .ok (.new 156, 3) := by decide +kernel
theorem dX6_steps_21 : decode cX6_steps 21 = .ok (.dup, 1) := by decide +kernel
theorem dX6_steps_22 : decode cX6_steps 22 = .ok (.ldc 158, 2) := by decide +kernel
theorem dX6_steps_24 : decode cX6_steps 24 = .ok (.invokespecial 160, 3) := by decide +kernel
theorem dX6_steps_27 : decode cX6_steps 27 = .ok (.athrow, 1) := by decide +kernel
theorem dX6_steps_28 : decode cX6_steps 28 = .ok (.aload_n 0, 1) := by decide +kernel
theorem dX6_steps_29 : decode cX6_steps 29 = .ok (.getfield 19, 3) := by decide +kernel
theorem dX6_steps_32 : decode cX6_steps 32 = .ok (.iload_n 1, 1) := by decide +kernel
theorem dX6_steps_33 : decode cX6_steps 33 = .ok (.invokevirtual 161, 3) := by decide +kernel
theorem dX6_steps_36 : decode cX6_steps 36 = .ok (.iload_n 2, 1) := by decide +kernel
theorem dX6_steps_37 : decode cX6_steps 37 = .ok (.invokevirtual 319, 3) := by decide +kernel
theorem dX6_steps_40 : decode cX6_steps 40 = .ok (.ireturn, 1) := by decide +kernel
set_option maxRecDepth 20000 in
theorem ggX6_goesOn_X2_players : GoodIn wsX6_goesOn wsX2_players := goodIn_r _ [10, 11, 203, 204, 205, 206, 207, 208, 209, 210] (by decide +kernel) (by decide +kernel)
set_option maxRecDepth 20000 in
theorem gX6_goesOn_X2_players : GoodIn wsX6_goesOn (wsV RX6 132 RX2 yX2_players wsX2_players) := goodIn_app (goodIn_of _ (by decide +kernel)) ggX6_goesOn_X2_players
set_option maxRecDepth 20000 in
theorem ggX6_goesOn_X2_copyFrom : GoodIn wsX6_goesOn wsX2_copyFrom := goodIn_r _ [15, 16, 17, 18, 19, 20, 21, 11, 22, 23, 24, 25, 26, 27, 28, 29, 30, 31, 32, 33, 34, 35, 36, 37, 38, 39, 40, 203, 204, 205, 206, 207, 208, 209, 210, 211, 212, 213, 214, 215, 216, 217, 218] (by decide +kernel) (by decide +kernel)
set_option maxRecDepth 20000 in
theorem gX6_goesOn_X2_copyFrom : GoodIn wsX6_goesOn (wsV RX6 299 RX2 yX2_copyFrom wsX2_copyFrom) := goodIn_app (goodIn_of _ (by decide +kernel)) ggX6_goesOn_X2_copyFrom
set_option maxRecDepth 20000 in
theorem ggX6_goesOn_X2_isRunning : GoodIn wsX6_goesOn wsX2_isRunning := goodIn_r _ [44, 11, 25, 203, 204, 205, 206, 207, 208, 209, 210] (by decide +kernel) (by decide +kernel)
set_option maxRecDepth 20000 in
theorem gX6_goesOn_X2_isRunning : GoodIn wsX6_goesOn (wsV RX6 264 RX2 yX2_isRunning wsX2_isRunning) := goodIn_app (goodIn_of _ (by decide +kernel)) ggX6_goesOn_X2_isRunning
set_option maxRecDepth 20000 in
theorem ggX6_goesOn_X4_finishTurn : GoodIn wsX6_goesOn wsX4_finishTurn := goodIn_r _ [49, 50, 51, 52, 53, 42, 43, 9, 44, 11, 25, 54, 55, 56, 48, 57, 58, 59, 7, 8, 10, 60, 61, 62, 63, 64, 65, 66, 67, 68, 23, 22, 69, 70, 71, 72, 73, 74, 75, 76, 77, 78, 79, 80, 81, 82, 21, 83, 84, 85, 30, 86, 38, 39, 40, 87, 88, 28, 29, 31, 32, 33, 18, 19, 20, 34, 35, 36, 37, 89, 90, 91, 92, 93, 94, 95, 96, 97, 98, 99, 100, 101, 102, 103, 16, 104, 105, 106, 107, 108, 109, 110, 111, 112, 113, 114, 115, 116, 117, 118, 119, 120, 121, 122, 123, 124, 125, 126, 127, 128, 129, 130, 131, 132, 133, 134, 135, 136, 137, 138, 139, 140, 141, 142, 143, 144, 145, 146, 147, 148, 149, 150, 151, 152, 153, 154, 155, 156, 157, 158, 159, 160, 161, 162, 163, 164, 165, 166, 167, 168, 169, 170, 171, 172, 173, 24, 26, 174, 175, 176, 177, 178, 179, 180, 181, 182, 219, 220, 221, 222, 223, 203, 204, 205, 206, 207, 208, 209, 210, 211, 212, 213, 214, 215, 216, 217, 218] (by decide +kernel) (by decide +kernel)
set_option maxRecDepth 20000 in
theorem gX6_goesOn_X4_finishTurn : GoodIn wsX6_goesOn (wsV RX6 269 RX4 yX4_finishTurn wsX4_finishTurn) := goodIn_app (goodIn_of _ (by decide +kernel)) ggX6_goesOn_X4_finishTurn
set_option maxRecDepth 20000 in
theorem ggX6_goesOn_X2_winner : GoodIn wsX6_goesOn wsX2_winner := goodIn_r _ [186, 26, 203, 204, 205, 206, 207, 208, 209, 210] (by decide +kernel) (by decide +kernel)
set_option maxRecDepth 20000 in
theorem gX6_goesOn_X2_winner : GoodIn wsX6_goesOn (wsV RX6 145 RX2 yX2_winner wsX2_winner) := goodIn_app (goodIn_of _ (by decide +kernel)) ggX6_goesOn_X2_winner
set_option maxRecDepth 20000 in
theorem ggX6_goesOn_X2_ended : GoodIn wsX6_goesOn wsX2_ended := goodIn_r _ [190, 24, 203, 204, 205, 206, 207, 208, 209, 210] (by decide +kernel) (by decide +kernel)
set_option maxRecDepth 20000 in
theorem gX6_goesOn_X2_ended : GoodIn wsX6_goesOn (wsV RX6 139 RX2 yX2_ended wsX2_ended) := goodIn_app (goodIn_of _ (by decide +kernel)) ggX6_goesOn_X2_ended
set_option maxRecDepth 20000 in
theorem ggX6_goesOn_X2_takenByAll : GoodIn wsX6_goesOn wsX2_takenByAll := goodIn_r _ [194, 11, 79, 80, 81, 9, 82, 21, 174, 175, 176, 30, 177, 37, 203, 204, 205, 206, 207, 208, 209, 210, 211, 212, 213, 214, 215, 216, 217, 218] (by decide +kernel) (by decide +kernel)
set_option maxRecDepth 20000 in
theorem gX6_goesOn_X2_takenByAll : GoodIn wsX6_goesOn (wsV RX6 322 RX2 yX2_takenByAll wsX2_takenByAll) := goodIn_app (goodIn_of _ (by decide +kernel)) ggX6_goesOn_X2_takenByAll
theorem dX6_goesOn_0 : decode cX6_goesOn 0 = .ok (.iload_n 1, 1) := by decide +kernel
theorem dX6_goesOn_1 : decode cX6_goesOn 1 = .ok (.ifCond .lt 8, 3) := by decide +kernel
theorem dX6_goesOn_4 : decode cX6_goesOn 4 = .ok (.iload_n 1, 1) := by decide +kernel
theorem dX6_goesOn_5 : decode cX6_goesOn 5 = .ok (.iconst 2, 1) := by decide +kernel
theorem dX6_goesOn_6 : decode cX6_goesOn 6 = .ok (.if_icmp .le 13, 3) := by decide +kernel
theorem dX6_goesOn_9 : decode cX6_goesOn 9 = .ok (.new 55, 3) := by decide +kernel
theorem dX6_goesOn_12 : decode cX6_goesOn 12 = .ok (.dup, 1) := by decide +kernel
theorem dX6_goesOn_13 : decode cX6_goesOn 13 = .ok (.ldc 176, 2) := by decide +kernel
theorem dX6_goesOn_15 : decode cX6_goesOn 15 = .ok (.invokespecial 59, 3) := by decide +kernel
theorem dX6_goesOn_18 : decode cX6_goesOn 18 = .ok (.athrow, 1) := by decide +kernel
theorem dX6_goesOn_19 : decode cX6_goesOn 19 = .ok (.aload_n 0, 1) := by decide +kernel
theorem dX6_goesOn_20 : decode cX6_goesOn 20 = .ok (.getfield 19, 3) := by decide +kernel
theorem dX6_goesOn_23 : decode cX6_goesOn 23 = .ok (.invokevirtual 132, 3) := by decide +kernel
theorem dX6_goesOn_26 : decode cX6_goesOn 26 = .ok (.ifCond .ne 5, 3) := by decide +kernel
theorem dX6_goesOn_29 : decode cX6_goesOn 29 = .ok (.iconst (-1), 1) := by decide +kernel
theorem dX6_goesOn_30 : decode cX6_goesOn 30 = .ok (.ireturn, 1) := by decide +kernel
theorem dX6_goesOn_31 : decode cX6_goesOn 31 = .ok (.aload_n 0, 1) := by decide +kernel
theorem dX6_goesOn_32 : decode cX6_goesOn 32 = .ok (.getfield 23, 3) := by decide +kernel
theorem dX6_goesOn_35 : decode cX6_goesOn 35 = .ok (.aload_n 0, 1) := by decide +kernel
theorem dX6_goesOn_36 : decode cX6_goesOn 36 = .ok (.getfield 19, 3) := by decide +kernel
theorem dX6_goesOn_39 : decode cX6_goesOn 39 = .ok (.invokevirtual 299, 3) := by decide +kernel
theorem dX6_goesOn_42 : decode cX6_goesOn 42 = .ok (.iconst 0, 1) := by decide +kernel
theorem dX6_goesOn_43 : decode cX6_goesOn 43 = .ok (.istore_n 2, 1) := by decide +kernel
theorem dX6_goesOn_44 : decode cX6_goesOn 44 = .ok (.iload_n 2, 1) := by decide +kernel
theorem dX6_goesOn_45 : decode cX6_goesOn 45 = .ok (.sipush 200, 3) := by decide +kernel
theorem dX6_goesOn_48 : decode cX6_goesOn 48 = .ok (.if_icmp .ge 31, 3) := by decide +kernel
theorem dX6_goesOn_51 : decode cX6_goesOn 51 = .ok (.aload_n 0, 1) := by decide +kernel
theorem dX6_goesOn_52 : decode cX6_goesOn 52 = .ok (.getfield 23, 3) := by decide +kernel
theorem dX6_goesOn_55 : decode cX6_goesOn 55 = .ok (.invokevirtual 264, 3) := by decide +kernel
theorem dX6_goesOn_58 : decode cX6_goesOn 58 = .ok (.ifCond .eq 21, 3) := by decide +kernel
theorem dX6_goesOn_61 : decode cX6_goesOn 61 = .ok (.aload_n 0, 1) := by decide +kernel
theorem dX6_goesOn_62 : decode cX6_goesOn 62 = .ok (.getfield 29, 3) := by decide +kernel
theorem dX6_goesOn_65 : decode cX6_goesOn 65 = .ok (.aload_n 0, 1) := by decide +kernel
theorem dX6_goesOn_66 : decode cX6_goesOn 66 = .ok (.getfield 23, 3) := by decide +kernel
theorem dX6_goesOn_69 : decode cX6_goesOn 69 = .ok (.invokevirtual 269, 3) := by decide +kernel
theorem dX6_goesOn_72 : decode cX6_goesOn 72 = .ok (.pop, 1) := by decide +kernel
theorem dX6_goesOn_73 : decode cX6_goesOn 73 = .ok (.iinc 2 1, 3) := by decide +kernel
theorem dX6_goesOn_76 : decode cX6_goesOn 76 = .ok (.goto (-32), 3) := by decide +kernel
theorem dX6_goesOn_79 : decode cX6_goesOn 79 = .ok (.iload_n 1, 1) := by decide +kernel
theorem dX6_goesOn_80 : decode cX6_goesOn 80 = .ok (.lookupswitch 44 #[(0, 28), (1, 36)], 28) := by decide +kernel
theorem dX6_goesOn_108 : decode cX6_goesOn 108 = .ok (.aload_n 0, 1) := by decide +kernel
theorem dX6_goesOn_109 : decode cX6_goesOn 109 = .ok (.getfield 23, 3) := by decide +kernel
theorem dX6_goesOn_112 : decode cX6_goesOn 112 = .ok (.invokevirtual 145, 3) := by decide +kernel
theorem dX6_goesOn_115 : decode cX6_goesOn 115 = .ok (.ireturn, 1) := by decide +kernel
theorem dX6_goesOn_116 : decode cX6_goesOn 116 = .ok (.aload_n 0, 1) := by decide +kernel
theorem dX6_goesOn_117 : decode cX6_goesOn 117 = .ok (.getfield 23, 3) := by decide +kernel
theorem dX6_goesOn_120 : decode cX6_goesOn 120 = .ok (.invokevirtual 139, 3) := by decide +kernel
theorem dX6_goesOn_123 : decode cX6_goesOn 123 = .ok (.ireturn, 1) := by decide +kernel
theorem dX6_goesOn_124 : decode cX6_goesOn 124 = .ok (.aload_n 0, 1) := by decide +kernel
theorem dX6_goesOn_125 : decode cX6_goesOn 125 = .ok (.getfield 23, 3) := by decide +kernel
theorem dX6_goesOn_128 : decode cX6_goesOn 128 = .ok (.invokevirtual 322, 3) := by decide +kernel
theorem dX6_goesOn_131 : decode cX6_goesOn 131 = .ok (.ireturn, 1) := by decide +kernel
set_option maxRecDepth 20000 in
theorem ggX6_runScript_X6_withoutLast : GoodIn wsX6_runScript wsX6_withoutLast := goodIn_r _ [9, 5] (by decide +kernel) (by decide +kernel)
set_option maxRecDepth 20000 in
theorem gX6_runScript_X6_withoutLast : GoodIn wsX6_runScript (va_wsS RX6 327 yX6_withoutLast wsX6_withoutLast) := goodIn_app (goodIn_of _ (by decide +kernel)) ggX6_runScript_X6_withoutLast
set_option maxRecDepth 20000 in
theorem ggX6_runScript_X2_copyFrom : GoodIn wsX6_runScript wsX2_copyFrom := goodIn_r _ [14, 15, 16, 17, 18, 19, 20, 21, 22, 23, 24, 25, 26, 27, 28, 29, 30, 31, 32, 33, 34, 35, 36, 37, 38, 39, 40, 247, 248, 249, 250, 251, 252, 253, 254, 255, 256, 257, 258, 259, 260, 261, 262] (by decide +kernel) (by decide +kernel)
set_option maxRecDepth 20000 in
theorem gX6_runScript_X2_copyFrom : GoodIn wsX6_runScript (wsV RX6 299 RX2 yX2_copyFrom wsX2_copyFrom) := goodIn_app (goodIn_of _ (by decide +kernel)) ggX6_runScript_X2_copyFrom
set_option maxRecDepth 20000 in
theorem ggX6_runScript_X6_succeeds : GoodIn wsX6_runScript wsX6_succeeds := goodIn_r _ [44, 3, 45, 46, 47, 48, 13, 49, 50, 51, 52, 53, 23, 22, 54, 55, 56, 57, 21, 25, 58, 59, 60, 61, 62, 8, 63, 64, 65, 66, 67, 68, 69, 20, 70, 71, 72, 30, 73, 38, 39, 40, 74, 75, 76, 77, 78, 79, 80, 81, 32, 34, 82, 83, 84, 85, 86, 87, 88, 36, 89, 90, 91, 92, 93, 94, 95, 96, 97, 98, 99, 100, 101, 102, 103, 104, 105, 106, 107, 108, 15, 109, 110, 111, 112, 113, 114, 115, 116, 117, 118, 119, 120, 121, 122, 123, 124, 125, 126, 127, 128, 129, 130, 131, 132, 133, 134, 135, 136, 137, 138, 37, 139, 140, 141, 142, 35, 143, 144, 145, 146, 24, 26, 147, 148, 149, 150, 151, 152, 153, 154, 155, 156, 157, 158, 159, 160, 161, 162, 163, 164, 165, 166, 167, 168, 169, 170, 171, 172, 173, 174, 175, 176, 177, 178, 179, 180, 181, 182, 183, 184, 185, 186, 187, 188, 189, 190, 191, 192, 28, 29, 31, 33, 17, 18, 19, 193, 194, 195, 196, 197, 198, 199, 200, 201, 202, 203, 204, 205, 206, 207, 208, 209, 210, 211, 212, 213, 214, 215, 216, 217, 218, 219, 220, 221, 222, 223, 224, 225, 226, 227, 228, 229, 230, 231, 232, 233, 234, 235, 236, 237, 238, 239, 240, 241, 242, 243, 244, 245, 246, 247, 248, 249, 250, 251, 252, 253, 254, 255, 256, 257, 258, 259, 260, 261, 262, 263, 264, 265, 266, 267] (by decide +kernel) (by decide +kernel)
set_option maxRecDepth 20000 in
theorem gX6_runScript_X6_succeeds : GoodIn wsX6_runScript (wsV RX6 335 RX6 yX6_succeeds wsX6_succeeds) := goodIn_app (goodIn_of _ (by decide +kernel)) ggX6_runScript_X6_succeeds
theorem dX6_runScript_0 : decode cX6_runScript 0 = .ok (.iload_n 1, 1) := by decide +kernel
theorem dX6_runScript_1 : decode cX6_runScript 1 = .ok (.iconst 1, 1) := by decide +kernel
theorem dX6_runScript_2 : decode cX6_runScript 2 = .ok (.if_icmp .lt 8, 3) := by decide +kernel
theorem dX6_runScript_5 : decode cX6_runScript 5 = .ok (.iload_n 1, 1) := by decide +kernel
theorem dX6_runScript_6 : decode cX6_runScript 6 = .ok (.iconst 3, 1) := by decide +kernel
theorem dX6_runScript_7 : decode cX6_runScript 7 = .ok (.if_icmp .le 14, 3) := by decide +kernel
theorem dX6_runScript_10 : decode cX6_runScript 10 = .ok (.new 55, 3) := by decide +kernel
theorem dX6_runScript_13 : decode cX6_runScript 13 = .ok (.dup, 1) := by decide +kernel
theorem dX6_runScript_14 : decode cX6_runScript 14 = .ok (.ldc_w 325, 3) := by decide +kernel
theorem dX6_runScript_17 : decode cX6_runScript 17 = .ok (.invokespecial 59, 3) := by decide +kernel
theorem dX6_runScript_20 : decode cX6_runScript 20 = .ok (.athrow, 1) := by decide +kernel
theorem dX6_runScript_21 : decode cX6_runScript 21 = .ok (.lload_n 2, 1) := by decide +kernel
theorem dX6_runScript_22 : decode cX6_runScript 22 = .ok (.lconst 0, 1) := by decide +kernel
theorem dX6_runScript_23 : decode cX6_runScript 23 = .ok (.lcmp, 1) := by decide +kernel
theorem dX6_runScript_24 : decode cX6_runScript 24 = .ok (.ifCond .lt 13, 3) := by decide +kernel
theorem dX6_runScript_27 : decode cX6_runScript 27 = .ok (.iload_n 1, 1) := by decide +kernel
theorem dX6_runScript_28 : decode cX6_runScript 28 = .ok (.lload_n 2, 1) := by decide +kernel
theorem dX6_runScript_29 : decode cX6_runScript 29 = .ok (.invokestatic 327, 3) := by decide +kernel
theorem dX6_runScript_32 : decode cX6_runScript 32 = .ok (.lconst 0, 1) := by decide +kernel
theorem dX6_runScript_33 : decode cX6_runScript 33 = .ok (.lcmp, 1) := by decide +kernel
theorem dX6_runScript_34 : decode cX6_runScript 34 = .ok (.ifCond .eq 14, 3) := by decide +kernel
theorem dX6_runScript_37 : decode cX6_runScript 37 = .ok (.new 55, 3) := by decide +kernel
theorem dX6_runScript_40 : decode cX6_runScript 40 = .ok (.dup, 1) := by decide +kernel
theorem dX6_runScript_41 : decode cX6_runScript 41 = .ok (.ldc_w 331, 3) := by decide +kernel
theorem dX6_runScript_44 : decode cX6_runScript 44 = .ok (.invokespecial 59, 3) := by decide +kernel
theorem dX6_runScript_47 : decode cX6_runScript 47 = .ok (.athrow, 1) := by decide +kernel
theorem dX6_runScript_48 : decode cX6_runScript 48 = .ok (.aload_n 0, 1) := by decide +kernel
theorem dX6_runScript_49 : decode cX6_runScript 49 = .ok (.getfield 23, 3) := by decide +kernel
theorem dX6_runScript_52 : decode cX6_runScript 52 = .ok (.aload_n 0, 1) := by decide +kernel
theorem dX6_runScript_53 : decode cX6_runScript 53 = .ok (.getfield 19, 3) := by decide +kernel
theorem dX6_runScript_56 : decode cX6_runScript 56 = .ok (.invokevirtual 299, 3) := by decide +kernel
theorem dX6_runScript_59 : decode cX6_runScript 59 = .ok (.iconst 0, 1) := by decide +kernel
theorem dX6_runScript_60 : decode cX6_runScript 60 = .ok (.istore 4, 2) := by decide +kernel
theorem dX6_runScript_62 : decode cX6_runScript 62 = .ok (.iload 4, 2) := by decide +kernel
theorem dX6_runScript_64 : decode cX6_runScript 64 = .ok (.iload_n 1, 1) := by decide +kernel
theorem dX6_runScript_65 : decode cX6_runScript 65 = .ok (.if_icmp .ge 34, 3) := by decide +kernel
theorem dX6_runScript_68 : decode cX6_runScript 68 = .ok (.aload_n 0, 1) := by decide +kernel
theorem dX6_runScript_69 : decode cX6_runScript 69 = .ok (.iload_n 1, 1) := by decide +kernel
theorem dX6_runScript_70 : decode cX6_runScript 70 = .ok (.iconst 1, 1) := by decide +kernel
theorem dX6_runScript_71 : decode cX6_runScript 71 = .ok (.isub, 1) := by decide +kernel
theorem dX6_runScript_72 : decode cX6_runScript 72 = .ok (.iload 4, 2) := by decide +kernel
theorem dX6_runScript_74 : decode cX6_runScript 74 = .ok (.isub, 1) := by decide +kernel
theorem dX6_runScript_75 : decode cX6_runScript 75 = .ok (.lload_n 2, 1) := by decide +kernel
theorem dX6_runScript_76 : decode cX6_runScript 76 = .ok (.invokestatic 327, 3) := by decide +kernel
theorem dX6_runScript_79 : decode cX6_runScript 79 = .ok (.ldc2_w 333, 3) := by decide +kernel
theorem dX6_runScript_82 : decode cX6_runScript 82 = .ok (.lrem, 1) := by decide +kernel
theorem dX6_runScript_83 : decode cX6_runScript 83 = .ok (.l2i, 1) := by decide +kernel
theorem dX6_runScript_84 : decode cX6_runScript 84 = .ok (.invokevirtual 335, 3) := by decide +kernel
theorem dX6_runScript_87 : decode cX6_runScript 87 = .ok (.ifCond .ne 6, 3) := by decide +kernel
theorem dX6_runScript_90 : decode cX6_runScript 90 = .ok (.iload 4, 2) := by decide +kernel
theorem dX6_runScript_92 : decode cX6_runScript 92 = .ok (.ireturn, 1) := by decide +kernel
theorem dX6_runScript_93 : decode cX6_runScript 93 = .ok (.iinc 4 1, 3) := by decide +kernel
theorem dX6_runScript_96 : decode cX6_runScript 96 = .ok (.goto (-34), 3) := by decide +kernel
theorem dX6_runScript_99 : decode cX6_runScript 99 = .ok (.iconst (-1), 1) := by decide +kernel
theorem dX6_runScript_100 : decode cX6_runScript 100 = .ok (.ireturn, 1) := by decide +kernel
theorem dX6_withoutLast_0 : decode cX6_withoutLast 0 = .ok (.lload_n 1, 1) := by decide +kernel
theorem dX6_withoutLast_1 : decode cX6_withoutLast 1 = .ok (.lstore_n 3, 1) := by decide +kernel
theorem dX6_withoutLast_2 : decode cX6_withoutLast 2 = .ok (.iconst 0, 1) := by decide +kernel
theorem dX6_withoutLast_3 : decode cX6_withoutLast 3 = .ok (.istore 5, 2) := by decide +kernel
theorem dX6_withoutLast_5 : decode cX6_withoutLast 5 = .ok (.iload 5, 2) := by decide +kernel
theorem dX6_withoutLast_7 : decode cX6_withoutLast 7 = .ok (.iload_n 0, 1) := by decide +kernel
theorem dX6_withoutLast_8 : decode cX6_withoutLast 8 = .ok (.if_icmp .ge 15, 3) := by decide +kernel
theorem dX6_withoutLast_11 : decode cX6_withoutLast 11 = .ok (.lload_n 3, 1) := by decide +kernel
theorem dX6_withoutLast_12 : decode cX6_withoutLast 12 = .ok (.ldc2_w 333, 3) := by decide +kernel
theorem dX6_withoutLast_15 : decode cX6_withoutLast 15 = .ok (.ldiv, 1) := by decide +kernel
theorem dX6_withoutLast_16 : decode cX6_withoutLast 16 = .ok (.lstore_n 3, 1) := by decide +kernel
theorem dX6_withoutLast_17 : decode cX6_withoutLast 17 = .ok (.iinc 5 1, 3) := by decide +kernel
theorem dX6_withoutLast_20 : decode cX6_withoutLast 20 = .ok (.goto (-15), 3) := by decide +kernel
theorem dX6_withoutLast_23 : decode cX6_withoutLast 23 = .ok (.lload_n 3, 1) := by decide +kernel
theorem dX6_withoutLast_24 : decode cX6_withoutLast 24 = .ok (.lreturn, 1) := by decide +kernel
set_option maxRecDepth 20000 in
theorem ggX6_succeeds_X2_tryShift : GoodIn wsX6_succeeds wsX2_tryShift := goodIn_r _ [7, 8, 9, 10, 6, 11, 12, 13, 14, 15, 16, 17, 18, 19, 20, 21, 22, 23, 24, 25, 26, 27, 28, 29, 30, 31, 32, 33, 34, 35, 36, 37, 38, 39, 40, 41, 42, 43, 44, 45, 46, 47, 48, 49, 50, 51, 52, 53, 54, 55, 56, 57, 58, 59, 230, 231, 232, 233, 234, 235, 236, 237, 238, 239, 240, 241, 242, 243, 244, 245] (by decide +kernel) (by decide +kernel)
set_option maxRecDepth 20000 in
theorem gX6_succeeds_X2_tryShift : GoodIn wsX6_succeeds (wsV RX6 122 RX2 yX2_tryShift wsX2_tryShift) := goodIn_app (goodIn_of _ (by decide +kernel)) ggX6_succeeds_X2_tryShift
set_option maxRecDepth 20000 in
theorem ggX6_succeeds_X2_tryGo : GoodIn wsX6_succeeds wsX2_tryGo := goodIn_r _ [63, 64, 65, 66, 6, 67, 13, 68, 69, 70, 71, 12, 14, 15, 16, 17, 18, 19, 72, 73, 74, 75, 20, 21, 22, 23, 29, 30, 31, 32, 33, 76, 77, 78, 79, 80, 81, 25, 82, 83, 84, 85, 37, 86, 59, 87, 88, 89, 90, 50, 91, 92, 93, 94, 95, 96, 97, 98, 99, 100, 101, 102, 103, 104, 105, 106, 107, 108, 109, 110, 51, 111, 112, 113, 114, 115, 116, 117, 118, 119, 120, 121, 122, 123, 124, 125, 126, 127, 128, 129, 130, 39, 230, 231, 232, 233, 234, 235, 236, 237, 238, 239, 240, 241, 242, 243, 244, 245] (by decide +kernel) (by decide +kernel)
set_option maxRecDepth 20000 in
theorem gX6_succeeds_X2_tryGo : GoodIn wsX6_succeeds (wsV RX6 126 RX2 yX2_tryGo wsX2_tryGo) := goodIn_app (goodIn_of _ (by decide +kernel)) ggX6_succeeds_X2_tryGo
set_option maxRecDepth 20000 in
theorem ggX6_succeeds_X2_tryLock : GoodIn wsX6_succeeds wsX2_tryLock := goodIn_r _ [134, 68, 69, 70, 6, 71, 12, 14, 15, 16, 17, 18, 19, 24, 25, 26, 135, 136, 137, 138, 13, 29, 30, 31, 32, 33, 139, 140, 141, 37, 142, 39, 117, 118, 119, 120, 121, 122, 123, 124, 125, 126, 111, 76, 77, 78, 79, 80, 81, 82, 127, 128, 129, 130, 230, 231, 232, 233, 234, 235, 236, 237, 238, 239, 240, 241, 242, 243, 244, 245] (by decide +kernel) (by decide +kernel)
set_option maxRecDepth 20000 in
theorem gX6_succeeds_X2_tryLock : GoodIn wsX6_succeeds (wsV RX6 129 RX2 yX2_tryLock wsX2_tryLock) := goodIn_app (goodIn_of _ (by decide +kernel)) ggX6_succeeds_X2_tryLock
set_option maxRecDepth 20000 in
theorem ggX6_succeeds_X4_finishTurn : GoodIn wsX6_succeeds wsX4_finishTurn := goodIn_r _ [147, 148, 149, 150, 151, 15, 16, 6, 17, 18, 19, 152, 153, 154, 146, 155, 156, 157, 158, 159, 160, 161, 162, 163, 164, 165, 166, 9, 10, 11, 12, 13, 14, 20, 21, 22, 23, 24, 25, 26, 27, 28, 29, 30, 31, 32, 33, 34, 35, 36, 37, 38, 39, 40, 41, 167, 168, 169, 170, 171, 50, 172, 173, 174, 175, 51, 116, 59, 111, 176, 47, 48, 49, 52, 53, 54, 55, 56, 57, 58, 177, 77, 78, 79, 80, 81, 82, 178, 84, 85, 86, 87, 88, 89, 90, 91, 92, 93, 94, 95, 96, 97, 179, 180, 181, 182, 112, 113, 114, 115, 98, 99, 100, 101, 102, 183, 184, 185, 186, 187, 188, 189, 190, 43, 44, 45, 46, 191, 192, 193, 194, 195, 196, 197, 198, 199, 200, 201, 202, 203, 204, 205, 206, 207, 104, 105, 106, 107, 108, 109, 110, 117, 118, 119, 120, 121, 122, 123, 124, 125, 126, 76, 127, 128, 129, 130, 246, 247, 248, 249, 250, 230, 231, 232, 233, 234, 235, 236, 237, 238, 239, 240, 241, 242, 243, 244, 245] (by decide +kernel) (by decide +kernel)
set_option maxRecDepth 20000 in
theorem gX6_succeeds_X4_finishTurn : GoodIn wsX6_succeeds (wsV RX6 269 RX4 yX4_finishTurn wsX4_finishTurn) := goodIn_app (goodIn_of _ (by decide +kernel)) ggX6_succeeds_X4_finishTurn
set_option maxRecDepth 20000 in
theorem ggX6_succeeds_X2_reaches : GoodIn wsX6_succeeds wsX2_reaches := goodIn_r _ [75, 20, 21, 22, 6, 23, 18, 29, 30, 31, 32, 33, 76, 77, 78, 79, 80, 81, 25, 82, 83, 84, 85, 37, 86, 59, 87, 88, 89, 90, 50, 91, 92, 93, 94, 95, 96, 97, 98, 99, 100, 101, 102, 230, 231, 232, 233, 234, 235, 236, 237, 238, 239, 240, 241, 242, 243, 244, 245] (by decide +kernel) (by decide +kernel)
set_option maxRecDepth 20000 in
theorem gX6_succeeds_X2_reaches : GoodIn wsX6_succeeds (wsV RX6 338 RX2 yX2_reaches wsX2_reaches) := goodIn_app (goodIn_of _ (by decide +kernel)) ggX6_succeeds_X2_reaches
set_option maxRecDepth 20000 in
theorem ggX6_succeeds_X2_hasPlayer : GoodIn wsX6_succeeds wsX2_hasPlayer := goodIn_r _ [23, 18, 230, 231, 232, 233, 234, 235, 236, 237] (by decide +kernel) (by decide +kernel)
set_option maxRecDepth 20000 in
theorem gX6_succeeds_X2_hasPlayer : GoodIn wsX6_succeeds (wsV RX6 150 RX2 yX2_hasPlayer wsX2_hasPlayer) := goodIn_app (goodIn_of _ (by decide +kernel)) ggX6_succeeds_X2_hasPlayer
set_option maxRecDepth 20000 in
theorem ggX6_succeeds_X2_boardOf : GoodIn wsX6_succeeds wsX2_boardOf := goodIn_r _ [32, 33, 230, 231, 232, 233, 234, 235, 236, 237] (by decide +kernel) (by decide +kernel)
set_option maxRecDepth 20000 in
theorem gX6_succeeds_X2_boardOf : GoodIn wsX6_succeeds (wsV RX6 161 RX2 yX2_boardOf wsX2_boardOf) := goodIn_app (goodIn_of _ (by decide +kernel)) ggX6_succeeds_X2_boardOf
set_option maxRecDepth 20000 in
theorem ggX6_succeeds_X0_taken : GoodIn wsX6_succeeds wsX0_taken := goodIn_r _ [126, 111, 238, 239, 240, 241, 242, 243, 244, 245] (by decide +kernel) (by decide +kernel)
set_option maxRecDepth 20000 in
theorem gX6_succeeds_X0_taken : GoodIn wsX6_succeeds (wsV RX6 180 RX0 yX0_taken wsX0_taken) := goodIn_app (goodIn_of _ (by decide +kernel)) ggX6_succeeds_X0_taken
set_option maxRecDepth 20000 in
theorem ggX6_succeeds_X6_isLine : GoodIn wsX6_succeeds wsX6_isLine := goodIn_r _ [26] (by decide +kernel) (by decide +kernel)
set_option maxRecDepth 20000 in
theorem gX6_succeeds_X6_isLine : GoodIn wsX6_succeeds (va_wsS RX6 219 yX6_isLine wsX6_isLine) := goodIn_app (goodIn_of _ (by decide +kernel)) ggX6_succeeds_X6_isLine
set_option maxRecDepth 20000 in
theorem ggX6_succeeds_X0_lockedLine : GoodIn wsX6_succeeds wsX0_lockedLine := goodIn_r _ [216, 39, 238, 239, 240, 241, 242, 243, 244, 245] (by decide +kernel) (by decide +kernel)
set_option maxRecDepth 20000 in
theorem gX6_succeeds_X0_lockedLine : GoodIn wsX6_succeeds (wsV RX6 189 RX0 yX0_lockedLine wsX0_lockedLine) := goodIn_app (goodIn_of _ (by decide +kernel)) ggX6_succeeds_X0_lockedLine
set_option maxRecDepth 20000 in
theorem ggX6_succeeds_X2_whoseTurn : GoodIn wsX6_succeeds wsX2_whoseTurn := goodIn_r _ [202, 19, 13, 230, 231, 232, 233, 234, 235, 236, 237] (by decide +kernel) (by decide +kernel)
set_option maxRecDepth 20000 in
theorem gX6_succeeds_X2_whoseTurn : GoodIn wsX6_succeeds (wsV RX6 133 RX2 yX2_whoseTurn wsX2_whoseTurn) := goodIn_app (goodIn_of _ (by decide +kernel)) ggX6_succeeds_X2_whoseTurn
set_option maxRecDepth 20000 in
theorem ggX6_succeeds_X2_ended : GoodIn wsX6_succeeds wsX2_ended := goodIn_r _ [221, 121, 230, 231, 232, 233, 234, 235, 236, 237] (by decide +kernel) (by decide +kernel)
set_option maxRecDepth 20000 in
theorem gX6_succeeds_X2_ended : GoodIn wsX6_succeeds (wsV RX6 139 RX2 yX2_ended wsX2_ended) := goodIn_app (goodIn_of _ (by decide +kernel)) ggX6_succeeds_X2_ended
theorem dX6_succeeds_0 : decode cX6_succeeds 0 = .ok (.iload_n 1, 1) := by decide +kernel
theorem dX6_succeeds_1 : decode cX6_succeeds 1 = .ok (.bipush 100, 2) := by decide +kernel
theorem dX6_succeeds_3 : decode cX6_succeeds 3 = .ok (.idiv, 1) := by decide +kernel
theorem dX6_succeeds_4 : decode cX6_succeeds 4 = .ok (.bipush 10, 2) := by decide +kernel
theorem dX6_succeeds_6 : decode cX6_succeeds 6 = .ok (.irem, 1) := by decide +kernel
theorem dX6_succeeds_7 : decode cX6_succeeds 7 = .ok (.istore_n 2, 1) := by decide +kernel
theorem dX6_succeeds_8 : decode cX6_succeeds 8 = .ok (.iload_n 1, 1) := by decide +kernel
theorem dX6_succeeds_9 : decode cX6_succeeds 9 = .ok (.bipush 10, 2) := by decide +kernel
theorem dX6_succeeds_11 : decode cX6_succeeds 11 = .ok (.idiv, 1) := by decide +kernel
theorem dX6_succeeds_12 : decode cX6_succeeds 12 = .ok (.bipush 10, 2) := by decide +kernel
theorem dX6_succeeds_14 : decode cX6_succeeds 14 = .ok (.irem, 1) := by decide +kernel
theorem dX6_succeeds_15 : decode cX6_succeeds 15 = .ok (.istore_n 3, 1) := by decide +kernel
theorem dX6_succeeds_16 : decode cX6_succeeds 16 = .ok (.iload_n 1, 1) := by decide +kernel
theorem dX6_succeeds_17 : decode cX6_succeeds 17 = .ok (.bipush 10, 2) := by decide +kernel
theorem dX6_succeeds_19 : decode cX6_succeeds 19 = .ok (.irem, 1) := by decide +kernel
theorem dX6_succeeds_20 : decode cX6_succeeds 20 = .ok (.istore 4, 2) := by decide +kernel
theorem dX6_succeeds_22 : decode cX6_succeeds 22 = .ok (.iload_n 2, 1) := by decide +kernel
theorem dX6_succeeds_23 : decode cX6_succeeds 23 = .ok (.ifCond .ne 11, 3) := by decide +kernel
theorem dX6_succeeds_26 : decode cX6_succeeds 26 = .ok (.iload_n 3, 1) := by decide +kernel
theorem dX6_succeeds_27 : decode cX6_succeeds 27 = .ok (.ifCond .ne 7, 3) := by decide +kernel
theorem dX6_succeeds_30 : decode cX6_succeeds 30 = .ok (.iconst 1, 1) := by decide +kernel
theorem dX6_succeeds_31 : decode cX6_succeeds 31 = .ok (.goto 4, 3) := by decide +kernel
theorem dX6_succeeds_34 : decode cX6_succeeds 34 = .ok (.iconst 0, 1) := by decide +kernel
theorem dX6_succeeds_35 : decode cX6_succeeds 35 = .ok (.istore 5, 2) := by decide +kernel
theorem dX6_succeeds_37 : decode cX6_succeeds 37 = .ok (.iload_n 1, 1) := by decide +kernel
theorem dX6_succeeds_38 : decode cX6_succeeds 38 = .ok (.sipush 1000, 3) := by decide +kernel
theorem dX6_succeeds_41 : decode cX6_succeeds 41 = .ok (.idiv, 1) := by decide +kernel
theorem dX6_succeeds_42 : decode cX6_succeeds 42 = .ok (.tableswitch 299 1 9 #[50, 62, 85, 108, 139, 162, 199, 243, 278], 50) := by decide +kernel
theorem dX6_succeeds_92 : decode cX6_succeeds 92 = .ok (.aload_n 0, 1) := by decide +kernel
theorem dX6_succeeds_93 : decode cX6_succeeds 93 = .ok (.getfield 23, 3) := by decide +kernel
theorem dX6_succeeds_96 : decode cX6_succeeds 96 = .ok (.iload_n 2, 1) := by decide +kernel
theorem dX6_succeeds_97 : decode cX6_succeeds 97 = .ok (.iload_n 3, 1) := by decide +kernel
theorem dX6_succeeds_98 : decode cX6_succeeds 98 = .ok (.iload 4, 2) := by decide +kernel
theorem dX6_succeeds_100 : decode cX6_succeeds 100 = .ok (.invokevirtual 122, 3) := by decide +kernel
theorem dX6_succeeds_103 : decode cX6_succeeds 103 = .ok (.ireturn, 1) := by decide +kernel
theorem dX6_succeeds_104 : decode cX6_succeeds 104 = .ok (.iload 5, 2) := by decide +kernel
theorem dX6_succeeds_106 : decode cX6_succeeds 106 = .ok (.ifCond .eq 19, 3) := by decide +kernel
theorem dX6_succeeds_109 : decode cX6_succeeds 109 = .ok (.aload_n 0, 1) := by decide +kernel
theorem dX6_succeeds_110 : decode cX6_succeeds 110 = .ok (.getfield 23, 3) := by decide +kernel
theorem dX6_succeeds_113 : decode cX6_succeeds 113 = .ok (.iload 4, 2) := by decide +kernel
theorem dX6_succeeds_115 : decode cX6_succeeds 115 = .ok (.invokevirtual 126, 3) := by decide +kernel
theorem dX6_succeeds_118 : decode cX6_succeeds 118 = .ok (.ifCond .eq 7, 3) := by decide +kernel
theorem dX6_succeeds_121 : decode cX6_succeeds 121 = .ok (.iconst 1, 1) := by decide +kernel
theorem dX6_succeeds_122 : decode cX6_succeeds 122 = .ok (.goto 4, 3) := by decide +kernel
theorem dX6_succeeds_125 : decode cX6_succeeds 125 = .ok (.iconst 0, 1) := by decide +kernel
theorem dX6_succeeds_126 : decode cX6_succeeds 126 = .ok (.ireturn, 1) := by decide +kernel
theorem dX6_succeeds_127 : decode cX6_succeeds 127 = .ok (.iload 5, 2) := by decide +kernel
theorem dX6_succeeds_129 : decode cX6_succeeds 129 = .ok (.ifCond .eq 19, 3) := by decide +kernel
theorem dX6_succeeds_132 : decode cX6_succeeds 132 = .ok (.aload_n 0, 1) := by decide +kernel
theorem dX6_succeeds_133 : decode cX6_succeeds 133 = .ok (.getfield 23, 3) := by decide +kernel
theorem dX6_succeeds_136 : decode cX6_succeeds 136 = .ok (.iload 4, 2) := by decide +kernel
theorem dX6_succeeds_138 : decode cX6_succeeds 138 = .ok (.invokevirtual 129, 3) := by decide +kernel
theorem dX6_succeeds_141 : decode cX6_succeeds 141 = .ok (.ifCond .eq 7, 3) := by decide +kernel
theorem dX6_succeeds_144 : decode cX6_succeeds 144 = .ok (.iconst 1, 1) := by decide +kernel
theorem dX6_succeeds_145 : decode cX6_succeeds 145 = .ok (.goto 4, 3) := by decide +kernel
theorem dX6_succeeds_148 : decode cX6_succeeds 148 = .ok (.iconst 0, 1) := by decide +kernel
theorem dX6_succeeds_149 : decode cX6_succeeds 149 = .ok (.ireturn, 1) := by decide +kernel
theorem dX6_succeeds_150 : decode cX6_succeeds 150 = .ok (.iload 5, 2) := by decide +kernel
theorem dX6_succeeds_152 : decode cX6_succeeds 152 = .ok (.ifCond .eq 27, 3) := by decide +kernel
theorem dX6_succeeds_155 : decode cX6_succeeds 155 = .ok (.iload 4, 2) := by decide +kernel
theorem dX6_succeeds_157 : decode cX6_succeeds 157 = .ok (.ifCond .ne 22, 3) := by decide +kernel
theorem dX6_succeeds_160 : decode cX6_succeeds 160 = .ok (.aload_n 0, 1) := by decide +kernel
theorem dX6_succeeds_161 : decode cX6_succeeds 161 = .ok (.getfield 29, 3) := by decide +kernel
theorem dX6_succeeds_164 : decode cX6_succeeds 164 = .ok (.aload_n 0, 1) := by decide +kernel
theorem dX6_succeeds_165 : decode cX6_succeeds 165 = .ok (.getfield 23, 3) := by decide +kernel
theorem dX6_succeeds_168 : decode cX6_succeeds 168 = .ok (.invokevirtual 269, 3) := by decide +kernel
theorem dX6_succeeds_171 : decode cX6_succeeds 171 = .ok (.iconst (-1), 1) := by decide +kernel
theorem dX6_succeeds_172 : decode cX6_succeeds 172 = .ok (.if_icmp .eq 7, 3) := by decide +kernel
theorem dX6_succeeds_175 : decode cX6_succeeds 175 = .ok (.iconst 1, 1) := by decide +kernel
theorem dX6_succeeds_176 : decode cX6_succeeds 176 = .ok (.goto 4, 3) := by decide +kernel
theorem dX6_succeeds_179 : decode cX6_succeeds 179 = .ok (.iconst 0, 1) := by decide +kernel
theorem dX6_succeeds_180 : decode cX6_succeeds 180 = .ok (.ireturn, 1) := by decide +kernel
theorem dX6_succeeds_181 : decode cX6_succeeds 181 = .ok (.iload 4, 2) := by decide +kernel
theorem dX6_succeeds_183 : decode cX6_succeeds 183 = .ok (.ifCond .ne 19, 3) := by decide +kernel
theorem dX6_succeeds_186 : decode cX6_succeeds 186 = .ok (.aload_n 0, 1) := by decide +kernel
theorem dX6_succeeds_187 : decode cX6_succeeds 187 = .ok (.getfield 23, 3) := by decide +kernel
theorem dX6_succeeds_190 : decode cX6_succeeds 190 = .ok (.iload_n 2, 1) := by decide +kernel
theorem dX6_succeeds_191 : decode cX6_succeeds 191 = .ok (.iload_n 3, 1) := by decide +kernel
theorem dX6_succeeds_192 : decode cX6_succeeds 192 = .ok (.invokevirtual 338, 3) := by decide +kernel
theorem dX6_succeeds_195 : decode cX6_succeeds 195 = .ok (.ifCond .eq 7, 3) := by decide +kernel
theorem dX6_succeeds_198 : decode cX6_succeeds 198 = .ok (.iconst 1, 1) := by decide +kernel
theorem dX6_succeeds_199 : decode cX6_succeeds 199 = .ok (.goto 4, 3) := by decide +kernel
theorem dX6_succeeds_202 : decode cX6_succeeds 202 = .ok (.iconst 0, 1) := by decide +kernel
theorem dX6_succeeds_203 : decode cX6_succeeds 203 = .ok (.ireturn, 1) := by decide +kernel
theorem dX6_succeeds_204 : decode cX6_succeeds 204 = .ok (.iload_n 3, 1) := by decide +kernel
theorem dX6_succeeds_205 : decode cX6_succeeds 205 = .ok (.ifCond .ne 34, 3) := by decide +kernel
theorem dX6_succeeds_208 : decode cX6_succeeds 208 = .ok (.aload_n 0, 1) := by decide +kernel
theorem dX6_succeeds_209 : decode cX6_succeeds 209 = .ok (.getfield 23, 3) := by decide +kernel
theorem dX6_succeeds_212 : decode cX6_succeeds 212 = .ok (.iload_n 2, 1) := by decide +kernel
theorem dX6_succeeds_213 : decode cX6_succeeds 213 = .ok (.invokevirtual 150, 3) := by decide +kernel
theorem dX6_succeeds_216 : decode cX6_succeeds 216 = .ok (.ifCond .eq 23, 3) := by decide +kernel
theorem dX6_succeeds_219 : decode cX6_succeeds 219 = .ok (.aload_n 0, 1) := by decide +kernel
theorem dX6_succeeds_220 : decode cX6_succeeds 220 = .ok (.getfield 23, 3) := by decide +kernel
theorem dX6_succeeds_223 : decode cX6_succeeds 223 = .ok (.iload_n 2, 1) := by decide +kernel
theorem dX6_succeeds_224 : decode cX6_succeeds 224 = .ok (.invokevirtual 161, 3) := by decide +kernel
theorem dX6_succeeds_227 : decode cX6_succeeds 227 = .ok (.invokevirtual 180, 3) := by decide +kernel
theorem dX6_succeeds_230 : decode cX6_succeeds 230 = .ok (.iload 4, 2) := by decide +kernel
theorem dX6_succeeds_232 : decode cX6_succeeds 232 = .ok (.if_icmp .lt 7, 3) := by decide +kernel
theorem dX6_succeeds_235 : decode cX6_succeeds 235 = .ok (.iconst 1, 1) := by decide +kernel
theorem dX6_succeeds_236 : decode cX6_succeeds 236 = .ok (.goto 4, 3) := by decide +kernel
theorem dX6_succeeds_239 : decode cX6_succeeds 239 = .ok (.iconst 0, 1) := by decide +kernel
theorem dX6_succeeds_240 : decode cX6_succeeds 240 = .ok (.ireturn, 1) := by decide +kernel
theorem dX6_succeeds_241 : decode cX6_succeeds 241 = .ok (.iload 4, 2) := by decide +kernel
theorem dX6_succeeds_243 : decode cX6_succeeds 243 = .ok (.ifCond .ne 40, 3) := by decide +kernel
theorem dX6_succeeds_246 : decode cX6_succeeds 246 = .ok (.aload_n 0, 1) := by decide +kernel
theorem dX6_succeeds_247 : decode cX6_succeeds 247 = .ok (.getfield 23, 3) := by decide +kernel
theorem dX6_succeeds_250 : decode cX6_succeeds 250 = .ok (.iload_n 2, 1) := by decide +kernel
theorem dX6_succeeds_251 : decode cX6_succeeds 251 = .ok (.invokevirtual 150, 3) := by decide +kernel
theorem dX6_succeeds_254 : decode cX6_succeeds 254 = .ok (.ifCond .eq 29, 3) := by decide +kernel
theorem dX6_succeeds_257 : decode cX6_succeeds 257 = .ok (.iload_n 3, 1) := by decide +kernel
theorem dX6_succeeds_258 : decode cX6_succeeds 258 = .ok (.invokestatic 219, 3) := by decide +kernel
theorem dX6_succeeds_261 : decode cX6_succeeds 261 = .ok (.ifCond .eq 22, 3) := by decide +kernel
theorem dX6_succeeds_264 : decode cX6_succeeds 264 = .ok (.aload_n 0, 1) := by decide +kernel
theorem dX6_succeeds_265 : decode cX6_succeeds 265 = .ok (.getfield 23, 3) := by decide +kernel
theorem dX6_succeeds_268 : decode cX6_succeeds 268 = .ok (.iload_n 2, 1) := by decide +kernel
theorem dX6_succeeds_269 : decode cX6_succeeds 269 = .ok (.invokevirtual 161, 3) := by decide +kernel
theorem dX6_succeeds_272 : decode cX6_succeeds 272 = .ok (.invokevirtual 189, 3) := by decide +kernel
theorem dX6_succeeds_275 : decode cX6_succeeds 275 = .ok (.iload_n 3, 1) := by decide +kernel
theorem dX6_succeeds_276 : decode cX6_succeeds 276 = .ok (.if_icmp .ne 7, 3) := by decide +kernel
theorem dX6_succeeds_279 : decode cX6_succeeds 279 = .ok (.iconst 1, 1) := by decide +kernel
theorem dX6_succeeds_280 : decode cX6_succeeds 280 = .ok (.goto 4, 3) := by decide +kernel
theorem dX6_succeeds_283 : decode cX6_succeeds 283 = .ok (.iconst 0, 1) := by decide +kernel
theorem dX6_succeeds_284 : decode cX6_succeeds 284 = .ok (.ireturn, 1) := by decide +kernel
theorem dX6_succeeds_285 : decode cX6_succeeds 285 = .ok (.iload 5, 2) := by decide +kernel
theorem dX6_succeeds_287 : decode cX6_succeeds 287 = .ok (.ifCond .eq 31, 3) := by decide +kernel
theorem dX6_succeeds_290 : decode cX6_succeeds 290 = .ok (.aload_n 0, 1) := by decide +kernel
theorem dX6_succeeds_291 : decode cX6_succeeds 291 = .ok (.getfield 23, 3) := by decide +kernel
theorem dX6_succeeds_294 : decode cX6_succeeds 294 = .ok (.iload 4, 2) := by decide +kernel
theorem dX6_succeeds_296 : decode cX6_succeeds 296 = .ok (.invokevirtual 150, 3) := by decide +kernel
theorem dX6_succeeds_299 : decode cX6_succeeds 299 = .ok (.ifCond .eq 19, 3) := by decide +kernel
theorem dX6_succeeds_302 : decode cX6_succeeds 302 = .ok (.aload_n 0, 1) := by decide +kernel
theorem dX6_succeeds_303 : decode cX6_succeeds 303 = .ok (.getfield 23, 3) := by decide +kernel
theorem dX6_succeeds_306 : decode cX6_succeeds 306 = .ok (.invokevirtual 133, 3) := by decide +kernel
theorem dX6_succeeds_309 : decode cX6_succeeds 309 = .ok (.iload 4, 2) := by decide +kernel
theorem dX6_succeeds_311 : decode cX6_succeeds 311 = .ok (.if_icmp .ne 7, 3) := by decide +kernel
theorem dX6_succeeds_314 : decode cX6_succeeds 314 = .ok (.iconst 1, 1) := by decide +kernel
theorem dX6_succeeds_315 : decode cX6_succeeds 315 = .ok (.goto 4, 3) := by decide +kernel
theorem dX6_succeeds_318 : decode cX6_succeeds 318 = .ok (.iconst 0, 1) := by decide +kernel
theorem dX6_succeeds_319 : decode cX6_succeeds 319 = .ok (.ireturn, 1) := by decide +kernel
theorem dX6_succeeds_320 : decode cX6_succeeds 320 = .ok (.aload_n 0, 1) := by decide +kernel
theorem dX6_succeeds_321 : decode cX6_succeeds 321 = .ok (.getfield 23, 3) := by decide +kernel
theorem dX6_succeeds_324 : decode cX6_succeeds 324 = .ok (.invokevirtual 139, 3) := by decide +kernel
theorem dX6_succeeds_327 : decode cX6_succeeds 327 = .ok (.iload_n 1, 1) := by decide +kernel
theorem dX6_succeeds_328 : decode cX6_succeeds 328 = .ok (.sipush 1000, 3) := by decide +kernel
theorem dX6_succeeds_331 : decode cX6_succeeds 331 = .ok (.irem, 1) := by decide +kernel
theorem dX6_succeeds_332 : decode cX6_succeeds 332 = .ok (.if_icmp .gt 7, 3) := by decide +kernel
theorem dX6_succeeds_335 : decode cX6_succeeds 335 = .ok (.iconst 1, 1) := by decide +kernel
theorem dX6_succeeds_336 : decode cX6_succeeds 336 = .ok (.goto 4, 3) := by decide +kernel
theorem dX6_succeeds_339 : decode cX6_succeeds 339 = .ok (.iconst 0, 1) := by decide +kernel
theorem dX6_succeeds_340 : decode cX6_succeeds 340 = .ok (.ireturn, 1) := by decide +kernel
theorem dX6_succeeds_341 : decode cX6_succeeds 341 = .ok (.iconst 0, 1) := by decide +kernel
theorem dX6_succeeds_342 : decode cX6_succeeds 342 = .ok (.ireturn, 1) := by decide +kernel
set_option maxRecDepth 20000 in
theorem ggX6_simulate_X2_players : GoodIn wsX6_simulate wsX2_players := goodIn_r _ [10, 11, 256, 257, 258, 259, 260, 261, 262, 263] (by decide +kernel) (by decide +kernel)
set_option maxRecDepth 20000 in
theorem gX6_simulate_X2_players : GoodIn wsX6_simulate (wsV RX6 132 RX2 yX2_players wsX2_players) := goodIn_app (goodIn_of _ (by decide +kernel)) ggX6_simulate_X2_players
set_option maxRecDepth 20000 in
theorem ggX6_simulate_X2_copyFrom : GoodIn wsX6_simulate wsX2_copyFrom := goodIn_r _ [15, 16, 17, 18, 19, 20, 21, 11, 22, 23, 24, 25, 26, 27, 28, 29, 30, 31, 32, 33, 34, 35, 36, 37, 38, 39, 40, 256, 257, 258, 259, 260, 261, 262, 263, 264, 265, 266, 267, 268, 269, 270, 271] (by decide +kernel) (by decide +kernel)
set_option maxRecDepth 20000 in
theorem gX6_simulate_X2_copyFrom : GoodIn wsX6_simulate (wsV RX6 299 RX2 yX2_copyFrom wsX2_copyFrom) := goodIn_app (goodIn_of _ (by decide +kernel)) ggX6_simulate_X2_copyFrom
set_option maxRecDepth 20000 in
theorem ggX6_simulate_X1_startWith : GoodIn wsX6_simulate wsX1_startWith := goodIn_r _ [45, 46, 272] (by decide +kernel) (by decide +kernel)
set_option maxRecDepth 20000 in
theorem gX6_simulate_X1_startWith : GoodIn wsX6_simulate (wsV RX6 90 RX1 yX1_startWith wsX1_startWith) := goodIn_app (goodIn_of _ (by decide +kernel)) ggX6_simulate_X1_startWith
set_option maxRecDepth 20000 in
theorem ggX6_simulate_X2_isRunning : GoodIn wsX6_simulate wsX2_isRunning := goodIn_r _ [50, 11, 25, 256, 257, 258, 259, 260, 261, 262, 263] (by decide +kernel) (by decide +kernel)
set_option maxRecDepth 20000 in
theorem gX6_simulate_X2_isRunning : GoodIn wsX6_simulate (wsV RX6 264 RX2 yX2_isRunning wsX2_isRunning) := goodIn_app (goodIn_of _ (by decide +kernel)) ggX6_simulate_X2_isRunning
set_option maxRecDepth 20000 in
theorem ggX6_simulate_X1_next : GoodIn wsX6_simulate wsX1_next := goodIn_r _ [54, 46, 55, 56, 272] (by decide +kernel) (by decide +kernel)
set_option maxRecDepth 20000 in
theorem gX6_simulate_X1_next : GoodIn wsX6_simulate (wsV RX6 343 RX1 yX1_next wsX1_next) := goodIn_app (goodIn_of _ (by decide +kernel)) ggX6_simulate_X1_next
set_option maxRecDepth 20000 in
theorem ggX6_simulate_X6_simulateMove : GoodIn wsX6_simulate wsX6_simulateMove := goodIn_r _ [61, 4, 62, 63, 64, 65, 9, 66, 23, 67, 68, 69, 70, 71, 72, 73, 74, 22, 75, 48, 49, 50, 11, 25, 76, 77, 78, 79, 80, 60, 81, 82, 83, 84, 85, 86, 87, 21, 88, 89, 90, 30, 91, 38, 39, 40, 92, 93, 94, 95, 96, 97, 98, 99, 32, 34, 100, 101, 102, 103, 104, 105, 106, 36, 107, 108, 109, 110, 111, 112, 113, 114, 115, 116, 117, 118, 119, 120, 121, 7, 8, 10, 122, 123, 124, 125, 126, 127, 128, 129, 28, 29, 31, 33, 18, 19, 20, 35, 37, 130, 131, 132, 133, 134, 16, 135, 136, 137, 138, 139, 140, 141, 142, 143, 144, 145, 146, 147, 148, 149, 150, 151, 152, 153, 154, 155, 156, 157, 158, 159, 160, 161, 162, 163, 164, 165, 166, 167, 168, 169, 170, 171, 172, 173, 174, 175, 176, 177, 178, 179, 180, 181, 182, 183, 184, 185, 186, 187, 188, 189, 190, 191, 192, 193, 194, 195, 196, 197, 198, 199, 200, 24, 26, 201, 202, 203, 204, 205, 206, 207, 208, 209, 210, 211, 212, 213, 214, 215, 216, 217, 218, 219, 220, 221, 222, 223, 224, 225, 226, 227, 228, 229, 230, 231, 232, 233, 234, 235, 236, 237, 238, 239, 248, 249, 250, 251, 252, 253, 254, 255, 256, 257, 258, 259, 260, 261, 262, 263, 264, 265, 266, 267, 268, 269, 270, 271, 273, 274, 275, 276, 277] (by decide +kernel) (by decide +kernel)
set_option maxRecDepth 20000 in
theorem gX6_simulate_X6_simulateMove : GoodIn wsX6_simulate (wsV RX6 346 RX6 yX6_simulateMove wsX6_simulateMove) := goodIn_app (goodIn_of _ (by decide +kernel)) ggX6_simulate_X6_simulateMove
set_option maxRecDepth 20000 in
theorem ggX6_simulate_X2_takenByAll : GoodIn wsX6_simulate wsX2_takenByAll := goodIn_r _ [243, 11, 84, 85, 86, 9, 87, 21, 201, 202, 203, 30, 204, 37, 256, 257, 258, 259, 260, 261, 262, 263, 264, 265, 266, 267, 268, 269, 270, 271] (by decide +kernel) (by decide +kernel)
set_option maxRecDepth 20000 in
theorem gX6_simulate_X2_takenByAll : GoodIn wsX6_simulate (wsV RX6 322 RX2 yX2_takenByAll wsX2_takenByAll) := goodIn_app (goodIn_of _ (by decide +kernel)) ggX6_simulate_X2_takenByAll
set_option maxRecDepth 20000 in
theorem ggX6_simulate_X2_ended : GoodIn wsX6_simulate wsX2_ended := goodIn_r _ [247, 24, 256, 257, 258, 259, 260, 261, 262, 263] (by decide +kernel) (by decide +kernel)
set_option maxRecDepth 20000 in
theorem gX6_simulate_X2_ended : GoodIn wsX6_simulate (wsV RX6 139 RX2 yX2_ended wsX2_ended) := goodIn_app (goodIn_of _ (by decide +kernel)) ggX6_simulate_X2_ended
theorem dX6_simulate_0 : decode cX6_simulate 0 = .ok (.iload_n 3, 1) := by decide +kernel
theorem dX6_simulate_1 : decode cX6_simulate 1 = .ok (.iconst 1, 1) := by decide +kernel
theorem dX6_simulate_2 : decode cX6_simulate 2 = .ok (.if_icmp .lt 9, 3) := by decide +kernel
theorem dX6_simulate_5 : decode cX6_simulate 5 = .ok (.iload_n 3, 1) := by decide +kernel
theorem dX6_simulate_6 : decode cX6_simulate 6 = .ok (.bipush 80, 2) := by decide +kernel
theorem dX6_simulate_8 : decode cX6_simulate 8 = .ok (.if_icmp .le 14, 3) := by decide +kernel
theorem dX6_simulate_11 : decode cX6_simulate 11 = .ok (.new 55, 3) := by decide +kernel
theorem dX6_simulate_14 : decode cX6_simulate 14 = .ok (.dup, 1) := by decide +kernel
theorem dX6_simulate_15 : decode cX6_simulate 15 = .ok (.ldc_w 341, 3) := by decide +kernel
theorem dX6_simulate_18 : decode cX6_simulate 18 = .ok (.invokespecial 59, 3) := by decide +kernel
theorem dX6_simulate_21 : decode cX6_simulate 21 = .ok (.athrow, 1) := by decide +kernel
theorem dX6_simulate_22 : decode cX6_simulate 22 = .ok (.aload_n 0, 1) := by decide +kernel
theorem dX6_simulate_23 : decode cX6_simulate 23 = .ok (.getfield 19, 3) := by decide +kernel
theorem dX6_simulate_26 : decode cX6_simulate 26 = .ok (.invokevirtual 132, 3) := by decide +kernel
theorem dX6_simulate_29 : decode cX6_simulate 29 = .ok (.ifCond .ne 5, 3) := by decide +kernel
theorem dX6_simulate_32 : decode cX6_simulate 32 = .ok (.iconst 0, 1) := by decide +kernel
theorem dX6_simulate_33 : decode cX6_simulate 33 = .ok (.ireturn, 1) := by decide +kernel
theorem dX6_simulate_34 : decode cX6_simulate 34 = .ok (.aload_n 0, 1) := by decide +kernel
theorem dX6_simulate_35 : decode cX6_simulate 35 = .ok (.getfield 23, 3) := by decide +kernel
theorem dX6_simulate_38 : decode cX6_simulate 38 = .ok (.aload_n 0, 1) := by decide +kernel
theorem dX6_simulate_39 : decode cX6_simulate 39 = .ok (.getfield 19, 3) := by decide +kernel
theorem dX6_simulate_42 : decode cX6_simulate 42 = .ok (.invokevirtual 299, 3) := by decide +kernel
theorem dX6_simulate_45 : decode cX6_simulate 45 = .ok (.aload_n 0, 1) := by decide +kernel
theorem dX6_simulate_46 : decode cX6_simulate 46 = .ok (.getfield 36, 3) := by decide +kernel
theorem dX6_simulate_49 : decode cX6_simulate 49 = .ok (.lload_n 1, 1) := by decide +kernel
theorem dX6_simulate_50 : decode cX6_simulate 50 = .ok (.invokevirtual 90, 3) := by decide +kernel
theorem dX6_simulate_53 : decode cX6_simulate 53 = .ok (.iconst 0, 1) := by decide +kernel
theorem dX6_simulate_54 : decode cX6_simulate 54 = .ok (.istore 4, 2) := by decide +kernel
theorem dX6_simulate_56 : decode cX6_simulate 56 = .ok (.iload 4, 2) := by decide +kernel
theorem dX6_simulate_58 : decode cX6_simulate 58 = .ok (.iload_n 3, 1) := by decide +kernel
theorem dX6_simulate_59 : decode cX6_simulate 59 = .ok (.if_icmp .ge 30, 3) := by decide +kernel
theorem dX6_simulate_62 : decode cX6_simulate 62 = .ok (.aload_n 0, 1) := by decide +kernel
theorem dX6_simulate_63 : decode cX6_simulate 63 = .ok (.getfield 23, 3) := by decide +kernel
theorem dX6_simulate_66 : decode cX6_simulate 66 = .ok (.invokevirtual 264, 3) := by decide +kernel
theorem dX6_simulate_69 : decode cX6_simulate 69 = .ok (.ifCond .eq 20, 3) := by decide +kernel
theorem dX6_simulate_72 : decode cX6_simulate 72 = .ok (.aload_n 0, 1) := by decide +kernel
theorem dX6_simulate_73 : decode cX6_simulate 73 = .ok (.aload_n 0, 1) := by decide +kernel
theorem dX6_simulate_74 : decode cX6_simulate 74 = .ok (.getfield 36, 3) := by decide +kernel
theorem dX6_simulate_77 : decode cX6_simulate 77 = .ok (.invokevirtual 343, 3) := by decide +kernel
theorem dX6_simulate_80 : decode cX6_simulate 80 = .ok (.invokevirtual 346, 3) := by decide +kernel
theorem dX6_simulate_83 : decode cX6_simulate 83 = .ok (.iinc 4 1, 3) := by decide +kernel
theorem dX6_simulate_86 : decode cX6_simulate 86 = .ok (.goto (-30), 3) := by decide +kernel
theorem dX6_simulate_89 : decode cX6_simulate 89 = .ok (.sipush 1000, 3) := by decide +kernel
theorem dX6_simulate_92 : decode cX6_simulate 92 = .ok (.aload_n 0, 1) := by decide +kernel
theorem dX6_simulate_93 : decode cX6_simulate 93 = .ok (.getfield 23, 3) := by decide +kernel
theorem dX6_simulate_96 : decode cX6_simulate 96 = .ok (.invokevirtual 322, 3) := by decide +kernel
theorem dX6_simulate_99 : decode cX6_simulate 99 = .ok (.imul, 1) := by decide +kernel
theorem dX6_simulate_100 : decode cX6_simulate 100 = .ok (.aload_n 0, 1) := by decide +kernel
theorem dX6_simulate_101 : decode cX6_simulate 101 = .ok (.getfield 23, 3) := by decide +kernel
theorem dX6_simulate_104 : decode cX6_simulate 104 = .ok (.invokevirtual 139, 3) := by decide +kernel
theorem dX6_simulate_107 : decode cX6_simulate 107 = .ok (.iadd, 1) := by decide +kernel
theorem dX6_simulate_108 : decode cX6_simulate 108 = .ok (.ireturn, 1) := by decide +kernel
set_option maxRecDepth 20000 in
theorem ggX6_simulateMove_X2_isShifted : GoodIn wsX6_simulateMove wsX2_isShifted := goodIn_r _ [7, 8, 220, 221, 222, 223, 224, 225, 226, 227] (by decide +kernel) (by decide +kernel)
set_option maxRecDepth 20000 in
theorem gX6_simulateMove_X2_isShifted : GoodIn wsX6_simulateMove (wsV RX6 136 RX2 yX2_isShifted wsX2_isShifted) := goodIn_app (goodIn_of _ (by decide +kernel)) ggX6_simulateMove_X2_isShifted
set_option maxRecDepth 20000 in
theorem ggX6_simulateMove_X2_tryShift : GoodIn wsX6_simulateMove wsX2_tryShift := goodIn_r _ [12, 13, 14, 15, 6, 16, 8, 17, 18, 19, 20, 21, 22, 23, 24, 25, 26, 27, 28, 29, 30, 31, 32, 33, 34, 35, 36, 37, 38, 39, 40, 41, 42, 43, 44, 45, 46, 47, 48, 49, 50, 51, 52, 53, 54, 55, 56, 57, 58, 59, 60, 61, 62, 63, 220, 221, 222, 223, 224, 225, 226, 227, 228, 229, 230, 231, 232, 233, 234, 235] (by decide +kernel) (by decide +kernel)
set_option maxRecDepth 20000 in
theorem gX6_simulateMove_X2_tryShift : GoodIn wsX6_simulateMove (wsV RX6 122 RX2 yX2_tryShift wsX2_tryShift) := goodIn_app (goodIn_of _ (by decide +kernel)) ggX6_simulateMove_X2_tryShift
set_option maxRecDepth 20000 in
theorem ggX6_simulateMove_X4_finishTurn : GoodIn wsX6_simulateMove wsX4_finishTurn := goodIn_r _ [68, 69, 70, 71, 72, 19, 20, 6, 21, 22, 23, 73, 74, 75, 67, 76, 77, 78, 79, 80, 81, 82, 83, 84, 85, 86, 87, 14, 15, 16, 8, 17, 18, 24, 25, 26, 27, 28, 29, 30, 31, 32, 33, 34, 35, 36, 37, 38, 39, 40, 41, 42, 43, 44, 45, 88, 89, 90, 91, 92, 54, 93, 94, 95, 96, 55, 97, 63, 98, 99, 51, 52, 53, 56, 57, 58, 59, 60, 61, 62, 100, 101, 102, 103, 104, 105, 106, 107, 108, 109, 110, 111, 112, 113, 114, 115, 116, 117, 118, 119, 120, 121, 122, 123, 124, 125, 126, 127, 128, 129, 130, 131, 132, 133, 134, 135, 136, 137, 138, 139, 140, 141, 142, 47, 48, 49, 50, 143, 144, 145, 146, 147, 148, 149, 150, 151, 152, 153, 154, 155, 156, 157, 158, 159, 160, 161, 162, 163, 164, 165, 166, 167, 168, 169, 170, 171, 172, 173, 174, 175, 176, 177, 178, 179, 180, 181, 236, 237, 238, 239, 240, 220, 221, 222, 223, 224, 225, 226, 227, 228, 229, 230, 231, 232, 233, 234, 235] (by decide +kernel) (by decide +kernel)
set_option maxRecDepth 20000 in
theorem gX6_simulateMove_X4_finishTurn : GoodIn wsX6_simulateMove (wsV RX6 269 RX4 yX4_finishTurn wsX4_finishTurn) := goodIn_app (goodIn_of _ (by decide +kernel)) ggX6_simulateMove_X4_finishTurn
set_option maxRecDepth 20000 in
theorem ggX6_simulateMove_X2_tryLock : GoodIn wsX6_simulateMove wsX2_tryLock := goodIn_r _ [185, 186, 187, 188, 6, 189, 8, 18, 19, 20, 21, 22, 23, 28, 29, 30, 190, 191, 192, 193, 17, 33, 34, 35, 36, 37, 194, 195, 196, 41, 197, 43, 167, 168, 169, 170, 171, 172, 173, 174, 175, 176, 98, 177, 101, 102, 103, 104, 105, 106, 178, 179, 180, 181, 220, 221, 222, 223, 224, 225, 226, 227, 228, 229, 230, 231, 232, 233, 234, 235] (by decide +kernel) (by decide +kernel)
set_option maxRecDepth 20000 in
theorem gX6_simulateMove_X2_tryLock : GoodIn wsX6_simulateMove (wsV RX6 129 RX2 yX2_tryLock wsX2_tryLock) := goodIn_app (goodIn_of _ (by decide +kernel)) ggX6_simulateMove_X2_tryLock
set_option maxRecDepth 20000 in
theorem ggX6_simulateMove_X2_tryGo : GoodIn wsX6_simulateMove wsX2_tryGo := goodIn_r _ [201, 202, 203, 204, 6, 205, 17, 186, 187, 188, 189, 8, 18, 19, 20, 21, 22, 23, 206, 207, 208, 209, 24, 25, 26, 27, 33, 34, 35, 36, 37, 177, 101, 102, 103, 104, 105, 29, 106, 210, 108, 109, 41, 110, 63, 111, 112, 113, 114, 54, 115, 116, 117, 118, 119, 120, 121, 130, 131, 132, 133, 134, 211, 160, 161, 162, 163, 164, 165, 166, 55, 98, 126, 127, 128, 129, 97, 167, 168, 169, 170, 171, 172, 173, 174, 175, 176, 178, 179, 180, 181, 43, 220, 221, 222, 223, 224, 225, 226, 227, 228, 229, 230, 231, 232, 233, 234, 235] (by decide +kernel) (by decide +kernel)
set_option maxRecDepth 20000 in
theorem gX6_simulateMove_X2_tryGo : GoodIn wsX6_simulateMove (wsV RX6 126 RX2 yX2_tryGo wsX2_tryGo) := goodIn_app (goodIn_of _ (by decide +kernel)) ggX6_simulateMove_X2_tryGo
theorem dX6_simulateMove_0 : decode cX6_simulateMove 0 = .ok (.aload_n 0, 1) := by decide +kernel
theorem dX6_simulateMove_1 : decode cX6_simulateMove 1 = .ok (.getfield 23, 3) := by decide +kernel
theorem dX6_simulateMove_4 : decode cX6_simulateMove 4 = .ok (.invokevirtual 136, 3) := by decide +kernel
theorem dX6_simulateMove_7 : decode cX6_simulateMove 7 = .ok (.ifCond .ne 43, 3) := by decide +kernel
theorem dX6_simulateMove_10 : decode cX6_simulateMove 10 = .ok (.aload_n 0, 1) := by decide +kernel
theorem dX6_simulateMove_11 : decode cX6_simulateMove 11 = .ok (.getfield 23, 3) := by decide +kernel
theorem dX6_simulateMove_14 : decode cX6_simulateMove 14 = .ok (.iload_n 1, 1) := by decide +kernel
theorem dX6_simulateMove_15 : decode cX6_simulateMove 15 = .ok (.iconst 4, 1) := by decide +kernel
theorem dX6_simulateMove_16 : decode cX6_simulateMove 16 = .ok (.irem, 1) := by decide +kernel
theorem dX6_simulateMove_17 : decode cX6_simulateMove 17 = .ok (.iload_n 1, 1) := by decide +kernel
theorem dX6_simulateMove_18 : decode cX6_simulateMove 18 = .ok (.iconst 4, 1) := by decide +kernel
theorem dX6_simulateMove_19 : decode cX6_simulateMove 19 = .ok (.idiv, 1) := by decide +kernel
theorem dX6_simulateMove_20 : decode cX6_simulateMove 20 = .ok (.bipush 6, 2) := by decide +kernel
theorem dX6_simulateMove_22 : decode cX6_simulateMove 22 = .ok (.irem, 1) := by decide +kernel
theorem dX6_simulateMove_23 : decode cX6_simulateMove 23 = .ok (.iload_n 1, 1) := by decide +kernel
theorem dX6_simulateMove_24 : decode cX6_simulateMove 24 = .ok (.bipush 32, 2) := by decide +kernel
theorem dX6_simulateMove_26 : decode cX6_simulateMove 26 = .ok (.idiv, 1) := by decide +kernel
theorem dX6_simulateMove_27 : decode cX6_simulateMove 27 = .ok (.iconst 2, 1) := by decide +kernel
theorem dX6_simulateMove_28 : decode cX6_simulateMove 28 = .ok (.irem, 1) := by decide +kernel
theorem dX6_simulateMove_29 : decode cX6_simulateMove 29 = .ok (.invokevirtual 122, 3) := by decide +kernel
theorem dX6_simulateMove_32 : decode cX6_simulateMove 32 = .ok (.ifCond .ne 72, 3) := by decide +kernel
theorem dX6_simulateMove_35 : decode cX6_simulateMove 35 = .ok (.aload_n 0, 1) := by decide +kernel
theorem dX6_simulateMove_36 : decode cX6_simulateMove 36 = .ok (.getfield 29, 3) := by decide +kernel
theorem dX6_simulateMove_39 : decode cX6_simulateMove 39 = .ok (.aload_n 0, 1) := by decide +kernel
theorem dX6_simulateMove_40 : decode cX6_simulateMove 40 = .ok (.getfield 23, 3) := by decide +kernel
theorem dX6_simulateMove_43 : decode cX6_simulateMove 43 = .ok (.invokevirtual 269, 3) := by decide +kernel
theorem dX6_simulateMove_46 : decode cX6_simulateMove 46 = .ok (.pop, 1) := by decide +kernel
theorem dX6_simulateMove_47 : decode cX6_simulateMove 47 = .ok (.goto 57, 3) := by decide +kernel
theorem dX6_simulateMove_50 : decode cX6_simulateMove 50 = .ok (.iload_n 1, 1) := by decide +kernel
theorem dX6_simulateMove_51 : decode cX6_simulateMove 51 = .ok (.bipush 8, 2) := by decide +kernel
theorem dX6_simulateMove_53 : decode cX6_simulateMove 53 = .ok (.irem, 1) := by decide +kernel
theorem dX6_simulateMove_54 : decode cX6_simulateMove 54 = .ok (.ifCond .ne 21, 3) := by decide +kernel
theorem dX6_simulateMove_57 : decode cX6_simulateMove 57 = .ok (.aload_n 0, 1) := by decide +kernel
theorem dX6_simulateMove_58 : decode cX6_simulateMove 58 = .ok (.getfield 23, 3) := by decide +kernel
theorem dX6_simulateMove_61 : decode cX6_simulateMove 61 = .ok (.iload_n 1, 1) := by decide +kernel
theorem dX6_simulateMove_62 : decode cX6_simulateMove 62 = .ok (.bipush 8, 2) := by decide +kernel
theorem dX6_simulateMove_64 : decode cX6_simulateMove 64 = .ok (.idiv, 1) := by decide +kernel
theorem dX6_simulateMove_65 : decode cX6_simulateMove 65 = .ok (.bipush 6, 2) := by decide +kernel
theorem dX6_simulateMove_67 : decode cX6_simulateMove 67 = .ok (.irem, 1) := by decide +kernel
theorem dX6_simulateMove_68 : decode cX6_simulateMove 68 = .ok (.invokevirtual 129, 3) := by decide +kernel
theorem dX6_simulateMove_71 : decode cX6_simulateMove 71 = .ok (.pop, 1) := by decide +kernel
theorem dX6_simulateMove_72 : decode cX6_simulateMove 72 = .ok (.goto 32, 3) := by decide +kernel
theorem dX6_simulateMove_75 : decode cX6_simulateMove 75 = .ok (.aload_n 0, 1) := by decide +kernel
theorem dX6_simulateMove_76 : decode cX6_simulateMove 76 = .ok (.getfield 23, 3) := by decide +kernel
theorem dX6_simulateMove_79 : decode cX6_simulateMove 79 = .ok (.iload_n 1, 1) := by decide +kernel
theorem dX6_simulateMove_80 : decode cX6_simulateMove 80 = .ok (.bipush 8, 2) := by decide +kernel
theorem dX6_simulateMove_82 : decode cX6_simulateMove 82 = .ok (.idiv, 1) := by decide +kernel
theorem dX6_simulateMove_83 : decode cX6_simulateMove 83 = .ok (.bipush 9, 2) := by decide +kernel
theorem dX6_simulateMove_85 : decode cX6_simulateMove 85 = .ok (.irem, 1) := by decide +kernel
theorem dX6_simulateMove_86 : decode cX6_simulateMove 86 = .ok (.invokevirtual 126, 3) := by decide +kernel
theorem dX6_simulateMove_89 : decode cX6_simulateMove 89 = .ok (.ifCond .ne 15, 3) := by decide +kernel
theorem dX6_simulateMove_92 : decode cX6_simulateMove 92 = .ok (.aload_n 0, 1) := by decide +kernel
theorem dX6_simulateMove_93 : decode cX6_simulateMove 93 = .ok (.getfield 29, 3) := by decide +kernel
theorem dX6_simulateMove_96 : decode cX6_simulateMove 96 = .ok (.aload_n 0, 1) := by decide +kernel
theorem dX6_simulateMove_97 : decode cX6_simulateMove 97 = .ok (.getfield 23, 3) := by decide +kernel
theorem dX6_simulateMove_100 : decode cX6_simulateMove 100 = .ok (.invokevirtual 269, 3) := by decide +kernel
theorem dX6_simulateMove_103 : decode cX6_simulateMove 103 = .ok (.pop, 1) := by decide +kernel
theorem dX6_simulateMove_104 : decode cX6_simulateMove 104 = .ok (.return_, 1) := by decide +kernel
set_option maxRecDepth 20000 in
theorem ggX6_save_X6_isSlot : GoodIn wsX6_save wsX6_isSlot := goodIn_r _ [9] (by decide +kernel) (by decide +kernel)
set_option maxRecDepth 20000 in
theorem gX6_save_X6_isSlot : GoodIn wsX6_save (va_wsS RX6 349 yX6_isSlot wsX6_isSlot) := goodIn_app (goodIn_of _ (by decide +kernel)) ggX6_save_X6_isSlot
set_option maxRecDepth 20000 in
theorem ggX6_save_X2_copyFrom : GoodIn wsX6_save wsX2_copyFrom := goodIn_r _ [14, 15, 16, 17, 18, 19, 20, 21, 22, 23, 24, 25, 26, 27, 28, 29, 30, 31, 32, 33, 34, 35, 36, 37, 38, 39, 40, 53, 54, 55, 56, 57, 58, 59, 60, 61, 62, 63, 64, 65, 66, 67, 68] (by decide +kernel) (by decide +kernel)
set_option maxRecDepth 20000 in
theorem gX6_save_X2_copyFrom : GoodIn wsX6_save (wsV RX6 299 RX2 yX2_copyFrom wsX2_copyFrom) := goodIn_app (goodIn_of _ (by decide +kernel)) ggX6_save_X2_copyFrom
set_option maxRecDepth 20000 in
theorem ggX6_save_X2_players : GoodIn wsX6_save wsX2_players := goodIn_r _ [44, 21, 53, 54, 55, 56, 57, 58, 59, 60] (by decide +kernel) (by decide +kernel)
set_option maxRecDepth 20000 in
theorem gX6_save_X2_players : GoodIn wsX6_save (wsV RX6 132 RX2 yX2_players wsX2_players) := goodIn_app (goodIn_of _ (by decide +kernel)) ggX6_save_X2_players
theorem dX6_save_0 : decode cX6_save 0 = .ok (.iload_n 1, 1) := by decide +kernel
theorem dX6_save_1 : decode cX6_save 1 = .ok (.invokestatic 349, 3) := by decide +kernel
theorem dX6_save_4 : decode cX6_save 4 = .ok (.ifCond .ne 14, 3) := by decide +kernel
theorem dX6_save_7 : decode cX6_save 7 = .ok (.new 156, 3) := by decide +kernel
theorem dX6_save_10 : decode cX6_save 10 = .ok (.dup, 1) := by decide +kernel
theorem dX6_save_11 : decode cX6_save 11 = .ok (.ldc_w 352, 3) := by decide +kernel
theorem dX6_save_14 : decode cX6_save 14 = .ok (.invokespecial 160, 3) := by decide +kernel
theorem dX6_save_17 : decode cX6_save 17 = .ok (.athrow, 1) := by decide +kernel
theorem dX6_save_18 : decode cX6_save 18 = .ok (.aload_n 0, 1) := by decide +kernel
theorem dX6_save_19 : decode cX6_save 19 = .ok (.getfield 47, 3) := by decide +kernel
theorem dX6_save_22 : decode cX6_save 22 = .ok (.iload_n 1, 1) := by decide +kernel
theorem dX6_save_23 : decode cX6_save 23 = .ok (.aaload, 1) := by decide +kernel
theorem dX6_save_24 : decode cX6_save 24 = .ok (.aload_n 0, 1) := by decide +kernel
theorem dX6_save_25 : decode cX6_save 25 = .ok (.getfield 19, 3) := by decide +kernel
theorem dX6_save_28 : decode cX6_save 28 = .ok (.invokevirtual 299, 3) := by decide +kernel
theorem dX6_save_31 : decode cX6_save 31 = .ok (.aload_n 0, 1) := by decide +kernel
theorem dX6_save_32 : decode cX6_save 32 = .ok (.getfield 51, 3) := by decide +kernel
theorem dX6_save_35 : decode cX6_save 35 = .ok (.iload_n 1, 1) := by decide +kernel
theorem dX6_save_36 : decode cX6_save 36 = .ok (.iconst 1, 1) := by decide +kernel
theorem dX6_save_37 : decode cX6_save 37 = .ok (.bastore, 1) := by decide +kernel
theorem dX6_save_38 : decode cX6_save 38 = .ok (.aload_n 0, 1) := by decide +kernel
theorem dX6_save_39 : decode cX6_save 39 = .ok (.getfield 19, 3) := by decide +kernel
theorem dX6_save_42 : decode cX6_save 42 = .ok (.invokevirtual 132, 3) := by decide +kernel
theorem dX6_save_45 : decode cX6_save 45 = .ok (.ireturn, 1) := by decide +kernel
set_option maxRecDepth 20000 in
theorem ggX6_restore_X6_isSlot : GoodIn wsX6_restore wsX6_isSlot := goodIn_r _ [12] (by decide +kernel) (by decide +kernel)
set_option maxRecDepth 20000 in
theorem gX6_restore_X6_isSlot : GoodIn wsX6_restore (va_wsS RX6 349 yX6_isSlot wsX6_isSlot) := goodIn_app (goodIn_of _ (by decide +kernel)) ggX6_restore_X6_isSlot
set_option maxRecDepth 20000 in
theorem ggX6_restore_X2_copyFrom : GoodIn wsX6_restore wsX2_copyFrom := goodIn_r _ [17, 18, 19, 20, 21, 22, 23, 24, 25, 26, 27, 28, 29, 30, 31, 32, 33, 34, 35, 36, 37, 38, 39, 40, 41, 42, 43, 62, 63, 64, 65, 66, 67, 68, 69, 70, 71, 72, 73, 74, 75, 76, 77] (by decide +kernel) (by decide +kernel)
set_option maxRecDepth 20000 in
theorem gX6_restore_X2_copyFrom : GoodIn wsX6_restore (wsV RX6 299 RX2 yX2_copyFrom wsX2_copyFrom) := goodIn_app (goodIn_of _ (by decide +kernel)) ggX6_restore_X2_copyFrom
set_option maxRecDepth 20000 in
theorem ggX6_restore_X3_forget : GoodIn wsX6_restore wsX3_forget := goodIn_r _ [48, 49, 78, 79, 80] (by decide +kernel) (by decide +kernel)
set_option maxRecDepth 20000 in
theorem gX6_restore_X3_forget : GoodIn wsX6_restore (wsV RX6 111 RX3 yX3_forget wsX3_forget) := goodIn_app (goodIn_of _ (by decide +kernel)) ggX6_restore_X3_forget
set_option maxRecDepth 20000 in
theorem ggX6_restore_X2_players : GoodIn wsX6_restore wsX2_players := goodIn_r _ [53, 24, 62, 63, 64, 65, 66, 67, 68, 69] (by decide +kernel) (by decide +kernel)
set_option maxRecDepth 20000 in
theorem gX6_restore_X2_players : GoodIn wsX6_restore (wsV RX6 132 RX2 yX2_players wsX2_players) := goodIn_app (goodIn_of _ (by decide +kernel)) ggX6_restore_X2_players
theorem dX6_restore_0 : decode cX6_restore 0 = .ok (.iload_n 1, 1) := by decide +kernel
theorem dX6_restore_1 : decode cX6_restore 1 = .ok (.invokestatic 349, 3) := by decide +kernel
theorem dX6_restore_4 : decode cX6_restore 4 = .ok (.ifCond .ne 14, 3) := by decide +kernel
theorem dX6_restore_7 : decode cX6_restore 7 = .ok (.new 156, 3) := by decide +kernel
theorem dX6_restore_10 : decode cX6_restore 10 = .ok (.dup, 1) := by decide +kernel
theorem dX6_restore_11 : decode cX6_restore 11 = .ok (.ldc_w 352, 3) := by decide +kernel
theorem dX6_restore_14 : decode cX6_restore 14 = .ok (.invokespecial 160, 3) := by decide +kernel
theorem dX6_restore_17 : decode cX6_restore 17 = .ok (.athrow, 1) := by decide +kernel
theorem dX6_restore_18 : decode cX6_restore 18 = .ok (.aload_n 0, 1) := by decide +kernel
theorem dX6_restore_19 : decode cX6_restore 19 = .ok (.getfield 51, 3) := by decide +kernel
theorem dX6_restore_22 : decode cX6_restore 22 = .ok (.iload_n 1, 1) := by decide +kernel
theorem dX6_restore_23 : decode cX6_restore 23 = .ok (.baload, 1) := by decide +kernel
theorem dX6_restore_24 : decode cX6_restore 24 = .ok (.ifCond .ne 14, 3) := by decide +kernel
theorem dX6_restore_27 : decode cX6_restore 27 = .ok (.new 66, 3) := by decide +kernel
theorem dX6_restore_30 : decode cX6_restore 30 = .ok (.dup, 1) := by decide +kernel
theorem dX6_restore_31 : decode cX6_restore 31 = .ok (.ldc_w 354, 3) := by decide +kernel
theorem dX6_restore_34 : decode cX6_restore 34 = .ok (.invokespecial 70, 3) := by decide +kernel
theorem dX6_restore_37 : decode cX6_restore 37 = .ok (.athrow, 1) := by decide +kernel
theorem dX6_restore_38 : decode cX6_restore 38 = .ok (.aload_n 0, 1) := by decide +kernel
theorem dX6_restore_39 : decode cX6_restore 39 = .ok (.getfield 19, 3) := by decide +kernel
theorem dX6_restore_42 : decode cX6_restore 42 = .ok (.aload_n 0, 1) := by decide +kernel
theorem dX6_restore_43 : decode cX6_restore 43 = .ok (.getfield 47, 3) := by decide +kernel
theorem dX6_restore_46 : decode cX6_restore 46 = .ok (.iload_n 1, 1) := by decide +kernel
theorem dX6_restore_47 : decode cX6_restore 47 = .ok (.aaload, 1) := by decide +kernel
theorem dX6_restore_48 : decode cX6_restore 48 = .ok (.invokevirtual 299, 3) := by decide +kernel
theorem dX6_restore_51 : decode cX6_restore 51 = .ok (.aload_n 0, 1) := by decide +kernel
theorem dX6_restore_52 : decode cX6_restore 52 = .ok (.getfield 43, 3) := by decide +kernel
theorem dX6_restore_55 : decode cX6_restore 55 = .ok (.invokevirtual 111, 3) := by decide +kernel
theorem dX6_restore_58 : decode cX6_restore 58 = .ok (.aload_n 0, 1) := by decide +kernel
theorem dX6_restore_59 : decode cX6_restore 59 = .ok (.getfield 19, 3) := by decide +kernel
theorem dX6_restore_62 : decode cX6_restore 62 = .ok (.invokevirtual 132, 3) := by decide +kernel
theorem dX6_restore_65 : decode cX6_restore 65 = .ok (.ireturn, 1) := by decide +kernel
theorem dX6_isPlace_0 : decode cX6_isPlace 0 = .ok (.iload_n 0, 1) := by decide +kernel
theorem dX6_isPlace_1 : decode cX6_isPlace 1 = .ok (.ifCond .lt 13, 3) := by decide +kernel
theorem dX6_isPlace_4 : decode cX6_isPlace 4 = .ok (.iload_n 0, 1) := by decide +kernel
theorem dX6_isPlace_5 : decode cX6_isPlace 5 = .ok (.bipush 9, 2) := by decide +kernel
theorem dX6_isPlace_7 : decode cX6_isPlace 7 = .ok (.if_icmp .ge 7, 3) := by decide +kernel
theorem dX6_isPlace_10 : decode cX6_isPlace 10 = .ok (.iconst 1, 1) := by decide +kernel
theorem dX6_isPlace_11 : decode cX6_isPlace 11 = .ok (.goto 4, 3) := by decide +kernel
theorem dX6_isPlace_14 : decode cX6_isPlace 14 = .ok (.iconst 0, 1) := by decide +kernel
theorem dX6_isPlace_15 : decode cX6_isPlace 15 = .ok (.ireturn, 1) := by decide +kernel
set_option maxRecDepth 20000 in
theorem ggX6_isIn_X6_isPlace : GoodIn wsX6_isIn wsX6_isPlace := goodIn_r _ [4] (by decide +kernel) (by decide +kernel)
set_option maxRecDepth 20000 in
theorem gX6_isIn_X6_isPlace : GoodIn wsX6_isIn (va_wsS RX6 153 yX6_isPlace wsX6_isPlace) := goodIn_app (goodIn_of _ (by decide +kernel)) ggX6_isIn_X6_isPlace
theorem dX6_isIn_0 : decode cX6_isIn 0 = .ok (.iload_n 1, 1) := by decide +kernel
theorem dX6_isIn_1 : decode cX6_isIn 1 = .ok (.invokestatic 153, 3) := by decide +kernel
theorem dX6_isIn_4 : decode cX6_isIn 4 = .ok (.ifCond .eq 16, 3) := by decide +kernel
theorem dX6_isIn_7 : decode cX6_isIn 7 = .ok (.iload_n 0, 1) := by decide +kernel
theorem dX6_isIn_8 : decode cX6_isIn 8 = .ok (.iload_n 1, 1) := by decide +kernel
theorem dX6_isIn_9 : decode cX6_isIn 9 = .ok (.ishr, 1) := by decide +kernel
theorem dX6_isIn_10 : decode cX6_isIn 10 = .ok (.iconst 1, 1) := by decide +kernel
theorem dX6_isIn_11 : decode cX6_isIn 11 = .ok (.iand, 1) := by decide +kernel
theorem dX6_isIn_12 : decode cX6_isIn 12 = .ok (.iconst 1, 1) := by decide +kernel
theorem dX6_isIn_13 : decode cX6_isIn 13 = .ok (.if_icmp .ne 7, 3) := by decide +kernel
theorem dX6_isIn_16 : decode cX6_isIn 16 = .ok (.iconst 1, 1) := by decide +kernel
theorem dX6_isIn_17 : decode cX6_isIn 17 = .ok (.goto 4, 3) := by decide +kernel
theorem dX6_isIn_20 : decode cX6_isIn 20 = .ok (.iconst 0, 1) := by decide +kernel
theorem dX6_isIn_21 : decode cX6_isIn 21 = .ok (.ireturn, 1) := by decide +kernel
theorem dX6_isLine_0 : decode cX6_isLine 0 = .ok (.iload_n 0, 1) := by decide +kernel
theorem dX6_isLine_1 : decode cX6_isLine 1 = .ok (.ifCond .lt 13, 3) := by decide +kernel
theorem dX6_isLine_4 : decode cX6_isLine 4 = .ok (.iload_n 0, 1) := by decide +kernel
theorem dX6_isLine_5 : decode cX6_isLine 5 = .ok (.bipush 6, 2) := by decide +kernel
theorem dX6_isLine_7 : decode cX6_isLine 7 = .ok (.if_icmp .ge 7, 3) := by decide +kernel
theorem dX6_isLine_10 : decode cX6_isLine 10 = .ok (.iconst 1, 1) := by decide +kernel
theorem dX6_isLine_11 : decode cX6_isLine 11 = .ok (.goto 4, 3) := by decide +kernel
theorem dX6_isLine_14 : decode cX6_isLine 14 = .ok (.iconst 0, 1) := by decide +kernel
theorem dX6_isLine_15 : decode cX6_isLine 15 = .ok (.ireturn, 1) := by decide +kernel
theorem dX6_isDirection_0 : decode cX6_isDirection 0 = .ok (.iload_n 0, 1) := by decide +kernel
theorem dX6_isDirection_1 : decode cX6_isDirection 1 = .ok (.ifCond .eq 8, 3) := by decide +kernel
theorem dX6_isDirection_4 : decode cX6_isDirection 4 = .ok (.iload_n 0, 1) := by decide +kernel
theorem dX6_isDirection_5 : decode cX6_isDirection 5 = .ok (.iconst 1, 1) := by decide +kernel
theorem dX6_isDirection_6 : decode cX6_isDirection 6 = .ok (.if_icmp .ne 7, 3) := by decide +kernel
theorem dX6_isDirection_9 : decode cX6_isDirection 9 = .ok (.iconst 1, 1) := by decide +kernel
theorem dX6_isDirection_10 : decode cX6_isDirection 10 = .ok (.goto 4, 3) := by decide +kernel
theorem dX6_isDirection_13 : decode cX6_isDirection 13 = .ok (.iconst 0, 1) := by decide +kernel
theorem dX6_isDirection_14 : decode cX6_isDirection 14 = .ok (.ireturn, 1) := by decide +kernel
theorem dX6_isSetting_0 : decode cX6_isSetting 0 = .ok (.iload_n 0, 1) := by decide +kernel
theorem dX6_isSetting_1 : decode cX6_isSetting 1 = .ok (.ifCond .lt 12, 3) := by decide +kernel
theorem dX6_isSetting_4 : decode cX6_isSetting 4 = .ok (.iload_n 0, 1) := by decide +kernel
theorem dX6_isSetting_5 : decode cX6_isSetting 5 = .ok (.iconst 3, 1) := by decide +kernel
theorem dX6_isSetting_6 : decode cX6_isSetting 6 = .ok (.if_icmp .ge 7, 3) := by decide +kernel
theorem dX6_isSetting_9 : decode cX6_isSetting 9 = .ok (.iconst 1, 1) := by decide +kernel
theorem dX6_isSetting_10 : decode cX6_isSetting 10 = .ok (.goto 4, 3) := by decide +kernel
theorem dX6_isSetting_13 : decode cX6_isSetting 13 = .ok (.iconst 0, 1) := by decide +kernel
theorem dX6_isSetting_14 : decode cX6_isSetting 14 = .ok (.ireturn, 1) := by decide +kernel
theorem dX6_isSlot_0 : decode cX6_isSlot 0 = .ok (.iload_n 0, 1) := by decide +kernel
theorem dX6_isSlot_1 : decode cX6_isSlot 1 = .ok (.ifCond .lt 12, 3) := by decide +kernel
theorem dX6_isSlot_4 : decode cX6_isSlot 4 = .ok (.iload_n 0, 1) := by decide +kernel
theorem dX6_isSlot_5 : decode cX6_isSlot 5 = .ok (.iconst 2, 1) := by decide +kernel
theorem dX6_isSlot_6 : decode cX6_isSlot 6 = .ok (.if_icmp .ge 7, 3) := by decide +kernel
theorem dX6_isSlot_9 : decode cX6_isSlot 9 = .ok (.iconst 1, 1) := by decide +kernel
theorem dX6_isSlot_10 : decode cX6_isSlot 10 = .ok (.goto 4, 3) := by decide +kernel
theorem dX6_isSlot_13 : decode cX6_isSlot 13 = .ok (.iconst 0, 1) := by decide +kernel
theorem dX6_isSlot_14 : decode cX6_isSlot 14 = .ok (.ireturn, 1) := by decide +kernel
